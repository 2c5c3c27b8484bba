/-! ===== dams: which words may be a line, prices, the search ===== -/
def exD (d : Int → Int) (i j : Int) : Int := exF (lenD d) (d 1) i j
def isLn (d : Int → Int) (i j : Int) : Prop := ∃ l, 0 ≤ l ∧ l < d 3 ∧ sd d l = i ∧ sd d (l + 1) = j
def frLn (d : Int → Int) (i j : Int) : Prop := ∃ l, 0 ≤ l ∧ l < d 3 ∧ sd d l = i ∧ sd d (l + 1) = j ∧ d (53 + l) = 1
def mayD (d : Int → Int) (i j : Int) : Prop := frLn d i j ∨ (¬ ∃ l, 0 ≤ l ∧ l < d 3 ∧ d (53 + l) = 1 ∧ sd d l < j ∧ i < sd d (l + 1)) ∧ (j = d 0 ∨ exD d i j ≤ d 2)
def okD (d : Int → Int) (i j : Int) : Prop := 0 ≤ exD d i j ∧ mayD d i j
noncomputable def okB (d : Int → Int) (i j : Int) : Bool := @decide (okD d i j) (Classical.propDecidable _)
noncomputable def lnB (d : Int → Int) (i j : Int) : Bool := @decide (isLn d i j) (Classical.propDecidable _)
theorem okB_iff {d : Int → Int} {i j : Int} : okB d i j = true ↔ okD d i j := @decide_eq_true_iff _ (Classical.propDecidable _)
theorem lnB_iff {d : Int → Int} {i j : Int} : lnB d i j = true ↔ isLn d i j := @decide_eq_true_iff _ (Classical.propDecidable _)
noncomputable def chD (d : Int → Int) (i j : Int) : Int := if lnB d i j = true then 0 else 1
def bdD (d : Int → Int) (i j : Int) : Int := if j = d 0 then 0 else exD d i j * exD d i j
noncomputable def prD (d : Int → Int) (i j : Int) : Int := bdD d i j + (if lnB d i j = true then 0 else 100000)
/-- the class's test: without a look at frozen lines that begin before i -/
def okC (d : Int → Int) (i j : Int) : Prop := 0 ≤ exD d i j ∧ (¬ ∃ l, 0 ≤ l ∧ l < d 3 ∧ d (53 + l) = 1 ∧ i < sd d l ∧ sd d l < j) ∧ ((∃ l, 0 ≤ l ∧ l < d 3 ∧ d (53 + l) = 1 ∧ sd d l = i) → isLn d i j) ∧ ((∃ l, 0 ≤ l ∧ l < d 3 ∧ d (53 + l) = 1 ∧ sd d l = i) ∨ j = d 0 ∨ exD d i j ≤ d 2)
noncomputable def okCB (d : Int → Int) (i j : Int) : Bool := @decide (okC d i j) (Classical.propDecidable _)
theorem okCB_iff {d : Int → Int} {i j : Int} : okCB d i j = true ↔ okC d i j := @decide_eq_true_iff _ (Classical.propDecidable _)
noncomputable def prC (d : Int → Int) (i j : Int) : Int := if okCB d i j = true then prD d i j else 1000000000
/-- no frozen line goes over the place i -/
def RI (d : Int → Int) (i : Int) : Prop := ∀ l, 0 ≤ l → l < d 3 → d (53 + l) = 1 → ¬ (sd d l < i ∧ i < sd d (l + 1))
theorem RI_0 {d : Int → Int} (h : DOK d) : RI d 0 := by
  intro l h0 h1 _ z
  have := h.bdall (l := l) h0
  omega
theorem RI_step {d : Int → Int} (h : DOK d) {i j : Int} (hij : i < j) (ho : okD d i j) : RI d j := by
  intro l h0 h1 h2 z
  rcases ho.2 with ⟨m, m0, m1, m2, m3, m4⟩ | ⟨hno, -⟩
  · by_cases hlt : l < m
    · have := h.le (x := l + 1) (y := m) (by omega) (by omega) (by omega); omega
    · have := h.le (x := m) (y := l) (by omega) (by omega) (by omega)
      by_cases e : l = m
      · subst e; omega
      · have := h.le (x := m + 1) (y := l) (by omega) (by omega) (by omega); omega
  · exact hno ⟨l, h0, h1, h2, z.1, by omega⟩
theorem okC_iff {d : Int → Int} (h : DOK d) {i j : Int} (hij : i < j) (hr : RI d i) : okC d i j ↔ okD d i j := by
  constructor
  · intro ⟨h1, h2, h3, h4⟩
    refine ⟨h1, ?_⟩
    by_cases hf : ∃ l, 0 ≤ l ∧ l < d 3 ∧ d (53 + l) = 1 ∧ sd d l = i
    · obtain ⟨l, a0, a1, a2, a3⟩ := hf
      obtain ⟨m, b0, b1, b2, b3⟩ := h3 ⟨l, a0, a1, a2, a3⟩
      have e : l = m := by
        have hl := h.2.2.2.2.2.2 l a0 a1
        have hm := h.2.2.2.2.2.2 m b0 b1
        exact h.segu (w := i) a0 a1 (by omega) (by omega) b0 b1 (by omega) (by omega)
      subst e
      exact Or.inl ⟨l, a0, a1, a3, b3, a2⟩
    · refine Or.inr ⟨fun ⟨l, a0, a1, a2, a3, a4⟩ => ?_, ?_⟩
      · by_cases q : sd d l < i
        · exact hr l a0 a1 a2 ⟨q, a4⟩
        · by_cases q2 : sd d l = i
          · exact hf ⟨l, a0, a1, a2, q2⟩
          · exact h2 ⟨l, a0, a1, a2, by omega, a3⟩
      · rcases h4 with h4 | h4
        · exact absurd h4 hf
        · exact h4
  · intro ⟨h1, h2⟩
    rcases h2 with ⟨m, m0, m1, m2, m3, m4⟩ | ⟨hno, hs⟩
    · refine ⟨h1, fun ⟨l, a0, a1, a2, a3, a4⟩ => ?_, fun _ => ⟨m, m0, m1, m2, m3⟩, Or.inl ⟨m, m0, m1, m4, m2⟩⟩
      by_cases hlt : m < l
      · have := h.le (x := m + 1) (y := l) (by omega) (by omega) (by omega); omega
      · have := h.le (x := l) (y := m) a0 (by omega) (by omega); omega
    · have hn : ¬ ∃ l, 0 ≤ l ∧ l < d 3 ∧ d (53 + l) = 1 ∧ sd d l = i := fun ⟨l, a0, a1, a2, a3⟩ => hno ⟨l, a0, a1, a2, by omega, by have := (h.2.2.2.2.2.2 l a0 a1).1; omega⟩
      refine ⟨h1, fun ⟨l, a0, a1, a2, a3, a4⟩ => hno ⟨l, a0, a1, a2, a4, by have := (h.2.2.2.2.2.2 l a0 a1).1; omega⟩, fun z => absurd z hn, Or.inr hs⟩
theorem bdD_bd {d : Int → Int} (h : DOK d) {i j : Int} (h0 : 0 ≤ i) (hij : i < j) (hj : j ≤ d 0) (hx : 0 ≤ exD d i j) : 0 ≤ bdD d i j ∧ bdD d i j ≤ 1681 := by
  unfold bdD
  split
  · omega
  · have hL : ∀ w, 0 ≤ w → w < d 0 → 0 ≤ lenD d w ∧ lenD d w ≤ 8 := fun w a b => by have := h.2.2.2.2.1 w a b; unfold lenD; omega
    have hc := cnt_bd (f := lenD d) h0 (Int.le_of_lt hij) (fun w a b => hL w (by omega) (by omega))
    have hW := h.2.1
    have hu : exD d i j ≤ 41 := by unfold exD exF; omega
    have h1 : 0 ≤ exD d i j * exD d i j := Int.mul_nonneg hx hx
    have h2 : exD d i j * exD d i j ≤ 41 * 41 := Int.mul_le_mul hu hu hx (by omega)
    omega
theorem prD_bd {d : Int → Int} (h : DOK d) {i j : Int} (h0 : 0 ≤ i) (hij : i < j) (hj : j ≤ d 0) (hx : 0 ≤ exD d i j) : 0 ≤ prD d i j ∧ prD d i j ≤ 101681 := by
  have := bdD_bd h h0 hij hj hx
  unfold prD
  split <;> omega
theorem prC_bd {d : Int → Int} (h : DOK d) {i j : Int} (h0 : 0 ≤ i) (hij : i < j) (hj : j ≤ d 0) : 0 ≤ prC d i j ∧ prC d i j ≤ 1000000000 := by
  unfold prC
  split
  · rename_i ho
    have := prD_bd h h0 hij hj (okCB_iff.mp ho).1
    omega
  · omega
/-! the best found so far: its price, lines, river, and where its lines end -/
abbrev Bst : Type := Int × Int × Int × (Int → Int)
def foldN (f : Int → Bst → Bst) (i : Int) : Nat → Bst → Bst
  | 0, b => b
  | c + 1, b => foldN f i c (f (i + c + 1) b)
def qset (Q : Int → Int) (k v : Int) : Int → Int := fun x => if x = k then v else Q x
def mostD (d : Int → Int) (p i j : Int) (r : Int → Int) : Int := mx (fun _ => true) (rlF (lenD d) (d 1) (d 0) p i j r) i (j - 1)
/-- all divisions of the words from i on, longer first lines first: what the best is then. p, i: the line before; r: reaches; price, river, m lines so far, ending as Q says; D: the length told -/
noncomputable def srF (d : Int → Int) (D : Int) : Nat → Int → Int → (Int → Int) → Int → Int → Int → (Int → Int) → Bst → Bst
  | 0 => fun _ _ _ _ _ _ _ b => b
  | t + 1 => fun p i r pr rv m Q b => if d 0 ≤ i then (if pr < b.1 then (pr, m, rv, Q) else b) else
      foldN (fun j b => if okB d i j = true ∧ mostD d p i j r ≤ D then srF d D t i j (rlF (lenD d) (d 1) (d 0) p i j r) (pr + prD d i j) (max rv (mostD d p i j r)) (m + 1) (qset Q (m + 1) j) b else b) i (d 0 - i).toNat b
theorem foldN_id {f : Int → Bst → Bst} {i : Int} {b : Bst} : ∀ (c : Nat), (∀ j : Int, i < j → j ≤ i + c → f j b = b) → foldN f i c b = b
  | 0, _ => rfl
  | c + 1, h => by
    show foldN f i c (f (i + c + 1) b) = b
    rw [h (i + c + 1) (by omega) (by omega)]
    exact foldN_id c (fun j h0 h1 => h j h0 (by omega))
theorem foldN_le {f : Int → Bst → Bst} {i : Int} : ∀ (c : Nat) (b : Bst), (∀ (j : Int) (b : Bst), i < j → j ≤ i + c → (f j b).1 ≤ b.1) → (foldN f i c b).1 ≤ b.1
  | 0, _, _ => Int.le_refl _
  | c + 1, b, h => by
    show (foldN f i c (f (i + c + 1) b)).1 ≤ b.1
    have h1 := foldN_le (f := f) (i := i) c (f (i + c + 1) b) (fun j b h0 h1 => h j b h0 (by omega))
    have h2 := h (i + c + 1) b (by omega) (by omega)
    omega
theorem srF_le (d : Int → Int) (D : Int) : ∀ (t : Nat) (p i : Int) (r : Int → Int) (pr rv m : Int) (Q : Int → Int) (b : Bst), (srF d D t p i r pr rv m Q b).1 ≤ b.1
  | 0, _, _, _, _, _, _, _, b => Int.le_refl _
  | t + 1, p, i, r, pr, rv, m, Q, b => by
    show (if d 0 ≤ i then _ else _ : Bst).1 ≤ b.1
    split
    · split
      · show pr ≤ b.1; omega
      · exact Int.le_refl _
    · refine foldN_le _ _ (fun j b _ _ => ?_)
      show (if _ then _ else _ : Bst).1 ≤ b.1
      split
      · exact srF_le d D t _ _ _ _ _ _ _ b
      · exact Int.le_refl _
/-- least prices from each word on: no division of the words from i on is cheaper -/
def LPok (d : Int → Int) (LP : Int → Int) : Prop := LP (d 0) = 0 ∧ (∀ i, 0 ≤ i → i ≤ d 0 → 0 ≤ LP i ∧ LP i ≤ 1000000000) ∧ ∀ i j, 0 ≤ i → i < j → j ≤ d 0 → LP i ≤ prC d i j + LP j
theorem srF_cut {d : Int → Int} (hD : DOK d) {D : Int} {LP : Int → Int} (hL : LPok d LP) : ∀ (t : Nat) (p i : Int) (r : Int → Int) (pr rv m : Int) (Q : Int → Int) (b : Bst), 0 ≤ i → i ≤ d 0 → RI d i → b.1 ≤ pr + LP i → srF d D t p i r pr rv m Q b = b
  | 0, _, _, _, _, _, _, _, b, _, _, _, _ => rfl
  | t + 1, p, i, r, pr, rv, m, Q, b, h0, h1, hr, hb => by
    show (if d 0 ≤ i then _ else _ : Bst) = b
    split
    · have e : i = d 0 := by omega
      rw [e, hL.1] at hb
      rw [if_neg (by omega)]
    · refine foldN_id _ (fun j g0 g1 => ?_)
      show (if _ then _ else _ : Bst) = b
      split
      · rename_i ho
        have ho1 := okB_iff.mp ho.1
        have hc := (okC_iff hD g0 hr).mpr ho1
        have e : prC d i j = prD d i j := by unfold prC; rw [if_pos (okCB_iff.mpr hc)]
        have h2 := hL.2.2 i j h0 g0 (by omega)
        rw [e] at h2
        exact srF_cut hD hL t i j _ _ _ _ _ b (by omega) (by omega) (RI_step hD g0 ho1) (by omega)
      · rfl
theorem cell_inj {a b x y : Int} (h1 : 0 ≤ b) (h2 : b < 24) (h3 : 0 ≤ y) (h4 : y < 24) (h : a * 24 + b = x * 24 + y) : a = x ∧ b = y := by omega
/-- prices of all lines, and least prices, in their rows -/
def PrOK (M : Mem) (d : Int → Int) : Prop := (∀ i j, 0 ≤ i → i < j → j ≤ d 0 → M 72 (i * 24 + j - i - 1) = prC d i j) ∧ LPok d (M 74)
/-- what the fields and rows of Search say is the best b -/
def BRel (M : Mem) (b : Bst) : Prop := M 54 2 = b.1 ∧ M 54 0 = b.2.1 ∧ M 54 1 = b.2.2.1 ∧ ∀ k, 0 ≤ k → k < b.2.1 → M 78 k = b.2.2.2 (k + 1) - b.2.2.2 k
theorem lay_d {M N : Mem} {c u : Nat} {d r : Int → Int} {p i j x : Int} (hR : PRel M u d) (hp : 0 ≤ p) (hpi : p ≤ i) (hij : i < j) (hj : j ≤ d 0) (hrow : RowsAt M c (lenD d) (d 1) (d 0) p i) (hr : ∀ w, p ≤ w → w < i - 1 → M (c + 8) w = r w) (h : LayP M N c (M (u + 2)) (lexF (M (u + 2)) (M u 0) (M u 2) i j) p i j x) :
    RowsAt N c (lenD d) (d 1) (d 0) i j ∧ (∀ w, i ≤ w → w < j - 1 → N (c + 8) w = rlF (lenD d) (d 1) (d 0) p i j r w) ∧ (∀ w, w < i ∨ j ≤ w → N (c + 2) w = M (c + 2) w ∧ N (c + 4) w = M (c + 4) w ∧ N (c + 6) w = M (c + 6) w ∧ N (c + 8) w = M (c + 8) w) ∧ (∀ e, e ≠ c + 2 → e ≠ c + 4 → e ≠ c + 6 → e ≠ c + 8 → N e = M e) ∧ x = mostD d p i j r ∧ (∀ w, i ≤ w → w < j → N (c + 8) w ≤ x ∧ 0 ≤ N (c + 8) w) := by
  have hlen : ∀ w, 0 ≤ w → w < d 0 → M (u + 2) w = lenD d w := hR.2.2.2.2.2.1
  rw [hR.1, hR.2.2.1] at h
  obtain ⟨a1, a2, a3, a4, a5, a6⟩ := lay_rl (r := r) hpi hij (hrow.congr (fun w q0 q1 => (hlen w q0 q1).symm) hp (by omega)) hr h
  have key : ∀ w, i ≤ w → w < j - 1 → rlF (M (u + 2)) (d 1) (d 0) p i j r w = rlF (lenD d) (d 1) (d 0) p i j r w := fun w g0 g1 => rlF_congr hlen hp hpi hj (fun _ _ _ => rfl) g0 g1
  have ex : x = mostD d p i j r := by
    rw [a6]
    exact mx_congr (fun w q0 q1 => ⟨rfl, fun _ => key w q0 q1⟩)
  refine ⟨a1.congr hlen (by omega) hj, fun w g0 g1 => by rw [a2 w g0 g1, key w g0 g1], a4, a5, ex, fun w g0 g1 => ?_⟩
  by_cases hl : w < j - 1
  · rw [a2 w g0 hl, a6]
    refine ⟨mx_ge (f := fun _ => true) g0 hl rfl, ?_⟩
    unfold rlF
    rw [if_pos ⟨g0, hl⟩]
    have := mx_nn (f := fun g => gmt (M (u + 2)) (d 1) (d 0) p i j g w) (r := r) (a := p) (e := i - 1)
    omega
  · rw [show w = j - 1 by omega, a3, a6]
    have := mx_nn (f := fun _ => true) (r := rlF (M (u + 2)) (d 1) (d 0) p i j r) (a := i) (e := j - 1)
    omega
