/-! ===== the reference: what its methods ask of its cells ===== -/
def WOK (d : Int → Int) : Prop := (0 ≤ d 0 ∧ d 0 ≤ 24) ∧ (16 ≤ d 1 ∧ d 1 ≤ 40) ∧ ∀ w, 0 ≤ w → w < d 0 → 1 ≤ d (4 + w) ∧ d (4 + w) ≤ 8
theorem DOK.w {d : Int → Int} (h : DOK d) : WOK d := ⟨h.1, h.2.1, h.2.2.2.2.1⟩
theorem exD_bd {d : Int → Int} (h : WOK d) {i j : Int} (h0 : 0 ≤ i) (h1 : i ≤ j) (h2 : j ≤ d 0) : -300 ≤ exD d i j ∧ exD d i j ≤ 41 := by
  have hn := h.1
  have hW := h.2.1
  have hc := cnt_bd (f := lenD d) h0 h1 (fun w a b => by have := h.2.2 w (by omega) (by omega); unfold lenD; omega)
  unfold exD exF
  omega
def MfP (d : Int → Int) (i x : Int) : Prop := 0 ≤ x ∧ i + x ≤ d 0 ∧ (∀ k, 0 ≤ k → k < x → 0 ≤ exD d i (i + k + 1)) ∧ (i + x = d 0 ∨ exD d i (i + x + 1) < 0)
def NlP (d : Int → Int) (i j x : Int) : Prop := (0 ≤ x ∧ x < d 3 ∧ sd d x = i ∧ sd d (x + 1) = j) ∨ x = -1 ∧ ¬ isLn d i j
theorem ar83 : shs[83]? = some (0, 77, []) := rfl
theorem ar84 : shs[84]? = some (0, 385, []) := rfl
theorem ar85 : shs[85]? = some (1, 100, []) := rfl
theorem ar86 : shs[86]? = some (0, 24, []) := rfl
theorem ar87 : shs[87]? = some (0, 24, []) := rfl
theorem ar88 : shs[88]? = some (0, 24, []) := rfl
theorem ar89 : shs[89]? = some (0, 24, []) := rfl
theorem ar90 : shs[90]? = some (0, 26, []) := rfl
theorem ar91 : shs[91]? = some (0, 26, []) := rfl
theorem ar92 : shs[92]? = some (0, 26, []) := rfl
theorem ar93 : shs[93]? = some (0, 26, []) := rfl
theorem ar94 : shs[94]? = some (0, 26, []) := rfl
theorem ar95 : shs[95]? = some (0, 26, []) := rfl
theorem md82 : shs[82]? = some (10, 0, [some 83, some 84, none, some 85, none, some 86, some 87, some 88, some 89, some 90, some 91, some 92, some 93, some 94, some 95, none, none, none, none]) := rfl
/-- what 'records' does, and nothing else -/
def RecX (M N : Mem) : Prop := RecP M N ∧ (∀ q, q ≠ 82 → q ≠ 84 → N q = M q) ∧ ∀ j, j ≠ 2 → N 82 j = M 82 j
