/-! ===== the reference reads a text ===== -/
theorem rdD_0 (d t : Int → Int) (j : Int) : rdD d t 0 j = if j = 0 then 0 else d j := by
  unfold rdD
  rw [twd_0]
  by_cases h : j = 0
  · rw [if_pos h, if_pos h]
  · rw [if_neg h, if_neg h, if_neg (by omega)]
theorem rd_blank {d t : Int → Int} {k : Int} (hk : 0 ≤ k) (h : t k = 32) (j : Int) : rdD d t (k + 1) j = rdD d t k j := by
  have e1 : twd t (k + 1) = twd t k := by rw [twd_s t hk, if_neg (fun z => z.1 h)]
  have e2 : ∀ w, wln t (k + 1) w = wln t k w := fun w => by rw [wln_s t hk, if_neg (fun z => z.1 h)]
  unfold rdD
  rw [e1, e2]
theorem rd_new {d t : Int → Int} {k : Int} (hk : 0 ≤ k) (h : t k ≠ 32) (hr : trn t k = 0) (j : Int) : rdD d t (k + 1) j = if j = 4 + twd t k then 1 else if j = 0 then twd t k + 1 else rdD d t k j := by
  have hn := trn_nn t hk
  have e1 : twd t (k + 1) = twd t k + 1 := by rw [twd_s t hk, if_pos ⟨h, hr⟩]
  have e3 : trn t (k + 1) = 1 := by rw [trn_s t hk, if_neg h, hr]; rfl
  have e2 : ∀ w, wln t (k + 1) w = if w = twd t k then 1 else wln t k w := fun w => by
    rw [wln_s t hk, e1, e3]
    by_cases hw : w = twd t k
    · rw [if_pos ⟨h, by omega⟩, if_pos hw]
    · rw [if_neg (fun z => hw (by have := z.2; omega)), if_neg hw]
  unfold rdD
  rw [e1, e2]
  by_cases h0 : j = 0
  · rw [if_pos h0, if_neg (by omega), if_pos h0]
  · rw [if_neg h0]
    by_cases h1 : j = 4 + twd t k
    · rw [if_pos h1, if_pos (by omega), if_pos (by omega)]
    · rw [if_neg h1, if_neg h0, if_neg h0]
      by_cases h2 : 4 ≤ j ∧ j < 4 + twd t k
      · rw [if_pos h2, if_pos (by omega), if_neg (by omega)]
      · rw [if_neg h2, if_neg (by omega)]
theorem rd_more {d t : Int → Int} {k : Int} (hk : 0 ≤ k) (h : t k ≠ 32) (hr : 0 < trn t k) (j : Int) : rdD d t (k + 1) j = if j = 4 + twd t k - 1 then trn t k + 1 else rdD d t k j := by
  have hn := trn_nn t hk
  have hq := hn.2.2.2.2 hr
  have e1 : twd t (k + 1) = twd t k := by rw [twd_s t hk, if_neg (fun z => by have := z.2; omega)]
  have e3 : trn t (k + 1) = trn t k + 1 := by rw [trn_s t hk, if_neg h]
  have e2 : ∀ w, wln t (k + 1) w = if w = twd t k - 1 then trn t k + 1 else wln t k w := fun w => by
    rw [wln_s t hk, e1, e3]
    by_cases hw : w = twd t k - 1
    · rw [if_pos ⟨h, by omega⟩, if_pos hw]
    · rw [if_neg (fun z => hw z.2), if_neg hw]
  unfold rdD
  rw [e1, e2]
  by_cases h0 : j = 0
  · rw [if_pos h0, if_neg (by omega), if_pos h0]
  · rw [if_neg h0, if_neg h0]
    by_cases h1 : j = 4 + twd t k - 1
    · rw [if_pos h1, if_pos (by omega), if_pos (by omega)]
    · rw [if_neg h1]
      by_cases h2 : 4 ≤ j ∧ j < 4 + twd t k
      · rw [if_pos h2, if_pos h2, if_neg (by omega)]
      · rw [if_neg h2, if_neg h2]
theorem wln_le {t : Int → Int} {len : Int} (hno : ∀ j, 0 ≤ j → j < len → ¬ badT t len j) : ∀ (k : Nat) (w : Int), (k : Int) ≤ len → wln t k w ≤ 8 := by
  intro k
  induction k with
  | zero => intro w _; have : wln t ((0 : Nat) : Int) w = 0 := rfl; omega
  | succ k ih =>
    intro w hk
    have h1 := noBad_bd hno (show (0 : Int) ≤ (k : Int) + 1 by omega) (by omega)
    rw [show ((k + 1 : Nat) : Int) = (k : Int) + 1 by omega, wln_s t (by omega)]
    split
    · exact h1.1
    · exact ih w (by omega)
theorem rd_wok {d t : Int → Int} {len : Int} (hno : ∀ j, 0 ≤ j → j < len → ¬ badT t len j) (h0 : 0 ≤ len) (hw : 16 ≤ d 1 ∧ d 1 ≤ 40) : WOK (rdD d t len) := by
  have hb := noBad_bd hno h0 (Int.le_refl _)
  have hn := trn_nn t h0
  have e0 : rdD d t len 0 = twd t len := if_pos rfl
  have e1 : rdD d t len 1 = d 1 := by unfold rdD; rw [if_neg (by decide), if_neg (by omega)]
  refine ⟨by rw [e0]; omega, by rw [e1]; exact hw, fun w a b => ?_⟩
  rw [e0] at b
  rw [rdD_w a b]
  have z1 := wln_pos t len.toNat w a (by rw [Int.toNat_of_nonneg h0]; exact b)
  have z2 := wln_le hno len.toNat w (by omega)
  rw [Int.toNat_of_nonneg h0] at z1 z2
  exact ⟨z1, z2⟩
