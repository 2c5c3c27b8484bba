/-! ===== texts: runs of characters, words so far, lengths of words, the fault ===== -/
def trN (t : Int → Int) : Nat → Int
  | 0 => 0
  | k + 1 => if t k = 32 then 0 else trN t k + 1
def twN (t : Int → Int) : Nat → Int
  | 0 => 0
  | k + 1 => if t k ≠ 32 ∧ trN t k = 0 then twN t k + 1 else twN t k
def wlN (t : Int → Int) : Nat → Int → Int
  | 0 => fun _ => 0
  | k + 1 => fun w => if t k ≠ 32 ∧ w = twN t (k + 1) - 1 then trN t (k + 1) else wlN t k w
def trn (t : Int → Int) (k : Int) : Int := trN t k.toNat
def twd (t : Int → Int) (k : Int) : Int := twN t k.toNat
def wln (t : Int → Int) (k : Int) : Int → Int := wlN t k.toNat
theorem trn_0 (t : Int → Int) : trn t 0 = 0 := rfl
theorem twd_0 (t : Int → Int) : twd t 0 = 0 := rfl
theorem toNat_s {k : Int} (h : 0 ≤ k) : (k + 1).toNat = k.toNat + 1 := by omega
theorem trn_s (t : Int → Int) {k : Int} (h : 0 ≤ k) : trn t (k + 1) = if t k = 32 then 0 else trn t k + 1 := by
  unfold trn
  rw [toNat_s h]
  show (if t (k.toNat : Int) = 32 then _ else _) = _
  rw [Int.toNat_of_nonneg h]
theorem twd_s (t : Int → Int) {k : Int} (h : 0 ≤ k) : twd t (k + 1) = if t k ≠ 32 ∧ trn t k = 0 then twd t k + 1 else twd t k := by
  unfold twd trn
  rw [toNat_s h]
  show (if t (k.toNat : Int) ≠ 32 ∧ _ then _ else _) = _
  rw [Int.toNat_of_nonneg h]
theorem wln_s (t : Int → Int) {k : Int} (h : 0 ≤ k) (w : Int) : wln t (k + 1) w = if t k ≠ 32 ∧ w = twd t (k + 1) - 1 then trn t (k + 1) else wln t k w := by
  unfold wln twd trn
  rw [toNat_s h]
  show (if t (k.toNat : Int) ≠ 32 ∧ _ then _ else _) = _
  rw [Int.toNat_of_nonneg h]
theorem trn_nn (t : Int → Int) {k : Int} (h : 0 ≤ k) : 0 ≤ trn t k ∧ trn t k ≤ k ∧ 0 ≤ twd t k ∧ twd t k ≤ k ∧ (0 < trn t k → 0 < twd t k) := by
  obtain ⟨n, rfl⟩ := Int.eq_ofNat_of_zero_le h
  clear h
  induction n with
  | zero => exact ⟨Int.le_refl _, Int.le_refl _, Int.le_refl _, Int.le_refl _, fun h => by have : trn t ((0 : Nat) : Int) = 0 := rfl; omega⟩
  | succ n ih =>
    rw [show ((n + 1 : Nat) : Int) = (n : Int) + 1 by omega, trn_s t (by omega), twd_s t (by omega)]
    split <;> split <;> omega
theorem wln_last (t : Int → Int) {k : Int} (h : 0 ≤ k) (hr : 0 < trn t k) : wln t k (twd t k - 1) = trn t k := by
  have hk : k ≠ 0 := fun z => by rw [z, trn_0] at hr; omega
  obtain ⟨j, rfl⟩ : ∃ j, k = j + 1 := ⟨k - 1, by omega⟩
  rw [wln_s t (by omega)]
  rw [trn_s t (by omega)] at hr ⊢
  split at hr
  · omega
  · rename_i hne
    rw [if_pos ⟨hne, rfl⟩, if_neg hne]
def badT (t : Int → Int) (len k : Int) : Prop := t k = 32 ∧ (trn t k = 0 ∨ k = len - 1) ∨ t k ≠ 32 ∧ (8 < trn t k + 1 ∨ 24 < twd t (k + 1))
def FltP (t : Int → Int) (len r : Int) : Prop := (0 ≤ r ∧ r < len ∧ badT t len r ∧ ∀ j, 0 ≤ j → j < r → ¬ badT t len j) ∨ (r = -4 ∧ ∀ j, 0 ≤ j → j < len → ¬ badT t len j)
theorem FltP_uniq {t : Int → Int} {len x y : Int} (hx : FltP t len x) (hy : FltP t len y) : x = y := by
  rcases hx with ⟨a1, a2, a3, a4⟩ | ⟨a1, a2⟩ <;> rcases hy with ⟨b1, b2, b3, b4⟩ | ⟨b1, b2⟩
  · by_cases h : x < y
    · exact absurd a3 (b4 x a1 h)
    · by_cases h2 : y < x
      · exact absurd b3 (a4 y b1 h2)
      · omega
  · exact absurd a3 (b2 x a1 a2)
  · exact absurd b3 (a2 y b1 b2)
  · omega
theorem FltP_congr {t u : Int → Int} {len r : Int} (h : ∀ j, 0 ≤ j → j < len → t j = u j) (hr : FltP t len r) : FltP u len r := by
  have e1 : ∀ n : Nat, (n : Int) ≤ len → trN t n = trN u n ∧ twN t n = twN u n := by
    intro n
    induction n with
    | zero => intro _; exact ⟨rfl, rfl⟩
    | succ n ih =>
      intro hn
      have ih := ih (by omega)
      have e := h n (by omega) (by omega)
      constructor
      · show (if t n = 32 then 0 else trN t n + 1) = (if u n = 32 then 0 else trN u n + 1)
        rw [e, ih.1]
      · show (if t n ≠ 32 ∧ trN t n = 0 then twN t n + 1 else twN t n) = (if u n ≠ 32 ∧ trN u n = 0 then twN u n + 1 else twN u n)
        rw [e, ih.1, ih.2]
  have e2 : ∀ k, 0 ≤ k → k < len → (badT t len k ↔ badT u len k) := by
    intro k h0 h1
    have a := (e1 k.toNat (by omega)).1
    have b := (e1 (k + 1).toNat (by omega)).2
    unfold badT trn twd
    rw [a, b, h k h0 h1]
  rcases hr with ⟨a1, a2, a3, a4⟩ | ⟨a1, a2⟩
  · exact Or.inl ⟨a1, a2, (e2 r a1 a2).mp a3, fun j h0 h1 => fun z => a4 j h0 h1 ((e2 j h0 (by omega)).mpr z)⟩
  · exact Or.inr ⟨a1, fun j h0 h1 => fun z => a2 j h0 h1 ((e2 j h0 h1).mpr z)⟩
/-- what stays and what stands while the words of a text are put into the page c, k characters of it read -/
def GW (M N : Mem) (c : Nat) (t : Int → Int) (k run : Int) : Prop :=
  run = trn t k ∧ N c 2 = twd t k - (if 0 < run then 1 else 0) ∧ (∀ w, 0 ≤ w → w < N c 2 → N (c + 2) w = wln t k w) ∧ (∀ d, d ≠ c → d ≠ c + 2 → d ≠ c + 4 → d ≠ c + 6 → N d = M d) ∧ (∀ j, 0 ≤ j → j < 24 → N (c + 4) j = 0 ∧ N (c + 6) j = 0) ∧ N c 0 = M c 0 ∧ N c 1 = M c 1 ∧ (∀ w, 0 ≤ w → w < 24 → 0 ≤ N (c + 2) w ∧ N (c + 2) w ≤ 8)
theorem GW.start (M : Mem) (c : Nat) (t : Int → Int) (hb : ∀ w, 0 ≤ w → w < 24 → 0 ≤ M (c + 2) w ∧ M (c + 2) w ≤ 8) : GW M (mclr (mclr (mset M c 2 0) (c + 4) 24) (c + 6) 24) c t 0 0 := by
  have e : ∀ d, d ≠ c → d ≠ c + 4 → d ≠ c + 6 → mclr (mclr (mset M c 2 0) (c + 4) 24) (c + 6) 24 d = M d := fun d h1 h2 h3 => by rw [mclr_ne h3, mclr_ne h2, mset_nef h1]
  have ec : mclr (mclr (mset M c 2 0) (c + 4) 24) (c + 6) 24 c = mset M c 2 0 c := by rw [mclr_ne (by omega), mclr_ne (by omega)]
  refine ⟨rfl, ?_, ?_, fun d h1 h2 h3 h4 => e d h1 h3 h4, fun j h0 h1 => ⟨?_, ?_⟩, ?_, ?_, ?_⟩
  · rw [ec, mset_at]; rfl
  · rw [ec, mset_at]; intro w h0 h1; omega
  · rw [mclr_ne (by omega), mclr_in h0 h1]
  · rw [mclr_in h0 h1]
  · rw [ec, mset_ne2 (by decide)]
  · rw [ec, mset_ne2 (by decide)]
  · rw [e (c + 2) (by omega) (by omega) (by omega)]; exact hb
theorem GW.char {M N : Mem} {c : Nat} {t : Int → Int} {k run : Int} (h : GW M N c t k run) (hk : 0 ≤ k) (ht : t k ≠ 32) : GW M N c t (k + 1) (run + 1) := by
  obtain ⟨h1, h2, h3, h4⟩ := h
  have hn := trn_nn t hk
  have e2 : N c 2 = twd t (k + 1) - 1 := by
    rw [h2, twd_s t hk]
    split <;> split <;> omega
  refine ⟨by rw [trn_s t hk, if_neg ht, h1], by rw [e2, if_pos (by omega)], fun w g0 g1 => ?_, h4⟩
  rw [wln_s t hk, if_neg (fun z => by omega)]
  exact h3 w g0 g1
theorem GW.blank {M N : Mem} {c : Nat} {t : Int → Int} {k run : Int} (h : GW M N c t k run) (hk : 0 ≤ k) (ht : t k = 32) (hr : 0 < run) (hr8 : run ≤ 8) (hn : N c 2 < 24) : GW M (mset (mset N (c + 2) (N c 2) run) c 2 (N c 2 + 1)) c t (k + 1) 0 := by
  obtain ⟨h1, h2, h3, h4, h5, h6, h7, h8⟩ := h
  have hnn := trn_nn t hk
  rw [if_pos hr] at h2
  have ec : mset (mset N (c + 2) (N c 2) run) c 2 (N c 2 + 1) c 2 = N c 2 + 1 := mset_at
  have ed : ∀ d, d ≠ c → mset (mset N (c + 2) (N c 2) run) c 2 (N c 2 + 1) d = mset N (c + 2) (N c 2) run d := fun d hd => mset_nef hd
  refine ⟨by rw [trn_s t hk, if_pos ht], ?_, ?_, fun d g1 g2 g3 g4 => by rw [ed d g1, mset_nef g2]; exact h4 d g1 g2 g3 g4, fun j g0 g1 => ?_, ?_, ?_, fun w g0 g1 => ?_⟩
  · rw [ec, twd_s t hk, if_neg (fun z => z.1 ht), if_neg (by omega)]; omega
  · rw [ec, ed (c + 2) (by omega)]
    intro w g0 g1
    rw [wln_s t hk, if_neg (fun z => z.1 ht)]
    by_cases hw : w = N c 2
    · rw [hw, mset_at, h2, wln_last t hk (by omega), h1]
    · rw [mset_ne2 hw]
      exact h3 w g0 (by omega)
  · rw [ed (c + 4) (by omega), ed (c + 6) (by omega), mset_nef (by omega), mset_nef (by omega)]
    exact h5 j g0 g1
  · rw [mset_ne2 (by decide), mset_nef (by omega)]; exact h6
  · rw [mset_ne2 (by decide), mset_nef (by omega)]; exact h7
  · rw [ed (c + 2) (by omega)]
    by_cases hw : w = N c 2
    · rw [hw, mset_at]; omega
    · rw [mset_ne2 hw]; exact h8 w g0 g1
/-- at the end: what the page holds -/
def GWend (M N : Mem) (c : Nat) (t : Int → Int) (len : Int) : Prop :=
  N c 2 = twd t len ∧ (∀ w, 0 ≤ w → w < N c 2 → N (c + 2) w = wln t len w) ∧ (∀ d, d ≠ c → d ≠ c + 2 → d ≠ c + 4 → d ≠ c + 6 → N d = M d) ∧ (∀ j, 0 ≤ j → j < 24 → N (c + 4) j = 0 ∧ N (c + 6) j = 0) ∧ N c 0 = M c 0 ∧ N c 1 = M c 1 ∧ (∀ w, 0 ≤ w → w < 24 → 0 ≤ N (c + 2) w ∧ N (c + 2) w ≤ 8)
theorem GW.end0 {M N : Mem} {c : Nat} {t : Int → Int} {k run : Int} (h : GW M N c t k run) (hr : run ≤ 0) : GWend M N c t k := by
  obtain ⟨h1, h2, h3⟩ := h
  rw [if_neg (by omega)] at h2
  exact ⟨by omega, h3⟩
theorem GW.end1 {M N : Mem} {c : Nat} {t : Int → Int} {k run : Int} (h : GW M N c t k run) (hk : 0 ≤ k) (hr : 0 < run) (hr8 : run ≤ 8) (hn : N c 2 < 24) : GWend M (mset (mset N (c + 2) (N c 2) run) c 2 (N c 2 + 1)) c t k := by
  obtain ⟨h1, h2, h3, h4, h5, h6, h7, h8⟩ := h
  rw [if_pos hr] at h2
  have ec : mset (mset N (c + 2) (N c 2) run) c 2 (N c 2 + 1) c 2 = N c 2 + 1 := mset_at
  have ed : ∀ d, d ≠ c → mset (mset N (c + 2) (N c 2) run) c 2 (N c 2 + 1) d = mset N (c + 2) (N c 2) run d := fun d hd => mset_nef hd
  refine ⟨by rw [ec]; omega, ?_, fun d g1 g2 g3 g4 => by rw [ed d g1, mset_nef g2]; exact h4 d g1 g2 g3 g4, fun j g0 g1 => ?_, ?_, ?_, fun w g0 g1 => ?_⟩
  · rw [ec, ed (c + 2) (by omega)]
    intro w g0 g1
    by_cases hw : w = N c 2
    · rw [hw, mset_at, h2, wln_last t hk (by omega), h1]
    · rw [mset_ne2 hw]
      exact h3 w g0 (by omega)
  · rw [ed (c + 4) (by omega), ed (c + 6) (by omega), mset_nef (by omega), mset_nef (by omega)]
    exact h5 j g0 g1
  · rw [mset_ne2 (by decide), mset_nef (by omega)]; exact h6
  · rw [mset_ne2 (by decide), mset_nef (by omega)]; exact h7
  · rw [ed (c + 2) (by omega)]
    by_cases hw : w = N c 2
    · rw [hw, mset_at]; omega
    · rw [mset_ne2 hw]; exact h8 w g0 g1
theorem noBad_bd {t : Int → Int} {len : Int} (h : ∀ j, 0 ≤ j → j < len → ¬ badT t len j) {k : Int} (h0 : 0 ≤ k) (h1 : k ≤ len) : trn t k ≤ 8 ∧ twd t k ≤ 24 := by
  obtain ⟨n, rfl⟩ := Int.eq_ofNat_of_zero_le h0
  clear h0
  induction n with
  | zero => exact ⟨by have : trn t ((0 : Nat) : Int) = 0 := rfl; omega, by have : twd t ((0 : Nat) : Int) = 0 := rfl; omega⟩
  | succ n ih =>
    have ih := ih (by omega)
    have hb := h n (by omega) (by omega)
    unfold badT at hb
    rw [show ((n + 1 : Nat) : Int) = (n : Int) + 1 by omega]
    rw [trn_s t (by omega)]
    rw [twd_s t (by omega)] at hb ⊢
    split <;> split <;> rename_i q1 q2 <;> (first | rw [if_pos q2] at hb | rw [if_neg q2] at hb) <;> omega
