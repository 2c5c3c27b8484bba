/-! ===== a line's layout: extra, widths of gaps, columns; which gaps meet; reaches ===== -/
def lexF (L : Int → Int) (W n i j : Int) : Int := if j = n then 0 else exF L W i j
def gwF (x i j w : Int) : Int := 1 + x / (j - i - 1) + (if w - i < x % (j - i - 1) then 1 else 0)
def wdF (x i j w : Int) : Int := if w < j - 1 then gwF x i j w else 0
def colN (L : Int → Int) (x i j : Int) : Nat → Int
  | 0 => 0
  | k + 1 => colN L x i j k + L (i + k) + wdF x i j (i + k)
def colF (L : Int → Int) (x i j w : Int) : Int := colN L x i j (w - i).toNat
theorem colF_0 (L : Int → Int) (x i j : Int) : colF L x i j i = 0 := by
  unfold colF
  rw [show (i - i).toNat = 0 by omega]
  rfl
theorem colF_s (L : Int → Int) (x i j : Int) {w : Int} (h : i ≤ w) : colF L x i j (w + 1) = colF L x i j w + L w + wdF x i j w := by
  unfold colF
  rw [show (w + 1 - i).toNat = (w - i).toNat + 1 by omega]
  show colN L x i j (w - i).toNat + L (i + ((w - i).toNat : Int)) + wdF x i j (i + ((w - i).toNat : Int)) = _
  rw [show i + ((w - i).toNat : Int) = w by omega]
theorem gwF_bd {x i j w : Int} (hx : 0 ≤ x ∧ x ≤ 41) (hg : 0 < j - i - 1) : 1 ≤ gwF x i j w ∧ gwF x i j w ≤ 43 := by
  have h1 : 0 ≤ x / (j - i - 1) := Int.ediv_nonneg hx.1 (by omega)
  have h2 : x / (j - i - 1) ≤ x := Int.ediv_le_self _ hx.1
  unfold gwF
  split <;> omega
theorem wdF_bd {x i j w : Int} (hx : 0 ≤ x ∧ x ≤ 41) (hw : i ≤ w) : 0 ≤ wdF x i j w ∧ wdF x i j w ≤ 43 := by
  unfold wdF
  split
  · have := gwF_bd (x := x) (i := i) (j := j) (w := w) hx (by omega)
    omega
  · omega
theorem colF_bd {L : Int → Int} {x i j : Int} (hx : 0 ≤ x ∧ x ≤ 41) (hL : ∀ w, 0 ≤ w → w < 24 → 0 ≤ L w ∧ L w ≤ 8) (hi : 0 ≤ i) {w : Int} (h0 : i ≤ w) (h1 : w ≤ 24) : 0 ≤ colF L x i j w ∧ colF L x i j w ≤ 51 * (w - i) := by
  obtain ⟨k, rfl⟩ : ∃ k : Nat, w = i + k := ⟨(w - i).toNat, by omega⟩
  clear h0
  induction k with
  | zero => rw [show i + ((0 : Nat) : Int) = i by omega, colF_0]; omega
  | succ k ih =>
    have ih := ih (by omega)
    rw [show i + ((k + 1 : Nat) : Int) = (i + k) + 1 by omega, colF_s L x i j (by omega)]
    have h2 := hL (i + k) (by omega) (by omega)
    have h3 := wdF_bd (x := x) (i := i) (j := j) (w := i + k) hx (by omega)
    omega
/-- the rows of a sheet while a line is being placed, its words before k done -/
def PWk (M N : Mem) (c : Nat) (L : Int → Int) (x i j k : Int) : Prop :=
  (∀ w, i ≤ w → w < k → N (c + 2) w = colF L x i j w ∧ N (c + 4) w = colF L x i j w + L w ∧ N (c + 6) w = wdF x i j w) ∧ (∀ w, w < i ∨ k ≤ w → N (c + 2) w = M (c + 2) w ∧ N (c + 4) w = M (c + 4) w ∧ N (c + 6) w = M (c + 6) w) ∧ ∀ d, d ≠ c + 2 → d ≠ c + 4 → d ≠ c + 6 → N d = M d
theorem PWk.start (M : Mem) (c : Nat) (L : Int → Int) (x i j : Int) : PWk M M c L x i j i := ⟨fun w h0 h1 => by omega, fun w _ => ⟨rfl, rfl, rfl⟩, fun d _ _ _ => rfl⟩
theorem PWk.step {M N : Mem} {c : Nat} {L : Int → Int} {x i j k a b v : Int} (h : PWk M N c L x i j k) (hk : i ≤ k) (ha : a = colF L x i j k) (hb : b = a + L k) (hv : v = wdF x i j k) : PWk M (mset (mset (mset N (c + 2) k a) (c + 4) k b) (c + 6) k v) c L x i j (k + 1) := by
  obtain ⟨h1, h2, h3⟩ := h
  subst hv; subst hb; subst ha
  have e2 : mset (mset (mset N (c + 2) k (colF L x i j k)) (c + 4) k (colF L x i j k + L k)) (c + 6) k (wdF x i j k) (c + 2) = mset N (c + 2) k (colF L x i j k) (c + 2) := by rw [mset_nef (by omega), mset_nef (by omega)]
  have e4 : mset (mset (mset N (c + 2) k (colF L x i j k)) (c + 4) k (colF L x i j k + L k)) (c + 6) k (wdF x i j k) (c + 4) = mset (mset N (c + 2) k (colF L x i j k)) (c + 4) k (colF L x i j k + L k) (c + 4) := by rw [mset_nef (by omega)]
  refine ⟨fun w g0 g1 => ?_, fun w g => ?_, fun d d2 d4 d6 => by rw [mset_nef d6, mset_nef d4, mset_nef d2]; exact h3 d d2 d4 d6⟩
  · rw [e2, e4]
    by_cases hw : w = k
    · subst hw
      exact ⟨mset_at, mset_at, mset_at⟩
    · rw [mset_ne2 hw, mset_ne2 hw, mset_ne2 hw, mset_nef (by omega), mset_nef (by omega), mset_nef (by omega)]
      exact h1 w g0 (by omega)
  · rw [e2, e4, mset_ne2 (by omega), mset_ne2 (by omega), mset_ne2 (by omega), mset_nef (by omega), mset_nef (by omega), mset_nef (by omega)]
    exact h2 w (by omega)
/-- two gaps have a column in common -/
def mtP (a u b v : Int) : Prop := a < a + u ∧ a < b + v ∧ b < a + u ∧ b < b + v
def mtB (a u b v : Int) : Bool := decide (a < a + u ∧ a < b + v ∧ b < a + u ∧ b < b + v)
theorem mtB_iff {a u b v : Int} : mtB a u b v = true ↔ mtP a u b v := decide_eq_true_iff
theorem mtP_comm {a u b v : Int} : mtP a u b v ↔ mtP b v a u := by unfold mtP; omega
theorem mtB_comm (a u b v : Int) : mtB a u b v = mtB b v a u := by
  rw [Bool.eq_iff_iff, mtB_iff, mtB_iff]
  exact mtP_comm
/-- the greatest of r over the places of a row of k places from a where f holds; 0 -/
def mxN (f : Int → Bool) (r : Int → Int) (a : Int) : Nat → Int
  | 0 => 0
  | k + 1 => if f (a + k) = true then (if mxN f r a k < r (a + k) then r (a + k) else mxN f r a k) else mxN f r a k
def mx (f : Int → Bool) (r : Int → Int) (a e : Int) : Int := mxN f r a (e - a).toNat
theorem mx_0 (f : Int → Bool) (r : Int → Int) {a e : Int} (h : e ≤ a) : mx f r a e = 0 := by
  unfold mx
  rw [show (e - a).toNat = 0 by omega]
  rfl
theorem mx_s (f : Int → Bool) (r : Int → Int) {a e : Int} (h : a ≤ e) : mx f r a (e + 1) = if f e = true then (if mx f r a e < r e then r e else mx f r a e) else mx f r a e := by
  unfold mx
  rw [show (e + 1 - a).toNat = (e - a).toNat + 1 by omega]
  show (if f (a + ((e - a).toNat : Int)) = true then _ else _) = _
  rw [show a + ((e - a).toNat : Int) = e by omega]
theorem mx_congr {f g : Int → Bool} {r q : Int → Int} {a e : Int} (h : ∀ w, a ≤ w → w < e → f w = g w ∧ (f w = true → r w = q w)) : mx f r a e = mx g q a e := by
  by_cases hae : e ≤ a
  · rw [mx_0 f r hae, mx_0 g q hae]
  · obtain ⟨k, rfl⟩ : ∃ k : Nat, e = a + k := ⟨(e - a).toNat, by omega⟩
    clear hae
    induction k with
    | zero => rw [mx_0 _ _ (by omega), mx_0 _ _ (by omega)]
    | succ k ih =>
      have ih := ih (fun w h0 h1 => h w h0 (by omega))
      have h1 := h (a + k) (by omega) (by omega)
      rw [show a + ((k + 1 : Nat) : Int) = (a + k) + 1 by omega, mx_s f r (by omega), mx_s g q (by omega), ih, ← h1.1]
      by_cases hf : f (a + k) = true
      · rw [if_pos hf, if_pos hf, h1.2 hf]
      · rw [if_neg hf, if_neg hf]
theorem mx_bd {f : Int → Bool} {r : Int → Int} {a e B : Int} (hB : 0 ≤ B) (h : ∀ w, a ≤ w → w < e → f w = true → r w ≤ B) : 0 ≤ mx f r a e ∧ mx f r a e ≤ B := by
  by_cases hae : e ≤ a
  · rw [mx_0 f r hae]; omega
  · obtain ⟨k, rfl⟩ : ∃ k : Nat, e = a + k := ⟨(e - a).toNat, by omega⟩
    clear hae
    induction k with
    | zero => rw [mx_0 _ _ (by omega)]; omega
    | succ k ih =>
      have ih := ih (fun w h0 h1 => h w h0 (by omega))
      have h1 := h (a + k) (by omega) (by omega)
      rw [show a + ((k + 1 : Nat) : Int) = (a + k) + 1 by omega, mx_s f r (by omega)]
      split
      · split
        · have := h1 (by assumption); omega
        · omega
      · omega
theorem mx_nn {f : Int → Bool} {r : Int → Int} {a e : Int} : 0 ≤ mx f r a e := by
  by_cases hae : e ≤ a
  · rw [mx_0 f r hae]; omega
  · obtain ⟨k, rfl⟩ : ∃ k : Nat, e = a + k := ⟨(e - a).toNat, by omega⟩
    clear hae
    induction k with
    | zero => rw [mx_0 _ _ (by omega)]; omega
    | succ k ih =>
      rw [show a + ((k + 1 : Nat) : Int) = (a + k) + 1 by omega, mx_s f r (by omega)]
      split
      · split <;> omega
      · exact ih
theorem mx_ge {f : Int → Bool} {r : Int → Int} {a e w : Int} (h0 : a ≤ w) (h1 : w < e) (hf : f w = true) : r w ≤ mx f r a e := by
  obtain ⟨k, rfl⟩ : ∃ k : Nat, e = a + k := ⟨(e - a).toNat, by omega⟩
  induction k with
  | zero => omega
  | succ k ih =>
    rw [show a + ((k + 1 : Nat) : Int) = (a + k) + 1 by omega, mx_s f r (by omega)]
    by_cases hw : w = a + k
    · subst hw
      rw [if_pos hf]
      split <;> omega
    · have ih := ih (by omega)
      split
      · split <;> omega
      · exact ih
theorem mx_at {f : Int → Bool} {r : Int → Int} {a e : Int} : mx f r a e = 0 ∨ ∃ w, a ≤ w ∧ w < e ∧ f w = true ∧ r w = mx f r a e := by
  by_cases hae : e ≤ a
  · exact Or.inl (mx_0 f r hae)
  · obtain ⟨k, rfl⟩ : ∃ k : Nat, e = a + k := ⟨(e - a).toNat, by omega⟩
    clear hae
    induction k with
    | zero => exact Or.inl (mx_0 _ _ (by omega))
    | succ k ih =>
      rw [show a + ((k + 1 : Nat) : Int) = (a + k) + 1 by omega, mx_s f r (by omega)]
      have old : mx f r a (a + k) = 0 ∨ ∃ w, a ≤ w ∧ w < a + k + 1 ∧ f w = true ∧ r w = mx f r a (a + k) := by
        rcases ih with h | ⟨w, q1, q2, q3, q4⟩
        · exact Or.inl h
        · exact Or.inr ⟨w, q1, by omega, q3, q4⟩
      split
      · rename_i hf
        split
        · exact Or.inr ⟨a + k, by omega, by omega, hf, rfl⟩
        · exact old
      · exact old
theorem mx_last {f : Int → Bool} {r : Int → Int} {a e : Int} (h : f e = false) : mx f r a (e + 1) = mx f r a e := by
  by_cases hae : a ≤ e
  · rw [mx_s f r hae, h]; rfl
  · rw [mx_0 _ _ (by omega), mx_0 _ _ (by omega)]
