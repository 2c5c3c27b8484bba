/-! ===== sums over a row, rows and pages among the cells ===== -/
def sumN (f : Int → Int) : Nat → Int
  | 0 => 0
  | k + 1 => sumN f k + f k
def cnt (f : Int → Int) (k : Int) : Int := sumN f k.toNat
theorem cnt_0 (f : Int → Int) : cnt f 0 = 0 := rfl
theorem cnt_s (f : Int → Int) {k : Int} (h : 0 ≤ k) : cnt f (k + 1) = cnt f k + f k := by
  obtain ⟨n, rfl⟩ := Int.eq_ofNat_of_zero_le h
  show sumN f ((n : Int) + 1).toNat = sumN f ((n : Int)).toNat + f n
  rw [show ((n : Int) + 1).toNat = n + 1 by omega, show ((n : Int)).toNat = n by omega]
  rfl
theorem sumN_congr {f g : Int → Int} : ∀ (k : Nat), (∀ j : Int, 0 ≤ j → j < k → f j = g j) → sumN f k = sumN g k
  | 0, _ => rfl
  | k + 1, h => by
    show sumN f k + f k = sumN g k + g k
    rw [sumN_congr k (fun j h0 h1 => h j h0 (by omega)), h k (by omega) (by omega)]
theorem cnt_congr {f g : Int → Int} {k : Int} (h : ∀ j : Int, 0 ≤ j → j < k → f j = g j) : cnt f k = cnt g k :=
  sumN_congr k.toNat (fun j h0 h1 => h j h0 (by omega))
def isRow (r n : Nat) : Prop := shs[r]? = some (5, 0, [some (r + 1)]) ∧ shs[r + 1]? = some (0, n, [])
def isPage (c : Nat) : Prop := shs[c]? = some (4, 0, [none, none, none, some (c + 1), some (c + 3), some (c + 5)]) ∧ isRow (c + 1) 24 ∧ isRow (c + 3) 24 ∧ isRow (c + 5) 24
def isSheet (c : Nat) : Prop := shs[c]? = some (7, 0, [some (c + 1), some (c + 3), some (c + 5), some (c + 7)]) ∧ isRow (c + 1) 24 ∧ isRow (c + 3) 24 ∧ isRow (c + 5) 24 ∧ isRow (c + 7) 24
def gt (M : Mem) (a n : Nat) (i : Int) : Int := if 0 ≤ i ∧ i < (n : Int) then M a i else 0
def stt (M : Mem) (a n : Nat) (i v : Int) : Mem := if 0 ≤ i ∧ i < (n : Int) then mset M a i v else M
def mclr (M : Mem) (a : Nat) (n : Int) : Mem := fun c j => if c = a ∧ 0 ≤ j ∧ j < n then 0 else M c j
def mcpy (M : Mem) (a b : Nat) (n : Int) : Mem := fun c j => if c = a ∧ 0 ≤ j ∧ j < n then M b j else M c j
theorem mclr_0 (M : Mem) (a : Nat) : mclr M a 0 = M := by
  funext c j
  exact if_neg (fun h => by omega)
theorem mcpy_0 (M : Mem) (a b : Nat) : mcpy M a b 0 = M := by
  funext c j
  exact if_neg (fun h => by omega)
theorem mclr_s (M : Mem) (a : Nat) {k : Int} (h : 0 ≤ k) : mset (mclr M a k) a k 0 = mclr M a (k + 1) := by
  funext c j
  unfold mset mclr
  by_cases h1 : c = a ∧ j = k
  · rw [if_pos h1, if_pos ⟨h1.1, by omega, by omega⟩]
  · rw [if_neg h1]
    by_cases h2 : c = a ∧ 0 ≤ j ∧ j < k
    · rw [if_pos h2, if_pos ⟨h2.1, by omega, by omega⟩]
    · rw [if_neg h2, if_neg (fun h3 => by
        by_cases hj : j = k
        · exact h1 ⟨h3.1, hj⟩
        · exact h2 ⟨h3.1, h3.2.1, by omega⟩)]
theorem mcpy_at (M : Mem) {a b : Nat} (hab : b ≠ a) (k j : Int) : mcpy M a b k b j = M b j := if_neg (fun h => hab h.1)
theorem mcpy_s (M : Mem) {a b : Nat} {k : Int} (h : 0 ≤ k) : mset (mcpy M a b k) a k (M b k) = mcpy M a b (k + 1) := by
  funext c j
  unfold mset mcpy
  by_cases h1 : c = a ∧ j = k
  · rw [if_pos h1, if_pos ⟨h1.1, by omega, by omega⟩, h1.2]
  · rw [if_neg h1]
    by_cases h2 : c = a ∧ 0 ≤ j ∧ j < k
    · rw [if_pos h2, if_pos ⟨h2.1, by omega, by omega⟩]
    · rw [if_neg h2, if_neg (fun h3 => by
        by_cases hj : j = k
        · exact h1 ⟨h3.1, hj⟩
        · exact h2 ⟨h3.1, h3.2.1, by omega⟩)]
theorem gt_in {M : Mem} {a n : Nat} {i : Int} (h0 : 0 ≤ i) (h1 : i < (n : Int)) : gt M a n i = M a i := if_pos ⟨h0, h1⟩
theorem gt_out {M : Mem} {a n : Nat} {i : Int} (h : i < 0 ∨ (n : Int) ≤ i) : gt M a n i = 0 := if_neg (fun z => by omega)
theorem stt_in {M : Mem} {a n : Nat} {i v : Int} (h0 : 0 ≤ i) (h1 : i < (n : Int)) : stt M a n i v = mset M a i v := if_pos ⟨h0, h1⟩
theorem stt_out {M : Mem} {a n : Nat} {i v : Int} (h : i < 0 ∨ (n : Int) ≤ i) : stt M a n i v = M := if_neg (fun z => by omega)
/-- where the next line begins, or the number of words -/
def EndP (b : Int → Int) (n f r : Int) : Prop := (∀ j, f < j → j < r → b j ≠ 1) ∧ (r < n → b r = 1 ∧ f < r) ∧ (r ≤ n) ∧ (f < n → f < r)
/-- the first word of the line of a number -/
def FstP (b : Int → Int) (n l r : Int) : Prop := (∀ j, 0 ≤ j → j < r → cnt b (j + 1) ≤ l) ∧ (r < n → l < cnt b (r + 1)) ∧ 0 ≤ r ∧ r ≤ n
theorem EndP_uniq {b : Int → Int} {n f x y : Int} (hx : EndP b n f x) (hy : EndP b n f y) : x = y := by
  have key : ∀ {x y : Int}, EndP b n f x → EndP b n f y → ¬ x < y := by
    intro x y hx hy h
    have h1 := hx.2.1 (by have := hy.2.2.1; omega)
    exact hy.1 x h1.2 h h1.1
  have h1 := key hx hy
  have h2 := key hy hx
  omega
theorem cnt_mono {f : Int → Int} {lo hi a : Int} (ha : 0 ≤ a) : ∀ (k : Nat), (∀ j, a ≤ j → j < a + k → lo ≤ f j ∧ f j ≤ hi) → lo * k ≤ cnt f (a + k) - cnt f a ∧ cnt f (a + k) - cnt f a ≤ hi * k
  | 0, _ => by simp
  | k + 1, h => by
    have ih := cnt_mono (lo := lo) (hi := hi) ha k (fun j h0 h1 => h j h0 (by omega))
    have h2 := h (a + k) (by omega) (by omega)
    have e : cnt f (a + ((k + 1 : Nat) : Int)) = cnt f (a + k) + f (a + k) := by
      rw [show a + ((k + 1 : Nat) : Int) = (a + k) + 1 by omega]
      exact cnt_s f (by omega)
    rw [e]
    have e1 : lo * ((k + 1 : Nat) : Int) = lo * k + lo := by rw [show ((k + 1 : Nat) : Int) = (k : Int) + 1 by omega, Int.mul_add, Int.mul_one]
    have e2 : hi * ((k + 1 : Nat) : Int) = hi * k + hi := by rw [show ((k + 1 : Nat) : Int) = (k : Int) + 1 by omega, Int.mul_add, Int.mul_one]
    rw [e1, e2]
    omega
theorem cnt_bd {f : Int → Int} {a b : Int} (ha : 0 ≤ a) (hab : a ≤ b) (h : ∀ j, a ≤ j → j < b → 0 ≤ f j ∧ f j ≤ 8) : 0 ≤ cnt f b - cnt f a ∧ cnt f b - cnt f a ≤ 8 * (b - a) := by
  have h1 := cnt_mono (f := f) (lo := 0) (hi := 8) ha (b - a).toNat (fun j h0 h1 => h j h0 (by omega))
  rw [show a + ((b - a).toNat : Int) = b by omega, show ((b - a).toNat : Int) = b - a by omega] at h1
  omega
def exF (L : Int → Int) (W f t : Int) : Int := W - (t - f - 1) - (cnt L t - cnt L f)
theorem exF_bd {L : Int → Int} {W f t : Int} (hL : ∀ j, 0 ≤ j → j < 24 → 0 ≤ L j ∧ L j ≤ 8) (hW : 0 ≤ W ∧ W ≤ 40) (hf : 0 ≤ f) (hft : f ≤ t) (ht : t ≤ 24) : -300 ≤ exF L W f t ∧ exF L W f t ≤ 41 := by
  have h := cnt_bd (f := L) hf hft (fun j h0 h1 => hL j (by omega) (by omega))
  unfold exF
  omega
theorem exF_inR {L : Int → Int} {W f t : Int} (hL : ∀ j, 0 ≤ j → j < 24 → 0 ≤ L j ∧ L j ≤ 8) (hW : 0 ≤ W ∧ W ≤ 40) (hf : 0 ≤ f) (hft : f ≤ t) (ht : t ≤ 24) : inR (exF L W f t) := by
  have h := exF_bd hL hW hf hft ht
  exact ⟨by omega, by omega⟩
/-- where the line begins that word k - 1 is in, when lines are filled greedily -/
def ffN (L : Int → Int) (W : Int) : Nat → Int
  | 0 => 0
  | k + 1 => if exF L W (ffN L W k) ((k : Int) + 1) < 0 then (k : Int) else ffN L W k
def ffst (L : Int → Int) (W k : Int) : Int := ffN L W k.toNat
theorem ffst_0 (L : Int → Int) (W : Int) : ffst L W 0 = 0 := rfl
theorem ffst_s (L : Int → Int) (W : Int) {k : Int} (h : 0 ≤ k) : ffst L W (k + 1) = if exF L W (ffst L W k) (k + 1) < 0 then k else ffst L W k := by
  obtain ⟨n, rfl⟩ := Int.eq_ofNat_of_zero_le h
  show ffN L W ((n : Int) + 1).toNat = _
  rw [show ((n : Int) + 1).toNat = n + 1 by omega, ffst, show ((n : Int)).toNat = n by omega]
  rfl
theorem ffst_bd (L : Int → Int) (W : Int) {k : Int} (h : 0 ≤ k) : 0 ≤ ffst L W k ∧ (ffst L W k < k ∨ k = 0 ∧ ffst L W k = 0) := by
  obtain ⟨n, rfl⟩ := Int.eq_ofNat_of_zero_le h
  clear h
  induction n with
  | zero => exact ⟨Int.le_refl _, Or.inr ⟨rfl, rfl⟩⟩
  | succ n ih =>
    rw [show ((n + 1 : Nat) : Int) = (n : Int) + 1 by omega, ffst_s L W (by omega)]
    split <;> omega
theorem ffst_fix (L : Int → Int) (W : Int) {k : Int} (h : 0 ≤ k) : ffst L W (ffst L W k + 1) = ffst L W k := by
  obtain ⟨n, rfl⟩ := Int.eq_ofNat_of_zero_le h
  clear h
  induction n with
  | zero =>
    show ffst L W (0 + 1) = 0
    rw [ffst_s L W (by omega), ffst_0]
    split <;> rfl
  | succ n ih =>
    rw [show ((n + 1 : Nat) : Int) = (n : Int) + 1 by omega]
    have hs := ffst_s L W (k := (n : Int)) (by omega)
    by_cases hc : exF L W (ffst L W n) ((n : Int) + 1) < 0
    · rw [if_pos hc] at hs
      rw [hs, hs]
    · rw [if_neg hc] at hs
      rw [hs]
      exact ih
/-! lines: where each begins -/
def Lines (b : Int → Int) (n L : Int) (s : Int → Int) : Prop := 0 ≤ L ∧ s 0 = 0 ∧ s L = n ∧ ∀ l, 0 ≤ l → l < L → s l < s (l + 1) ∧ b (s l) = 1 ∧ ∀ w, s l < w → w < s (l + 1) → b w = 0
theorem Lines.mono {b : Int → Int} {n L : Int} {s : Int → Int} (h : Lines b n L s) {x : Int} (hx : 0 ≤ x) : ∀ (k : Nat), x + k ≤ L → s x + k ≤ s (x + k)
  | 0, _ => by simp
  | k + 1, hk => by
    have ih := h.mono hx k (by omega)
    have h1 := (h.2.2.2 (x + k) (by omega) (by omega)).1
    rw [show x + ((k + 1 : Nat) : Int) = x + k + 1 by omega]
    omega
theorem Lines.le {b : Int → Int} {n L : Int} {s : Int → Int} (h : Lines b n L s) {x y : Int} (hx : 0 ≤ x) (hxy : x ≤ y) (hy : y ≤ L) : s x + (y - x) ≤ s y := by
  have h1 := h.mono hx (y - x).toNat (by omega)
  rw [show x + ((y - x).toNat : Int) = y by omega, show ((y - x).toNat : Int) = y - x by omega] at h1
  exact h1
theorem Lines.bd {b : Int → Int} {n L : Int} {s : Int → Int} (h : Lines b n L s) {l : Int} (h0 : 0 ≤ l) (h1 : l ≤ L) : l ≤ s l ∧ s l ≤ n - (L - l) := by
  have h2 := h.le (x := 0) (y := l) (by omega) h0 h1
  have h3 := h.le (x := l) (y := L) h0 h1 (by omega)
  rw [h.2.1] at h2
  rw [h.2.2.1] at h3
  omega
theorem Lines.cntw {b : Int → Int} {n L : Int} {s : Int → Int} (h : Lines b n L s) {l : Int} (h0 : 0 ≤ l) (h1 : l < L) (hc : cnt b (s l) = l) : ∀ (k : Nat), s l + k < s (l + 1) → cnt b (s l + k + 1) = l + 1
  | 0, hk => by
    have hb := h.bd h0 (by omega)
    rw [show s l + ((0 : Nat) : Int) + 1 = s l + 1 by omega, cnt_s _ (by omega), hc, (h.2.2.2 l h0 h1).2.1]
  | k + 1, hk => by
    have hb := h.bd h0 (by omega)
    have ih := h.cntw h0 h1 hc k (by omega)
    rw [show s l + ((k + 1 : Nat) : Int) + 1 = (s l + k + 1) + 1 by omega, cnt_s _ (by omega), ih, (h.2.2.2 l h0 h1).2.2 _ (by omega) (by omega)]
    omega
theorem Lines.cntN {b : Int → Int} {n L : Int} {s : Int → Int} (h : Lines b n L s) : ∀ (k : Nat), (k : Int) ≤ L → cnt b (s k) = k
  | 0, _ => by
    show cnt b (s 0) = 0
    rw [h.2.1, cnt_0]
  | k + 1, hk => by
    have ih := h.cntN k (by omega)
    have h1 := (h.2.2.2 k (by omega) (by omega)).1
    have h2 := h.cntw (l := k) (by omega) (by omega) ih (s (k + 1) - s k - 1).toNat (by omega)
    rw [show s k + ((s (k + 1) - s k - 1).toNat : Int) + 1 = s (k + 1) by omega] at h2
    rw [show ((k + 1 : Nat) : Int) = (k : Int) + 1 by omega]
    exact h2
theorem Lines.num {b : Int → Int} {n L : Int} {s : Int → Int} (h : Lines b n L s) {l : Int} (h0 : 0 ≤ l) (h1 : l ≤ L) : cnt b (s l) = l := by
  obtain ⟨k, rfl⟩ := Int.eq_ofNat_of_zero_le h0
  exact h.cntN k h1
theorem Lines.cnt1 {b : Int → Int} {n L : Int} {s : Int → Int} (h : Lines b n L s) {l w : Int} (h0 : 0 ≤ l) (h1 : l < L) (h2 : s l ≤ w) (h3 : w < s (l + 1)) : cnt b (w + 1) = l + 1 := by
  have hc := h.cntw h0 h1 (h.num h0 (by omega)) (w - s l).toNat (by omega)
  rw [show s l + ((w - s l).toNat : Int) + 1 = w + 1 by omega] at hc
  exact hc
theorem Lines.segN {b : Int → Int} {n L : Int} {s : Int → Int} (h : Lines b n L s) {w : Int} (hw : 0 ≤ w) : ∀ (k : Nat), (k : Int) ≤ L → w < s k → ∃ l : Int, 0 ≤ l ∧ l < k ∧ s l ≤ w ∧ w < s (l + 1)
  | 0, _, h1 => by
    have h2 : w < s 0 := h1
    rw [h.2.1] at h2
    omega
  | k + 1, hk, h1 => by
    by_cases h2 : w < s k
    · obtain ⟨l, a1, a2, a3, a4⟩ := h.segN hw k (by omega) h2
      exact ⟨l, a1, by omega, a3, a4⟩
    · exact ⟨k, by omega, by omega, by omega, by rw [show (k : Int) + 1 = ((k + 1 : Nat) : Int) by omega]; exact h1⟩
theorem Lines.seg {b : Int → Int} {n L : Int} {s : Int → Int} (h : Lines b n L s) {w : Int} (hw : 0 ≤ w) (h1 : w < n) : ∃ l, 0 ≤ l ∧ l < L ∧ s l ≤ w ∧ w < s (l + 1) := by
  have h0 := h.1
  obtain ⟨l, a1, a2, a3, a4⟩ := h.segN hw L.toNat (by omega) (by rw [show (L.toNat : Int) = L by omega, h.2.2.1]; exact h1)
  exact ⟨l, a1, by omega, a3, a4⟩
theorem Lines.bin {b : Int → Int} {n L : Int} {s : Int → Int} (h : Lines b n L s) {w : Int} (hw : 0 ≤ w) (h1 : w < n) : b w = 0 ∨ b w = 1 := by
  obtain ⟨l, a1, a2, a3, a4⟩ := h.seg hw h1
  have h2 := h.2.2.2 l a1 a2
  by_cases e : w = s l
  · rw [e]; exact Or.inr h2.2.1
  · exact Or.inl (h2.2.2 w (by omega) a4)
theorem Lines.at {b : Int → Int} {n L : Int} {s : Int → Int} (h : Lines b n L s) {w : Int} (hw : 0 ≤ w) (h1 : w < n) (hb : b w = 1) : ∃ l, 0 ≤ l ∧ l < L ∧ w = s l := by
  obtain ⟨l, a1, a2, a3, a4⟩ := h.seg hw h1
  have h2 := h.2.2.2 l a1 a2
  by_cases e : w = s l
  · exact ⟨l, a1, a2, e⟩
  · have := h2.2.2 w (by omega) a4
    omega
theorem Lines.total {b : Int → Int} {n L : Int} {s : Int → Int} (h : Lines b n L s) : cnt b n = L := by
  have h1 := h.num h.1 (Int.le_refl L)
  rw [h.2.2.1] at h1
  exact h1
theorem Lines.cntbd {b : Int → Int} {n L : Int} {s : Int → Int} (h : Lines b n L s) {w : Int} (hw : 0 ≤ w) (h1 : w < n) : 1 ≤ cnt b (w + 1) ∧ cnt b (w + 1) ≤ L := by
  obtain ⟨l, a1, a2, a3, a4⟩ := h.seg hw h1
  rw [h.cnt1 a1 a2 a3 a4]
  omega
theorem Lines.Lle {b : Int → Int} {n L : Int} {s : Int → Int} (h : Lines b n L s) : L ≤ n := by
  have h1 := h.bd h.1 (Int.le_refl L)
  rw [h.2.2.1] at h1
  omega
theorem Lines.fst {b : Int → Int} {n L : Int} {s : Int → Int} (h : Lines b n L s) {l r : Int} (h0 : 0 ≤ l) (h1 : l < L) (hr : FstP b n l r) : r = s l := by
  have hb := h.bd h0 (by omega)
  have h2 := (h.2.2.2 l h0 h1).1
  have hb1 := h.bd (l := l + 1) (by omega) (by omega)
  have e := h.cnt1 h0 h1 (Int.le_refl _) h2
  by_cases hlt : s l < r
  · have := hr.1 (s l) (by omega) hlt
    omega
  · by_cases hgt : r < s l
    · have h3 := hr.2.1 (by omega)
      obtain ⟨m, a1, a2, a3, a4⟩ := h.seg hr.2.2.1 (show r < n by omega)
      rw [h.cnt1 a1 a2 a3 a4] at h3
      have := h.le (x := l) (y := m) h0 (by omega) (by omega)
      omega
    · omega
theorem Lines.fstneg {b : Int → Int} {n L : Int} {s : Int → Int} (h : Lines b n L s) {l r : Int} (h0 : l < 0) (hr : FstP b n l r) : r = 0 := by
  by_cases hz : 0 < r
  · have h1 := hr.1 0 (by omega) hz
    have h2 := h.cntbd (w := 0) (by omega) (by have := hr.2.2.2; omega)
    omega
  · have := hr.2.2.1
    omega
theorem Lines.fstbig {b : Int → Int} {n L : Int} {s : Int → Int} (h : Lines b n L s) {l r : Int} (h0 : L ≤ l) (hr : FstP b n l r) : r = n := by
  by_cases hz : r < n
  · have h1 := hr.2.1 hz
    have h2 := h.cntbd hr.2.2.1 hz
    omega
  · have := hr.2.2.2
    omega
theorem Lines.end {b : Int → Int} {n L : Int} {s : Int → Int} (h : Lines b n L s) {l r : Int} (h0 : 0 ≤ l) (h1 : l < L) (hr : EndP b n (s l) r) : r = s (l + 1) := by
  have h2 := h.2.2.2 l h0 h1
  have hb := h.bd (l := l) h0 (by omega)
  have hb1 := h.bd (l := l + 1) (by omega) (by omega)
  have hf := hr.2.2.2 (by omega)
  by_cases hlt : r < s (l + 1)
  · have h3 := hr.2.1 (by omega)
    have := h2.2.2 r h3.2 hlt
    omega
  · by_cases hgt : s (l + 1) < r
    · by_cases hL : l + 1 < L
      · exact absurd (h.2.2.2 (l + 1) (by omega) hL).2.1 (hr.1 _ (by omega) hgt)
      · have e : l + 1 = L := by omega
        rw [e, h.2.2.1] at hgt
        have := hr.2.2.1
        omega
    · omega
theorem EndP_n {b : Int → Int} {n r : Int} (hr : EndP b n n r) : r = n := by
  by_cases h : r < n
  · have := (hr.2.1 h).2
    omega
  · have := hr.2.2.1
    omega
theorem Lines.endP {b : Int → Int} {n L : Int} {s : Int → Int} (h : Lines b n L s) {l : Int} (h0 : 0 ≤ l) (h1 : l < L) : EndP b n (s l) (s (l + 1)) := by
  have h2 := h.2.2.2 l h0 h1
  have hb := h.bd (l := l) h0 (by omega)
  have hb1 := h.bd (l := l + 1) (by omega) (by omega)
  refine ⟨fun j g0 g1 => by have := h2.2.2 j g0 g1; omega, fun hlt => ⟨?_, h2.1⟩, by omega, fun _ => h2.1⟩
  by_cases hL : l + 1 < L
  · exact (h.2.2.2 (l + 1) (by omega) hL).2.1
  · rw [show l + 1 = L by omega, h.2.2.1] at hlt
    omega
theorem fill_row {L : Int → Int} {W k f g : Int} {M1 : Mem} {a : Nat} (h0 : 0 ≤ k) (hrow : ∀ j, 0 ≤ j → j < 24 → M1 a j = if j < k ∧ ffst L W (j + 1) = j then 1 else 0) (hs : ffst L W (k + 1) = g) (hbd : 0 ≤ f ∧ (f < k ∨ k = 0 ∧ f = 0)) (hfix : ffst L W (f + 1) = f) (hg : g = f ∨ g = k) : ∀ j, 0 ≤ j → j < 24 → mset M1 a g 1 a j = if j < k + 1 ∧ ffst L W (j + 1) = j then 1 else 0 := by
  intro j g0 g1
  by_cases hj : j = g
  · subst hj
    rw [mset_at, if_pos]
    refine ⟨by omega, ?_⟩
    rcases hg with h | h
    · rw [h]; exact hfix
    · rw [← h] at hs; exact hs
  · rw [mset_ne2 hj, hrow j g0 g1]
    by_cases hjk : j = k
    · subst hjk
      rw [if_neg (fun z => by omega), if_neg (fun z => hj (by rw [← hs]; exact z.2.symm))]
    · by_cases z : j < k ∧ ffst L W (j + 1) = j
      · rw [if_pos z, if_pos ⟨by omega, z.2⟩]
      · rw [if_neg z, if_neg (fun y => z ⟨by omega, y.2⟩)]
def PgCopy (M M' : Mem) (c o : Nat) : Prop := (M' c 0 = M o 0 ∧ M' c 1 = M o 1 ∧ M' c 2 = M o 2) ∧ (∀ j, 0 ≤ j → j < 24 → M' (c + 2) j = M (o + 2) j ∧ M' (c + 4) j = M (o + 4) j ∧ M' (c + 6) j = M (o + 6) j) ∧ ∀ d, d ≠ c → d ≠ c + 2 → d ≠ c + 4 → d ≠ c + 6 → M' d = M d
theorem mcpy_ne {M : Mem} {a b d : Nat} {n : Int} (h : d ≠ a) : mcpy M a b n d = M d := by
  funext j
  exact if_neg (fun z => h z.1)
theorem mset_nef {M : Mem} {c d : Nat} {i v : Int} (h : d ≠ c) : mset M c i v d = M d := by
  funext j
  exact if_neg (fun z => h z.1)
theorem mcpy_in {M : Mem} {a b : Nat} {n j : Int} (h0 : 0 ≤ j) (h1 : j < n) : mcpy M a b n a j = M b j := if_pos ⟨rfl, h0, h1⟩
theorem mclr_ne {M : Mem} {a d : Nat} {n : Int} (h : d ≠ a) : mclr M a n d = M d := by
  funext j
  exact if_neg (fun z => h z.1)
theorem mclr_in {M : Mem} {a : Nat} {n j : Int} (h0 : 0 ≤ j) (h1 : j < n) : mclr M a n a j = 0 := if_pos ⟨rfl, h0, h1⟩
theorem pgcopy_ok (M : Mem) {c o : Nat} (hd : c + 7 ≤ o ∨ o + 7 ≤ c) : PgCopy M (mcpy (mcpy (mcpy (mset (mset (mset M c 0 (M o 0)) c 1 (M o 1)) c 2 (M o 2)) (c + 2) (o + 2) 24) (c + 4) (o + 4) 24) (c + 6) (o + 6) 24) c o := by
  have n1 : c ≠ c + 6 := by omega
  have n2 : c ≠ c + 4 := by omega
  have n3 : c ≠ c + 2 := by omega
  refine ⟨⟨?_, ?_, ?_⟩, fun j h0 h1 => ⟨?_, ?_, ?_⟩, fun d h1 h2 h3 h4 => ?_⟩
  · rw [mcpy_ne n1, mcpy_ne n2, mcpy_ne n3, mset_ne2 (by decide), mset_ne2 (by decide), mset_at]
  · rw [mcpy_ne n1, mcpy_ne n2, mcpy_ne n3, mset_ne2 (by decide), mset_at]
  · rw [mcpy_ne n1, mcpy_ne n2, mcpy_ne n3, mset_at]
  · rw [mcpy_ne (by omega), mcpy_ne (by omega), mcpy_in h0 h1, mset_nef (by omega), mset_nef (by omega), mset_nef (by omega)]
  · rw [mcpy_ne (by omega), mcpy_in h0 h1, mcpy_ne (by omega), mset_nef (by omega), mset_nef (by omega), mset_nef (by omega)]
  · rw [mcpy_in h0 h1, mcpy_ne (by omega), mcpy_ne (by omega), mset_nef (by omega), mset_nef (by omega), mset_nef (by omega)]
  · rw [mcpy_ne h4, mcpy_ne h3, mcpy_ne h2, mset_nef h1, mset_nef h1, mset_nef h1]
