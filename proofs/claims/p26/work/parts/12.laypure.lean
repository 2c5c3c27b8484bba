/-! ===== a line laid below another: reaches ===== -/
def RLv (M : Mem) (c : Nat) (p i j w : Int) : Int := if w < j - 1 then 1 + mx (fun g => mtB (M (c + 4) g) (M (c + 6) g) (M (c + 4) w) (M (c + 6) w)) (M (c + 8)) p i else 0
def RLk (M N : Mem) (c : Nat) (p i j k : Int) : Prop := (∀ w, i ≤ w → w < k → N (c + 8) w = RLv M c p i j w) ∧ (∀ w, w < i ∨ k ≤ w → N (c + 8) w = M (c + 8) w) ∧ ∀ d, d ≠ c + 8 → N d = M d
theorem RLk.start (M : Mem) (c : Nat) (p i j : Int) : RLk M M c p i j i := ⟨fun w h0 h1 => by omega, fun w _ => rfl, fun d _ => rfl⟩
theorem RLk.step {M N : Mem} {c : Nat} {p i j k v : Int} (h : RLk M N c p i j k) (hk : i ≤ k) (hv : v = RLv M c p i j k) : RLk M (mset N (c + 8) k v) c p i j (k + 1) := by
  obtain ⟨h1, h2, h3⟩ := h
  refine ⟨fun w g0 g1 => ?_, fun w g => ?_, fun d hd => by rw [mset_nef hd]; exact h3 d hd⟩
  · by_cases hw : w = k
    · rw [hw, mset_at, hv]
    · rw [mset_ne2 hw]; exact h1 w g0 (by omega)
  · by_cases hw : w = k
    · omega
    · rw [mset_ne2 hw]; exact h2 w (by omega)
theorem RLk.reach {M N : Mem} {c : Nat} {p i j k : Int} (h : RLk M N c p i j k) (hik : i ≤ k) (b : Int) : mx (fun g => mtB (N (c + 4) g) (N (c + 6) g) (N (c + 4) b) (N (c + 6) b)) (N (c + 8)) p i = mx (fun g => mtB (M (c + 4) g) (M (c + 6) g) (M (c + 4) b) (M (c + 6) b)) (M (c + 8)) p i := by
  obtain ⟨h1, h2, h3⟩ := h
  rw [h3 (c + 4) (by omega), h3 (c + 6) (by omega)]
  exact mx_congr (fun w g0 g1 => ⟨rfl, fun _ => h2 w (by omega)⟩)
/-- all gaps' columns and widths are small -/
def SBd (M : Mem) (c : Nat) : Prop := ∀ w, 0 ≤ w → w < 24 → (0 ≤ M (c + 4) w ∧ M (c + 4) w ≤ 2000) ∧ (0 ≤ M (c + 6) w ∧ M (c + 6) w ≤ 2000)
theorem PWk.bd {M N : Mem} {c : Nat} {L : Int → Int} {x i j : Int} (h : PWk M N c L x i j j) (hb : SBd M c) (hx : 0 ≤ x ∧ x ≤ 41) (hL : ∀ w, 0 ≤ w → w < 24 → 0 ≤ L w ∧ L w ≤ 8) (hi : 0 ≤ i) : SBd N c := by
  intro w h0 h1
  by_cases hw : i ≤ w ∧ w < j
  · have e := h.1 w hw.1 hw.2
    have c1 := colF_bd (j := j) hx hL hi hw.1 (by omega)
    have c2 := hL w h0 h1
    have c3 := wdF_bd (j := j) hx hw.1
    rw [e.2.1, e.2.2]
    omega
  · have e := h.2.1 w (by omega)
    rw [e.2.1, e.2.2]
    exact hb w h0 h1
/-- what laying the line [i, j) below the line [p, i) does to a sheet c; x is the answer -/
def LayP (M N : Mem) (c : Nat) (L : Int → Int) (ex p i j x : Int) : Prop := ∃ M1, PWk M M1 c L ex i j j ∧ RLk M1 N c p i j j ∧ x = mx (fun _ => true) (RLv M1 c p i j) i j
def lcol (L : Int → Int) (W n a b w : Int) : Int := colF L (lexF L W n a b) a b w
def lgw (L : Int → Int) (W n a b w : Int) : Int := wdF (lexF L W n a b) a b w
def lgc (L : Int → Int) (W n a b w : Int) : Int := lcol L W n a b w + L w
def gmt (L : Int → Int) (W n p i j g w : Int) : Bool := mtB (lgc L W n p i g) (lgw L W n p i g) (lgc L W n i j w) (lgw L W n i j w)
/-- the reaches of gaps, when the line [i, j) is laid below the line [p, i) -/
def rlF (L : Int → Int) (W n p i j : Int) (r : Int → Int) : Int → Int := fun w => if i ≤ w ∧ w < j - 1 then 1 + mx (fun g => gmt L W n p i j g w) r p (i - 1) else r w
def RowsAt (N : Mem) (c : Nat) (L : Int → Int) (W n a b : Int) : Prop := ∀ w, a ≤ w → w < b → N (c + 2) w = lcol L W n a b w ∧ N (c + 4) w = lgc L W n a b w ∧ N (c + 6) w = lgw L W n a b w
theorem lay_rl {M N : Mem} {c : Nat} {L r : Int → Int} {W n p i j x : Int} (hpi : p ≤ i) (hij : i < j) (hR : RowsAt M c L W n p i) (hr : ∀ w, p ≤ w → w < i - 1 → M (c + 8) w = r w) (h : LayP M N c L (lexF L W n i j) p i j x) :
    RowsAt N c L W n i j ∧ (∀ w, i ≤ w → w < j - 1 → N (c + 8) w = rlF L W n p i j r w) ∧ N (c + 8) (j - 1) = 0 ∧ (∀ w, w < i ∨ j ≤ w → N (c + 2) w = M (c + 2) w ∧ N (c + 4) w = M (c + 4) w ∧ N (c + 6) w = M (c + 6) w ∧ N (c + 8) w = M (c + 8) w) ∧ (∀ d, d ≠ c + 2 → d ≠ c + 4 → d ≠ c + 6 → d ≠ c + 8 → N d = M d) ∧ x = mx (fun _ => true) (rlF L W n p i j r) i (j - 1) := by
  obtain ⟨M1, ⟨a1, a2, a3⟩, ⟨b1, b2, b3⟩, hx⟩ := h
  have e8 : M1 (c + 8) = M (c + 8) := a3 (c + 8) (by omega) (by omega) (by omega)
  have key : ∀ w, i ≤ w → w < j - 1 → RLv M1 c p i j w = rlF L W n p i j r w := by
    intro w g0 g1
    have ew := a1 w g0 (by omega)
    unfold RLv rlF
    rw [if_pos g1, if_pos ⟨g0, g1⟩]
    congr 1
    by_cases hp : p = i
    · rw [mx_0 _ _ (by omega), mx_0 _ _ (by omega)]
    · have hl : mx (fun g => mtB (M1 (c + 4) g) (M1 (c + 6) g) (M1 (c + 4) w) (M1 (c + 6) w)) (M1 (c + 8)) p i = mx (fun g => mtB (M1 (c + 4) g) (M1 (c + 6) g) (M1 (c + 4) w) (M1 (c + 6) w)) (M1 (c + 8)) p (i - 1) := by
        have h1 := mx_last (f := fun g => mtB (M1 (c + 4) g) (M1 (c + 6) g) (M1 (c + 4) w) (M1 (c + 6) w)) (r := M1 (c + 8)) (a := p) (e := i - 1) (by
          have e6 : M1 (c + 6) (i - 1) = 0 := by
            rw [(a2 (i - 1) (by omega)).2.2, (hR (i - 1) (by omega) (by omega)).2.2]
            unfold lgw wdF
            rw [if_neg (by omega)]
          apply Bool.eq_false_iff.mpr
          intro z
          have z2 := (mtB_iff.mp z).1
          rw [e6] at z2
          omega)
        rw [show i - 1 + 1 = i by omega] at h1
        exact h1
      rw [hl, e8]
      refine mx_congr (fun g q0 q1 => ⟨?_, fun _ => hr g q0 q1⟩)
      have eg := a2 g (by omega)
      have eR := hR g q0 (by omega)
      unfold gmt
      rw [eg.2.1, eg.2.2, eR.2.1, eR.2.2, ew.2.1, ew.2.2]
      rfl
  refine ⟨fun w g0 g1 => ?_, fun w g0 g1 => ?_, ?_, fun w g => ?_, fun d d2 d4 d6 d8 => ?_, ?_⟩
  · rw [b3 (c + 2) (by omega), b3 (c + 4) (by omega), b3 (c + 6) (by omega)]
    exact a1 w g0 g1
  · rw [b1 w g0 (by omega), key w g0 g1]
  · rw [b1 (j - 1) (by omega) (by omega)]
    unfold RLv
    rw [if_neg (by omega)]
  · rw [b3 (c + 2) (by omega), b3 (c + 4) (by omega), b3 (c + 6) (by omega), b2 w g, e8]
    have := a2 w g
    exact ⟨this.1, this.2.1, this.2.2, rfl⟩
  · rw [b3 d d8, a3 d d2 d4 d6]
  · rw [hx]
    have hl : RLv M1 c p i j (j - 1) = 0 := by
      unfold RLv
      rw [if_neg (by omega)]
    have h1 := mx_s (fun _ => true) (RLv M1 c p i j) (a := i) (e := j - 1) (by omega)
    rw [show j - 1 + 1 = j by omega, if_pos rfl, hl] at h1
    have hc : mx (fun _ => true) (RLv M1 c p i j) i (j - 1) = mx (fun _ => true) (rlF L W n p i j r) i (j - 1) := mx_congr (fun w q0 q1 => ⟨rfl, fun _ => key w q0 q1⟩)
    have hnn : 0 ≤ mx (fun _ => true) (RLv M1 c p i j) i (j - 1) := mx_nn
    rw [h1, if_neg (by omega), hc]
theorem rlF_bd {L r : Int → Int} {W n p i j B : Int} (hB : 0 ≤ B) (hr : ∀ w, p ≤ w → w < i - 1 → r w ≤ B) {w : Int} (h0 : i ≤ w) (h1 : w < j - 1) : 1 ≤ rlF L W n p i j r w ∧ rlF L W n p i j r w ≤ B + 1 := by
  unfold rlF
  rw [if_pos ⟨h0, h1⟩]
  have h := mx_bd (f := fun g => gmt L W n p i j g w) (r := r) (a := p) (e := i - 1) hB (fun w q0 q1 _ => hr w q0 q1)
  omega
