/-! ===== the best is a division that is allowed, and its price is the sum of its lines' prices ===== -/
def PathOK (d Q : Int → Int) (m i pr : Int) : Prop := 0 ≤ m ∧ Q 0 = 0 ∧ Q m = i ∧ (∀ k, 0 ≤ k → k < m → Q k < Q (k + 1) ∧ okD d (Q k) (Q (k + 1))) ∧ pr = cnt (fun k => prD d (Q k) (Q (k + 1))) m
def BOK (d : Int → Int) (b : Bst) : Prop := (b.1 = 1000000000 ∧ b.2.1 = 0) ∨ PathOK d b.2.2.2 b.2.1 (d 0) b.1
theorem foldN_inv {f : Int → Bst → Bst} {i : Int} {P : Bst → Prop} : ∀ (c : Nat) (b : Bst), P b → (∀ (j : Int) (b : Bst), i < j → j ≤ i + c → P b → P (f j b)) → P (foldN f i c b)
  | 0, _, hb, _ => hb
  | c + 1, b, hb, h => foldN_inv c (f (i + c + 1) b) (h (i + c + 1) b (by omega) (by omega) hb) (fun j b h0 h1 => h j b h0 (by omega))
theorem PathOK.next {d Q : Int → Int} {m i pr j : Int} (h : PathOK d Q m i pr) (hij : i < j) (ho : okD d i j) : PathOK d (qset Q (m + 1) j) (m + 1) j (pr + prD d i j) := by
  obtain ⟨h0, h1, h2, h3, h4⟩ := h
  have e : ∀ k, k ≤ m → qset Q (m + 1) j k = Q k := fun k hk => if_neg (by omega)
  have e1 : qset Q (m + 1) j (m + 1) = j := if_pos rfl
  refine ⟨by omega, by rw [e 0 h0]; exact h1, e1, fun k k0 k1 => ?_, ?_⟩
  · by_cases hk : k = m
    · rw [hk, e m (Int.le_refl _), e1, h2]; exact ⟨hij, ho⟩
    · rw [e k (by omega), e (k + 1) (by omega)]; exact h3 k k0 (by omega)
  · rw [cnt_s _ h0, e m (Int.le_refl _), e1, h2, h4]
    rw [cnt_congr (f := fun k => prD d (qset Q (m + 1) j k) (qset Q (m + 1) j (k + 1))) (g := fun k => prD d (Q k) (Q (k + 1))) (k := m) (fun k k0 k1 => by
      show prD d (qset Q (m + 1) j k) (qset Q (m + 1) j (k + 1)) = _
      rw [e k (by omega), e (k + 1) (by omega)])]
theorem srF_ok {d : Int → Int} {D : Int} : ∀ (t : Nat) (p i : Int) (r : Int → Int) (pr rv m : Int) (Q : Int → Int) (b : Bst), i ≤ d 0 → PathOK d Q m i pr → BOK d b → BOK d (srF d D t p i r pr rv m Q b)
  | 0, _, _, _, _, _, _, _, _, _, _, hb => hb
  | t + 1, p, i, r, pr, rv, m, Q, b, h1, hp, hb => by
    by_cases hi : d 0 ≤ i
    · have hq : i = d 0 := by omega
      show BOK d (if d 0 ≤ i then _ else _ : Bst)
      rw [if_pos hi]
      split
      · exact Or.inr (hq ▸ hp)
      · exact hb
    · rw [srF_S (by omega)]
      refine foldN_inv _ _ hb (fun j b g0 g1 hb => ?_)
      unfold stepF
      split
      · rename_i ho
        exact srF_ok t i j _ _ _ _ _ b (by omega) (hp.next g0 (okB_iff.mp ho.1)) hb
      · exact hb
theorem sol_ok {d : Int → Int} (hD : DOK d) (D : Int) : BOK d (SOL d D) := srF_ok _ _ _ _ _ _ _ _ _ hD.1.1 ⟨Int.le_refl _, rfl, rfl, fun k k0 k1 => by omega, (cnt_0 _).symm⟩ (Or.inl ⟨rfl, rfl⟩)
theorem PathOK.le {d Q : Int → Int} {m i pr : Int} (h : PathOK d Q m i pr) : ∀ (c : Nat) (x : Int), 0 ≤ x → x + c ≤ m → Q x + c ≤ Q (x + c)
  | 0, x, _, _ => by rw [show x + ((0 : Nat) : Int) = x by omega]; omega
  | c + 1, x, h0, h1 => by
    have h2 := h.le c x h0 (by omega)
    have h3 := (h.2.2.2.1 (x + c) (by omega) (by omega)).1
    rw [show x + ((c + 1 : Nat) : Int) = x + c + 1 by omega]
    omega
theorem PathOK.mono {d Q : Int → Int} {m i pr x y : Int} (h : PathOK d Q m i pr) (h0 : 0 ≤ x) (h1 : x ≤ y) (h2 : y ≤ m) : Q x + (y - x) ≤ Q y := by
  have := h.le (y - x).toNat x h0 (by omega)
  rw [show x + ((y - x).toNat : Int) = y by omega] at this
  omega
theorem sol_len {d : Int → Int} (hD : DOK d) (D : Int) : 0 ≤ (SOL d D).2.1 ∧ (SOL d D).2.1 ≤ 24 := by
  have hn := hD.1
  rcases sol_ok hD D with ⟨-, z⟩ | h
  · omega
  · have := h.mono (x := 0) (y := (SOL d D).2.1) (Int.le_refl _) h.1 (Int.le_refl _)
    rw [h.2.1, h.2.2.1] at this
    have := h.1
    omega
