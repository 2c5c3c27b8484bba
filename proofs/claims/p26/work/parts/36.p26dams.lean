/-! ===== p26: dams: a longer one lets more; no river of the best division is longer than told ===== -/
theorem foldN_rel {f g : Int → Bst → Bst} {i : Int} : ∀ (c : Nat) (b b' : Bst), b'.1 ≤ b.1 → (∀ (j : Int) (b b' : Bst), i < j → j ≤ i + c → b'.1 ≤ b.1 → (g j b').1 ≤ (f j b).1) → (foldN g i c b').1 ≤ (foldN f i c b).1
  | 0, _, _, h, _ => h
  | c + 1, b, b', h, hs => foldN_rel (f := f) (g := g) (i := i) c (f (i + c + 1) b) (g (i + c + 1) b') (hs _ b b' (by omega) (by omega) h) (fun j b b' h0 h1 => hs j b b' h0 (by omega))
theorem srF_mono {d : Int → Int} {D D' : Int} (h : D ≤ D') : ∀ (t : Nat) (p i : Int) (r : Int → Int) (pr rv m : Int) (Q : Int → Int) (rv' m' : Int) (Q' : Int → Int) (b b' : Bst), b'.1 ≤ b.1 → (srF d D' t p i r pr rv' m' Q' b').1 ≤ (srF d D t p i r pr rv m Q b).1
  | 0, _, _, _, _, _, _, _, _, _, _, _, _, hb => hb
  | t + 1, p, i, r, pr, rv, m, Q, rv', m', Q', b, b', hb => by
    by_cases hi : d 0 ≤ i
    · show (if d 0 ≤ i then (if pr < b'.1 then (pr, m', rv', Q') else b') else _ : Bst).1 ≤ (if d 0 ≤ i then (if pr < b.1 then (pr, m, rv, Q) else b) else _ : Bst).1
      rw [if_pos hi, if_pos hi]
      split
      · split
        · exact Int.le_refl _
        · show pr ≤ b.1
          omega
      · split
        · show b'.1 ≤ pr
          omega
        · exact hb
    · rw [srF_S (show i < d 0 by omega), srF_S (show i < d 0 by omega)]
      refine foldN_rel _ _ _ hb (fun j b b' _ _ hb => ?_)
      unfold stepF
      by_cases hc : okB d i j = true ∧ mostD d p i j r ≤ D
      · rw [if_pos hc, if_pos ⟨hc.1, Int.le_trans hc.2 h⟩]
        exact srF_mono h t _ _ _ _ _ _ _ _ _ _ b b' hb
      · rw [if_neg hc]
        split
        · exact Int.le_trans (srF_le d D' t _ _ _ _ _ _ _ b') hb
        · exact hb
theorem sol_mono (d : Int → Int) {D D' : Int} (h : D ≤ D') : (SOL d D').1 ≤ (SOL d D).1 := srF_mono h _ _ _ _ _ _ _ _ _ _ _ _ _ (Int.le_refl _)
def pqF (Q : Int → Int) (k : Int) : Int := if k = 0 then 0 else Q (k - 1)
/-- the reaches of the gaps of the first k lines of a division -/
def RQ (d Q : Int → Int) : Nat → Int → Int
  | 0 => fun _ => 0
  | k + 1 => rlF (lenD d) (d 1) (d 0) (pqF Q k) (Q k) (Q ((k : Int) + 1)) (RQ d Q k)
theorem pqF_congr {Q P : Int → Int} {k : Int} (h0 : 0 ≤ k) (h : ∀ x, 0 ≤ x → x ≤ k → Q x = P x) : pqF Q k = pqF P k := by
  unfold pqF
  split
  · rfl
  · exact h _ (by omega) (by omega)
theorem RQ_congr {d Q P : Int → Int} : ∀ k : Nat, (∀ x, 0 ≤ x → x ≤ (k : Int) → Q x = P x) → RQ d Q k = RQ d P k
  | 0, _ => rfl
  | k + 1, h => by
    show rlF _ _ _ (pqF Q k) (Q k) (Q ((k : Int) + 1)) (RQ d Q k) = rlF _ _ _ (pqF P k) (P k) (P ((k : Int) + 1)) (RQ d P k)
    rw [RQ_congr k (fun x a b => h x a (by omega)), pqF_congr (by omega) (fun x a b => h x a (by omega)), h k (by omega) (by omega), h ((k : Int) + 1) (by omega) (by omega)]
def RvOK (d Q : Int → Int) (D m rv : Int) : Prop := (0 ≤ rv ∧ rv ≤ D) ∧ ∀ k : Nat, (k : Int) < m → mostD d (pqF Q k) (Q k) (Q ((k : Int) + 1)) (RQ d Q k) ≤ D
def BOR (d : Int → Int) (D : Int) (b : Bst) : Prop := b.1 = 1000000000 ∨ RvOK d b.2.2.2 D b.2.1 b.2.2.1
theorem RvOK.next {d Q : Int → Int} {D m rv j : Int} (h : RvOK d Q D m rv) (hm : 0 ≤ m) (hD : mostD d (pqF Q m) (Q m) j (RQ d Q m.toNat) ≤ D) : RvOK d (qset Q (m + 1) j) D (m + 1) (max rv (mostD d (pqF Q m) (Q m) j (RQ d Q m.toNat))) := by
  have hq : ∀ x, 0 ≤ x → x ≤ m → qset Q (m + 1) j x = Q x := fun x a b => by
    unfold qset
    rw [if_neg (by omega)]
  refine ⟨⟨Int.le_trans h.1.1 (Int.le_max_left _ _), Int.max_le.mpr ⟨h.1.2, hD⟩⟩, fun k hk => ?_⟩
  rw [RQ_congr (d := d) (Q := qset Q (m + 1) j) (P := Q) k (fun x a b => hq x a (by omega)), pqF_congr (Q := qset Q (m + 1) j) (P := Q) (k := (k : Int)) (by omega) (fun x a b => hq x a (by omega)), hq k (by omega) (by omega)]
  by_cases hkm : (k : Int) = m
  · have e1 : qset Q (m + 1) j ((k : Int) + 1) = j := by
      unfold qset
      rw [if_pos (by omega)]
    have e2 : k = m.toNat := by omega
    rw [e1, e2, show ((m.toNat : Nat) : Int) = m by omega]
    exact hD
  · rw [hq ((k : Int) + 1) (by omega) (by omega)]
    exact h.2 k (by omega)
theorem RQ_next {d Q : Int → Int} {m j : Int} (hm : 0 ≤ m) : RQ d (qset Q (m + 1) j) (m + 1).toNat = rlF (lenD d) (d 1) (d 0) (pqF Q m) (Q m) j (RQ d Q m.toNat) := by
  have hq : ∀ x, 0 ≤ x → x ≤ m → qset Q (m + 1) j x = Q x := fun x a b => by
    unfold qset
    rw [if_neg (by omega)]
  have e1 : qset Q (m + 1) j (m + 1) = j := by
    unfold qset
    rw [if_pos rfl]
  rw [show (m + 1).toNat = m.toNat + 1 by omega]
  show rlF _ _ _ (pqF (qset Q (m + 1) j) (m.toNat : Int)) (qset Q (m + 1) j (m.toNat : Int)) (qset Q (m + 1) j ((m.toNat : Int) + 1)) (RQ d (qset Q (m + 1) j) m.toNat) = _
  rw [show ((m.toNat : Nat) : Int) = m by omega, e1, hq m hm (Int.le_refl _), pqF_congr (Q := qset Q (m + 1) j) (P := Q) hm hq, RQ_congr (d := d) (Q := qset Q (m + 1) j) (P := Q) m.toNat (fun x a b => hq x a (by omega))]
theorem srF_rv {d : Int → Int} {D : Int} : ∀ (t : Nat) (p i : Int) (r : Int → Int) (pr rv m : Int) (Q : Int → Int) (b : Bst), 0 ≤ m → p = pqF Q m → i = Q m → r = RQ d Q m.toNat → RvOK d Q D m rv → BOR d D b → BOR d D (srF d D t p i r pr rv m Q b)
  | 0, _, _, _, _, _, _, _, _, _, _, _, _, _, hb => hb
  | t + 1, p, i, r, pr, rv, m, Q, b, hm, hp, hi, hr, hv, hb => by
    by_cases hn : d 0 ≤ i
    · show BOR d D (if d 0 ≤ i then (if pr < b.1 then (pr, m, rv, Q) else b) else _ : Bst)
      rw [if_pos hn]
      split
      · exact Or.inr hv
      · exact hb
    · rw [srF_S (show i < d 0 by omega)]
      refine foldN_inv _ _ hb (fun j b _ _ hb => ?_)
      unfold stepF
      split
      · rename_i hc
        subst hp; subst hi; subst hr
        refine srF_rv t _ _ _ _ _ _ _ b (by omega) ?_ ?_ (RQ_next hm).symm (hv.next hm hc.2) hb
        · unfold pqF
          rw [if_neg (show m + 1 ≠ 0 by omega), show m + 1 - 1 = m by omega]
          unfold qset
          rw [if_neg (by omega)]
        · unfold qset
          rw [if_pos rfl]
      · exact hb
theorem sol_rv {d : Int → Int} {D : Int} (hD : 0 ≤ D) (h : (SOL d D).1 < 1000000000) : RvOK d (SOL d D).2.2.2 D (SOL d D).2.1 (SOL d D).2.2.1 := by
  have h1 : BOR d D (SOL d D) := srF_rv _ _ _ _ _ _ _ _ _ (Int.le_refl _) rfl rfl rfl ⟨⟨Int.le_refl _, hD⟩, fun k hk => by omega⟩ (Or.inl rfl)
  rcases h1 with h1 | h1
  · omega
  · exact h1
theorem sol_path {d : Int → Int} (hD : DOK d) {D : Int} (h : (SOL d D).1 < 1000000000) : PathOK d (SOL d D).2.2.2 (SOL d D).2.1 (d 0) (SOL d D).1 := by
  rcases sol_ok hD D with h1 | h1
  · omega
  · exact h1
theorem dam_sd {d e Q : Int → Int} {m pr : Int} (hD : DOK d) (hA : Ag (damD d m Q) e) (hp : PathOK d Q m (d 0) pr) : (e 0 = d 0 ∧ e 1 = d 1 ∧ e 3 = m ∧ 0 ≤ m ∧ m ≤ 24) ∧ (∀ w, 0 ≤ w → w < d 0 → lenD e w = lenD d w) ∧ ∀ l, 0 ≤ l → l ≤ m → sd e l = Q l := by
  have hm := hp.mono (x := 0) (y := m) (by omega) hp.1 (Int.le_refl _)
  have hn := hD.1
  have hQ0 := hp.2.1
  have hQm := hp.2.2.1
  have hm24 : m ≤ 24 := by omega
  have hm0 := hp.1
  have e3 : e 3 = m := by
    rw [← hA 3 (by decide) (by decide)]
    unfold damD
    rw [if_pos rfl]
  have e0 : e 0 = d 0 := by
    rw [← hA 0 (by decide) (by decide)]
    unfold damD
    rw [if_neg (by decide), if_neg (by omega), if_neg (by omega)]
  have e1 : e 1 = d 1 := by
    rw [← hA 1 (by decide) (by decide)]
    unfold damD
    rw [if_neg (by decide), if_neg (by omega), if_neg (by omega)]
  refine ⟨⟨e0, e1, e3, hp.1, hm24⟩, fun w a b => ?_, fun l a b => ?_⟩
  · unfold lenD
    rw [← hA (4 + w) (by omega) (by omega)]
    unfold damD
    rw [if_neg (by omega), if_neg (by omega), if_neg (by omega)]
  · unfold sd
    rw [e3, e0]
    by_cases hl : l < m
    · rw [if_pos hl, ← hA (28 + l) (by omega) (by omega)]
      unfold damD
      rw [if_neg (by omega), if_pos (by omega), show 28 + l - 28 = l by omega]
    · rw [if_neg hl, show l = m by omega]
      exact hQm.symm
theorem dam_RN {d e Q : Int → Int} {m pr : Int} (hD : DOK d) (hA : Ag (damD d m Q) e) (hp : PathOK d Q m (d 0) pr) : ∀ k : Nat, (k : Int) ≤ m → ∀ w, RN e k w = RQ d Q k w
  | 0, _, _ => rfl
  | k + 1, hk, w => by
    obtain ⟨⟨e0, e1, e3, -, -⟩, hl, hs⟩ := dam_sd hD hA hp
    have ih := dam_RN hD hA hp k (by omega)
    have q0 := hp.mono (x := 0) (y := k) (by omega) (by omega) (by omega)
    have q1 := hp.mono (x := k) (y := (k : Int) + 1) (by omega) (by omega) (by omega)
    have q2 := hp.mono (x := (k : Int) + 1) (y := m) (by omega) (by omega) (by omega)
    have hQ0 := hp.2.1
    have hQm := hp.2.2.1
    have epv : prv e k = pqF Q k ∧ 0 ≤ pqF Q k ∧ pqF Q k ≤ Q k := by
      unfold prv pqF
      by_cases hz : (k : Int) = 0
      · rw [if_pos hz, if_pos hz]
        omega
      · rw [if_neg hz, if_neg hz, hs ((k : Int) - 1) (by omega) (by omega)]
        have q3 := hp.mono (x := 0) (y := (k : Int) - 1) (by omega) (by omega) (by omega)
        have q4 := hp.mono (x := (k : Int) - 1) (y := k) (by omega) (by omega) (by omega)
        omega
    show rlF (lenD e) (e 1) (e 0) (prv e k) (sd e k) (sd e ((k : Int) + 1)) (RN e k) w = rlF (lenD d) (d 1) (d 0) (pqF Q k) (Q k) (Q ((k : Int) + 1)) (RQ d Q k) w
    rw [hs k (by omega) (by omega), hs ((k : Int) + 1) (by omega) (by omega), epv.1, e0, e1]
    by_cases hw : Q k ≤ w ∧ w < Q ((k : Int) + 1) - 1
    · exact rlF_congr hl epv.2.1 epv.2.2 (by omega) (fun x _ _ => ih x) hw.1 hw.2
    · unfold rlF
      rw [if_neg hw, if_neg hw]
      exact ih w
/-- the longest river behind a dam -/
theorem dam_LR {d e Q : Int → Int} {D m pr rv : Int} (hD : DOK d) (hE : DOK e) (hA : Ag (damD d m Q) e) (hp : PathOK d Q m (d 0) pr) (hr : RvOK d Q D m rv) (hD0 : 0 ≤ D) : LR e ≤ D := by
  obtain ⟨⟨e0, e1, e3, -, -⟩, hl, hs⟩ := dam_sd hD hA hp
  refine (mx_bd hD0 (fun w a b _ => ?_)).2
  obtain ⟨l, a1, a2, a3, a4⟩ := hE.seg a b
  rw [RD_line hE a1 a2 a4]
  by_cases hw : w < sd e (l + 1) - 1
  · rw [dam_RN hD hA hp _ (by omega)]
    have h1 := hr.2 l.toNat (by omega)
    rw [show ((l.toNat : Nat) : Int) = l by omega] at h1
    have h2 : RQ d Q (l.toNat + 1) w ≤ mostD d (pqF Q l) (Q l) (Q (l + 1)) (RQ d Q l.toNat) := by
      have e : RQ d Q (l.toNat + 1) = rlF (lenD d) (d 1) (d 0) (pqF Q l) (Q l) (Q (l + 1)) (RQ d Q l.toNat) := by
        show rlF _ _ _ (pqF Q (l.toNat : Int)) (Q (l.toNat : Int)) (Q ((l.toNat : Int) + 1)) _ = _
        rw [show ((l.toNat : Nat) : Int) = l by omega]
      rw [e]
      exact mx_ge (f := fun _ => true) (by rw [← hs l a1 (by omega)]; exact a3) (by rw [← hs (l + 1) (by omega) (by omega)]; exact hw) rfl
    omega
  · have e : w = sd e (l + 1) - 1 := by omega
    rw [e, RN_last hE a1 a2 (l.toNat + 1) (by omega)]
    exact hD0
theorem sol_len2 {d : Int → Int} (hD : DOK d) {D : Int} (h : (SOL d D).1 < 1000000000) : ∀ k, 0 ≤ k → k ≤ (SOL d D).2.1 → k ≤ (SOL d D).2.2.2 k ∧ (SOL d D).2.2.2 k ≤ d 0 - ((SOL d D).2.1 - k) := fun k k0 k1 => by
  have hp := sol_path hD h
  have h1 := hp.mono (x := 0) (y := k) (by omega) k0 k1
  have h2 := hp.mono (x := k) (y := (SOL d D).2.1) k0 k1 (Int.le_refl _)
  have h3 := hp.2.1
  have h4 := hp.2.2.1
  omega
