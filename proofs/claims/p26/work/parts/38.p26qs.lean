/-! ===== p26: what each question says of the picture ===== -/
theorem q_c0 {N M M' : Mem} {r : Int} (hI : QI N M) (h : CPO M (Ocount M 0) r M') : QI N M' ∧ r = N 83 0 := q_of hI h ⟨SM.rf M, fun _ => by rw [hI.d], (fun z => absurd z (by decide)), (fun z => absurd z (by decide)), (fun z => absurd z (by decide)), (fun z => absurd z (by decide)), (fun z => absurd z (by decide)), (fun z => absurd z (by decide)), (fun z => absurd z (by decide)), (fun z => absurd z (by decide)), (fun z => absurd z (by decide)), (fun z => absurd z (by decide)), (fun z => absurd z (by decide)), fun z => absurd z (by omega)⟩
theorem q_c1 {N M M' : Mem} {r : Int} (hI : QI N M) (h : CPO M (Ocount M 1) r M') : QI N M' ∧ r = N 83 3 := q_of hI h ⟨SM.rf M, (fun z => absurd z (by decide)), fun _ => by rw [hI.d], (fun z => absurd z (by decide)), (fun z => absurd z (by decide)), (fun z => absurd z (by decide)), (fun z => absurd z (by decide)), (fun z => absurd z (by decide)), (fun z => absurd z (by decide)), (fun z => absurd z (by decide)), (fun z => absurd z (by decide)), (fun z => absurd z (by decide)), (fun z => absurd z (by decide)), fun z => absurd z (by omega)⟩
theorem q_c2 {N M M' : Mem} {r : Int} (hI : QI N M) (h : CPO M (Ocount M 2) r M') : QI N M' ∧ r = N 83 1 := q_of hI h ⟨SM.rf M, (fun z => absurd z (by decide)), (fun z => absurd z (by decide)), fun _ => by rw [hI.d], (fun z => absurd z (by decide)), (fun z => absurd z (by decide)), (fun z => absurd z (by decide)), (fun z => absurd z (by decide)), (fun z => absurd z (by decide)), (fun z => absurd z (by decide)), (fun z => absurd z (by decide)), (fun z => absurd z (by decide)), (fun z => absurd z (by decide)), fun z => absurd z (by omega)⟩
theorem q_c4 {N M M' : Mem} {r : Int} (hI : QI N M) (h : CPO M (Ocount M 4) r M') : QI N M' ∧ r = badD (N 83) := q_of hI h ⟨SM.rf M, (fun z => absurd z (by decide)), (fun z => absurd z (by decide)), (fun z => absurd z (by decide)), (fun z => absurd z (by decide)), fun _ => by rw [hI.d], (fun z => absurd z (by decide)), (fun z => absurd z (by decide)), (fun z => absurd z (by decide)), (fun z => absurd z (by decide)), (fun z => absurd z (by decide)), (fun z => absurd z (by decide)), (fun z => absurd z (by decide)), fun z => absurd z (by omega)⟩
theorem q_c5 {N M M' : Mem} {r : Int} (hI : QI N M) (h : CPO M (Ocount M 5) r M') : QI N M' ∧ r = LR (N 83) := q_of hI h ⟨SM.rf M, (fun z => absurd z (by decide)), (fun z => absurd z (by decide)), (fun z => absurd z (by decide)), (fun z => absurd z (by decide)), (fun z => absurd z (by decide)), fun _ => by rw [hI.d], (fun z => absurd z (by decide)), (fun z => absurd z (by decide)), (fun z => absurd z (by decide)), (fun z => absurd z (by decide)), (fun z => absurd z (by decide)), (fun z => absurd z (by decide)), fun z => absurd z (by omega)⟩
theorem q_c9 {N M M' : Mem} {r : Int} (hI : QI N M) (h : CPO M (Ocount M 9) r M') : QI N M' ∧ r = N 82 2 := q_of hI h ⟨SM.rf M, (fun z => absurd z (by decide)), (fun z => absurd z (by decide)), (fun z => absurd z (by decide)), (fun z => absurd z (by decide)), (fun z => absurd z (by decide)), (fun z => absurd z (by decide)), (fun z => absurd z (by decide)), (fun z => absurd z (by decide)), (fun z => absurd z (by decide)), fun _ => by rw [hI.2 82 (by decide)], (fun z => absurd z (by decide)), (fun z => absurd z (by decide)), fun z => absurd z (by omega)⟩
theorem q_w0 {N M M' : Mem} {k r : Int} (hI : QI N M) (hk : 0 ≤ k ∧ k < N 83 0) (h : CPO M (Oword M k 0) r M') : QI N M' ∧ r = N 83 (4 + k) := q_of hI h ⟨SM.rf M, Or.inr ⟨by rw [hI.d]; exact hk, fun _ => by rw [hI.d], (fun z => absurd z (by decide)), (fun z => absurd z (by decide)), fun z => absurd z (by omega)⟩⟩
theorem q_w2 {N M M' : Mem} {k r : Int} (hI : QI N M) (hk : 0 ≤ k ∧ k < N 83 0) (h : CPO M (Oword M k 2) r M') : QI N M' ∧ r = CO (N 83) k := q_of hI h ⟨SM.rf M, Or.inr ⟨by rw [hI.d]; exact hk, (fun z => absurd z (by decide)), (fun z => absurd z (by decide)), fun _ => by rw [hI.d], fun z => absurd z (by omega)⟩⟩
theorem q_l0 {N M M' : Mem} {ln r : Int} (hI : QI N M) (hl : isL (N 83) ln) (h : CPO M (Oline M ln 0) r M') : QI N M' ∧ r = sd (N 83) ln := q_of hI h ⟨SM.rf M, Or.inr ⟨by rw [hI.d]; exact hl, fun _ => by rw [hI.d], (fun z => absurd z (by decide)), (fun z => absurd z (by decide)), (fun z => absurd z (by decide)), (fun z => absurd z (by decide)), (fun z => absurd z (by decide)), (fun z => absurd z (by decide)), fun z => absurd z (by omega)⟩⟩
theorem q_l1 {N M M' : Mem} {ln r : Int} (hI : QI N M) (hl : isL (N 83) ln) (h : CPO M (Oline M ln 1) r M') : QI N M' ∧ r = sd (N 83) (ln + 1) - sd (N 83) ln := q_of hI h ⟨SM.rf M, Or.inr ⟨by rw [hI.d]; exact hl, (fun z => absurd z (by decide)), fun _ => by rw [hI.d], (fun z => absurd z (by decide)), (fun z => absurd z (by decide)), (fun z => absurd z (by decide)), (fun z => absurd z (by decide)), (fun z => absurd z (by decide)), fun z => absurd z (by omega)⟩⟩
theorem q_l2 {N M M' : Mem} {ln r : Int} (hI : QI N M) (hl : isL (N 83) ln) (h : CPO M (Oline M ln 2) r M') : QI N M' ∧ r = exD (N 83) (sd (N 83) ln) (sd (N 83) (ln + 1)) := q_of hI h ⟨SM.rf M, Or.inr ⟨by rw [hI.d]; exact hl, (fun z => absurd z (by decide)), (fun z => absurd z (by decide)), fun _ => by rw [hI.d], (fun z => absurd z (by decide)), (fun z => absurd z (by decide)), (fun z => absurd z (by decide)), (fun z => absurd z (by decide)), fun z => absurd z (by omega)⟩⟩
theorem q_l3 {N M M' : Mem} {ln r : Int} (hI : QI N M) (hl : isL (N 83) ln) (h : CPO M (Oline M ln 3) r M') : QI N M' ∧ r = bdD (N 83) (sd (N 83) ln) (sd (N 83) (ln + 1)) := q_of hI h ⟨SM.rf M, Or.inr ⟨by rw [hI.d]; exact hl, (fun z => absurd z (by decide)), (fun z => absurd z (by decide)), (fun z => absurd z (by decide)), fun _ => by rw [hI.d], (fun z => absurd z (by decide)), (fun z => absurd z (by decide)), (fun z => absurd z (by decide)), fun z => absurd z (by omega)⟩⟩
theorem q_l4 {N M M' : Mem} {ln r : Int} (hI : QI N M) (hl : isL (N 83) ln) (h : CPO M (Oline M ln 4) r M') : QI N M' ∧ r = sd (N 83) (ln + 1) - sd (N 83) ln - 1 := q_of hI h ⟨SM.rf M, Or.inr ⟨by rw [hI.d]; exact hl, (fun z => absurd z (by decide)), (fun z => absurd z (by decide)), (fun z => absurd z (by decide)), (fun z => absurd z (by decide)), fun _ => by rw [hI.d], (fun z => absurd z (by decide)), (fun z => absurd z (by decide)), fun z => absurd z (by omega)⟩⟩
theorem q_l6 {N M M' : Mem} {ln r : Int} (hI : QI N M) (hl : isL (N 83) ln) (h : CPO M (Oline M ln 6) r M') : QI N M' ∧ r = mx (fun _ => true) (RD (N 83)) (sd (N 83) ln) (sd (N 83) (ln + 1)) := q_of hI h ⟨SM.rf M, Or.inr ⟨by rw [hI.d]; exact hl, (fun z => absurd z (by decide)), (fun z => absurd z (by decide)), (fun z => absurd z (by decide)), (fun z => absurd z (by decide)), (fun z => absurd z (by decide)), (fun z => absurd z (by decide)), fun _ => by rw [hI.d], fun z => absurd z (by omega)⟩⟩
theorem q_g1 {N M M' : Mem} {ln g r : Int} (hI : QI N M) (hg : isG (N 83) ln g) (h : CPO M (Ogap M ln g 1) r M') : QI N M' ∧ r = GV (N 83) (sd (N 83) ln + g) := q_of hI h ⟨SM.rf M, Or.inr ⟨by rw [hI.d]; exact hg, (fun z => absurd z (by decide)), fun _ => by rw [hI.d], (fun z => absurd z (by decide)), (fun z => absurd z (by decide)), (fun z => absurd z (by decide)), fun z => absurd z (by omega)⟩⟩
theorem q_g2 {N M M' : Mem} {ln g r : Int} (hI : QI N M) (hg : isG (N 83) ln g) (h : CPO M (Ogap M ln g 2) r M') : QI N M' ∧ r = RD (N 83) (sd (N 83) ln + g) := q_of hI h ⟨SM.rf M, Or.inr ⟨by rw [hI.d]; exact hg, (fun z => absurd z (by decide)), (fun z => absurd z (by decide)), fun _ => by rw [hI.d], (fun z => absurd z (by decide)), (fun z => absurd z (by decide)), fun z => absurd z (by omega)⟩⟩
theorem q_g3 {N M M' : Mem} {ln g r : Int} (hI : QI N M) (hg : isG (N 83) ln g) (h : CPO M (Ogap M ln g 3) r M') : QI N M' ∧ r = abD (N 83) (sd (N 83) ln + g) := q_of hI h ⟨SM.rf M, Or.inr ⟨by rw [hI.d]; exact hg, (fun z => absurd z (by decide)), (fun z => absurd z (by decide)), (fun z => absurd z (by decide)), fun _ => by rw [hI.d], (fun z => absurd z (by decide)), fun z => absurd z (by omega)⟩⟩
theorem q_g4 {N M M' : Mem} {ln g r : Int} (hI : QI N M) (hg : isG (N 83) ln g) (h : CPO M (Ogap M ln g 4) r M') : QI N M' ∧ r = beD (N 83) ln (sd (N 83) ln + g) := q_of hI h ⟨SM.rf M, Or.inr ⟨by rw [hI.d]; exact hg, (fun z => absurd z (by decide)), (fun z => absurd z (by decide)), (fun z => absurd z (by decide)), (fun z => absurd z (by decide)), fun _ => by rw [hI.d], fun z => absurd z (by omega)⟩⟩
theorem q_p0 {N M M' : Mem} {D r : Int} (hI : QI N M) (hD : 1 ≤ D ∧ D ≤ 24) (h : CPO M (Oplan M D 0) r M') : QI N M' ∧ ((SOL (N 83) D).1 = 1000000000 ∧ r = -4 ∨ (SOL (N 83) D).1 < 1000000000 ∧ r = (SOL (N 83) D).1 / 100000) := by
  have hb := sol_bd hI.hD D
  by_cases z : (SOL (N 83) D).1 = 1000000000
  · obtain ⟨a, b⟩ := q_of hI h (r' := -4) ⟨SM.rf M, Or.inr (Or.inl ⟨⟨hD, by decide, by decide⟩, by rw [hI.d]; exact z, rfl⟩)⟩
    exact ⟨a, Or.inl ⟨z, b⟩⟩
  · obtain ⟨a, b⟩ := q_of hI h (r' := (SOL (N 83) D).1 / 100000) ⟨SM.rf M, Or.inr (Or.inr ⟨⟨hD, by decide, by decide⟩, by rw [hI.d]; omega, fun _ => by rw [hI.d], (fun z => absurd z (by decide)), (fun z => absurd z (by decide)), (fun z => absurd z (by decide))⟩)⟩
    exact ⟨a, Or.inr ⟨by omega, b⟩⟩
theorem q_p1 {N M M' : Mem} {D r : Int} (hI : QI N M) (hD : 1 ≤ D ∧ D ≤ 24) (h : CPO M (Oplan M D 1) r M') : QI N M' ∧ ((SOL (N 83) D).1 = 1000000000 ∧ r = -4 ∨ (SOL (N 83) D).1 < 1000000000 ∧ r = (SOL (N 83) D).2.1) := by
  have hb := sol_bd hI.hD D
  by_cases z : (SOL (N 83) D).1 = 1000000000
  · obtain ⟨a, b⟩ := q_of hI h (r' := -4) ⟨SM.rf M, Or.inr (Or.inl ⟨⟨hD, by decide, by decide⟩, by rw [hI.d]; exact z, rfl⟩)⟩
    exact ⟨a, Or.inl ⟨z, b⟩⟩
  · obtain ⟨a, b⟩ := q_of hI h (r' := (SOL (N 83) D).2.1) ⟨SM.rf M, Or.inr (Or.inr ⟨⟨hD, by decide, by decide⟩, by rw [hI.d]; omega, (fun z => absurd z (by decide)), fun _ => by rw [hI.d], (fun z => absurd z (by decide)), (fun z => absurd z (by decide))⟩)⟩
    exact ⟨a, Or.inr ⟨by omega, b⟩⟩
theorem q_p2 {N M M' : Mem} {D r : Int} (hI : QI N M) (hD : 1 ≤ D ∧ D ≤ 24) (h : CPO M (Oplan M D 2) r M') : QI N M' ∧ ((SOL (N 83) D).1 = 1000000000 ∧ r = -4 ∨ (SOL (N 83) D).1 < 1000000000 ∧ r = (SOL (N 83) D).1 % 100000) := by
  have hb := sol_bd hI.hD D
  by_cases z : (SOL (N 83) D).1 = 1000000000
  · obtain ⟨a, b⟩ := q_of hI h (r' := -4) ⟨SM.rf M, Or.inr (Or.inl ⟨⟨hD, by decide, by decide⟩, by rw [hI.d]; exact z, rfl⟩)⟩
    exact ⟨a, Or.inl ⟨z, b⟩⟩
  · obtain ⟨a, b⟩ := q_of hI h (r' := (SOL (N 83) D).1 % 100000) ⟨SM.rf M, Or.inr (Or.inr ⟨⟨hD, by decide, by decide⟩, by rw [hI.d]; omega, (fun z => absurd z (by decide)), (fun z => absurd z (by decide)), fun _ => by rw [hI.d], (fun z => absurd z (by decide))⟩)⟩
    exact ⟨a, Or.inr ⟨by omega, b⟩⟩
theorem q_p3 {N M M' : Mem} {D r : Int} (hI : QI N M) (hD : 1 ≤ D ∧ D ≤ 24) (h : CPO M (Oplan M D 3) r M') : QI N M' ∧ ((SOL (N 83) D).1 = 1000000000 ∧ r = -4 ∨ (SOL (N 83) D).1 < 1000000000 ∧ r = (SOL (N 83) D).2.2.1) := by
  have hb := sol_bd hI.hD D
  by_cases z : (SOL (N 83) D).1 = 1000000000
  · obtain ⟨a, b⟩ := q_of hI h (r' := -4) ⟨SM.rf M, Or.inr (Or.inl ⟨⟨hD, by decide, by decide⟩, by rw [hI.d]; exact z, rfl⟩)⟩
    exact ⟨a, Or.inl ⟨z, b⟩⟩
  · obtain ⟨a, b⟩ := q_of hI h (r' := (SOL (N 83) D).2.2.1) ⟨SM.rf M, Or.inr (Or.inr ⟨⟨hD, by decide, by decide⟩, by rw [hI.d]; omega, (fun z => absurd z (by decide)), (fun z => absurd z (by decide)), (fun z => absurd z (by decide)), fun _ => by rw [hI.d]⟩)⟩
    exact ⟨a, Or.inr ⟨by omega, b⟩⟩
theorem q_pl {N M M' : Mem} {D k r : Int} (hI : QI N M) (hD : 1 ≤ D ∧ D ≤ 24) (hs : (SOL (N 83) D).1 < 1000000000) (hk : 0 ≤ k ∧ k < (SOL (N 83) D).2.1) (h : CPO M (Oplanned M D k) r M') : QI N M' ∧ r = (SOL (N 83) D).2.2.2 (k + 1) - (SOL (N 83) D).2.2.2 k := q_of hI h ⟨SM.rf M, Or.inr (Or.inr ⟨⟨hD, hk.1⟩, by rw [hI.d]; exact hs, by rw [hI.d]; exact hk.2, by rw [hI.d]⟩)⟩
theorem lst_N {P : Int → Prop} {a : Int} : ∀ (k : Nat), (∃ g, a ≤ g ∧ g < a + k ∧ P g) → ∃ g, a ≤ g ∧ g < a + k ∧ P g ∧ ∀ x, a ≤ x → x < g → ¬ P x
  | 0, ⟨g, h0, h1, _⟩ => by omega
  | k + 1, ⟨g, h0, h1, h2⟩ => by
    by_cases h : ∃ g, a ≤ g ∧ g < a + k ∧ P g
    · obtain ⟨x, x0, x1, x2, x3⟩ := lst_N k h
      exact ⟨x, x0, by omega, x2, x3⟩
    · exact ⟨g, h0, h1, h2, fun x x0 x1 hx => h ⟨x, x0, by omega, hx⟩⟩
theorem q_le {N M M' : Mem} {r : Int} (hI : QI N M) (h : CPO M (Oleast M) r M') : QI N M' ∧ (r = -4 ∨ 1 ≤ r ∧ r ≤ 24) ∧ ∀ D, 1 ≤ D → D ≤ 24 → ((SOL (N 83) D).1 < 1000000000 ↔ 0 ≤ r ∧ r ≤ D) := by
  have hD := hI.hD
  by_cases hz : ∃ D, 1 ≤ D ∧ D < 1 + ((24 : Nat) : Int) ∧ (SOL (N 83) D).1 < 1000000000
  · obtain ⟨g, g0, g1, g2, g3⟩ := lst_N 24 hz
    have hall : ∀ D, 1 ≤ D → D < g → (SOL (N 83) D).1 = 1000000000 := fun D a b => by
      have h1 := g3 D a b
      have h2 := sol_bd hD D
      omega
    obtain ⟨a, b⟩ := q_of hI h (r' := g) ⟨SM.rf M, Or.inl ⟨g0, by omega, by rw [hI.d]; exact g2, fun D x y => by rw [hI.d]; exact hall D x y⟩⟩
    subst b
    refine ⟨a, Or.inr ⟨g0, by omega⟩, fun D d0 d1 => ⟨fun hs => ⟨by omega, ?_⟩, fun hs => ?_⟩⟩
    · by_cases hlt : D < r
      · have := hall D d0 hlt
        omega
      · omega
    · have := sol_mono (N 83) hs.2
      omega
  · have hall : ∀ D, 1 ≤ D → D ≤ 24 → (SOL (N 83) D).1 = 1000000000 := fun D a b => by
      have h2 := sol_bd hD D
      by_cases h3 : (SOL (N 83) D).1 < 1000000000
      · exact absurd ⟨D, a, by omega, h3⟩ hz
      · omega
    obtain ⟨a, b⟩ := q_of hI h (r' := -4) ⟨SM.rf M, Or.inr ⟨rfl, fun D x y => by rw [hI.d]; exact hall D x y⟩⟩
    refine ⟨a, Or.inl b, fun D d0 d1 => ⟨fun hs => ?_, fun hs => ?_⟩⟩
    · have := hall D d0 d1
      omega
    · omega
/-! bounds, for what the law counts -/
theorem bdL_bd {d : Int → Int} (hD : DOK d) {l : Int} (h0 : 0 ≤ l) (h1 : l < d 3) : 0 ≤ bdD d (sd d l) (sd d (l + 1)) ∧ bdD d (sd d l) (sd d (l + 1)) ≤ 1681 := by
  have hl := hD.2.2.2.2.2.2 l h0 h1
  have hb := hD.bdall h0
  have hb1 := hD.bdall (l := l + 1) (by omega)
  have hx := exD_bdD hD hb.1 (show sd d l ≤ sd d (l + 1) by omega) hb1.2
  have e : exF (lenD d) (d 1) (sd d l) (sd d (l + 1)) = exD d (sd d l) (sd d (l + 1)) := rfl
  have e0 : 0 ≤ exD d (sd d l) (sd d (l + 1)) := by rw [← e]; exact hl.2.2
  have hm : exD d (sd d l) (sd d (l + 1)) * exD d (sd d l) (sd d (l + 1)) ≤ 41 * 41 := Int.mul_le_mul hx.2 hx.2 e0 (by decide)
  have hz : 0 ≤ exD d (sd d l) (sd d (l + 1)) * exD d (sd d l) (sd d (l + 1)) := Int.mul_nonneg e0 e0
  unfold bdD
  split <;> omega
theorem bad_bd {d : Int → Int} (hD : DOK d) {k : Int} (h0 : 0 ≤ k) (h1 : k ≤ d 3) : 0 ≤ cnt (fun l => bdD d (sd d l) (sd d (l + 1))) k ∧ cnt (fun l => bdD d (sd d l) (sd d (l + 1))) k ≤ 50000 := by
  have hL := hD.L24
  have h := cnt_mono (f := fun l => bdD d (sd d l) (sd d (l + 1))) (lo := 0) (hi := 1681) (a := 0) (by omega) k.toNat (fun j a b => bdL_bd hD a (by omega))
  rw [cnt_0, show 0 + (k.toNat : Int) = k by omega, show ((k.toNat : Nat) : Int) = k by omega] at h
  omega
theorem mxR_bd {d : Int → Int} (hD : DOK d) (a e : Int) : 0 ≤ mx (fun _ => true) (RD d) a e ∧ mx (fun _ => true) (RD d) a e ≤ 24 := mx_bd (by omega) (fun w _ _ _ => (RD_bd d ⟨hD.L24.1, hD.L24.2.2⟩ w).2)
theorem CO_bdD {d : Int → Int} (hD : DOK d) {w : Int} (h0 : 0 ≤ w) (h1 : w < d 0) : 0 ≤ CO d w ∧ CO d w ≤ 2000 := by
  obtain ⟨a1, a2, a3, a4⟩ := lnD_seg hD h0 h1
  have hn := hD.1
  have hb0 := hD.bdall a1
  have := colF_bdn (L := lenD d) (j := sd d (lnD d w + 1)) (lex_bdD hD a1 a2) (n := d 0) hD.len8 hb0.1 a3 (show w ≤ d 0 by omega)
  unfold CO lcol
  omega
theorem be_bd {d : Int → Int} (hD : DOK d) {l : Int} (h0 : 0 ≤ l) {g : Int} (g0 : 0 ≤ g) : 0 ≤ cnt (fun q => beD d l (sd d l + q)) g ∧ cnt (fun q => beD d l (sd d l + q)) g ≤ 24 * g := by
  have h := cnt_mono (f := fun q => beD d l (sd d l + q)) (lo := 0) (hi := 24) (a := 0) (by omega) g.toNat (fun j _ _ => below_bd hD h0)
  rw [cnt_0, show 0 + (g.toNat : Int) = g by omega, show ((g.toNat : Nat) : Int) = g by omega] at h
  omega
theorem aa_bd {d : Int → Int} (hD : DOK d) {l : Int} (h0 : 0 ≤ l) (h1 : l + 1 < d 3) {g : Int} (g0 : 0 ≤ g) (g1 : g ≤ sd d (l + 1 + 1) - sd d (l + 1) - 1) : 0 ≤ cnt (fun q => abD d (sd d (l + 1) + q)) g ∧ cnt (fun q => abD d (sd d (l + 1) + q)) g ≤ 24 * g := by
  have hb := hD.bdall (l := l + 1) (by omega)
  have hb2 := hD.bdall (l := l + 1 + 1) (by omega)
  have h := cnt_mono (f := fun q => abD d (sd d (l + 1) + q)) (lo := 0) (hi := 24) (a := 0) (by omega) g.toNat (fun j a b => ab_bd d hD (by omega) (by omega))
  rw [cnt_0, show 0 + (g.toNat : Int) = g by omega, show ((g.toNat : Nat) : Int) = g by omega] at h
  omega
theorem above_below2 {d : Int → Int} (hD : DOK d) {l : Int} (h0 : 0 ≤ l) (h1 : l + 1 < d 3) : cnt (fun q => abD d (sd d (l + 1) + q)) (sd d (l + 1 + 1) - sd d (l + 1) - 1) = cnt (fun q => beD d l (sd d l + q)) (sd d (l + 1) - sd d l - 1) := by
  rw [show l + 1 + 1 = l + 2 by omega]
  exact above_below hD h0 h1
theorem mx_step {d : Int → Int} (hD : DOK d) {l : Int} (h0 : 0 ≤ l) (h1 : l < d 3) : mx (fun _ => true) (RD d) 0 (sd d (l + 1)) = if mx (fun _ => true) (RD d) 0 (sd d l) < mx (fun _ => true) (RD d) (sd d l) (sd d (l + 1)) then mx (fun _ => true) (RD d) (sd d l) (sd d (l + 1)) else mx (fun _ => true) (RD d) 0 (sd d l) := by
  have hl := (hD.2.2.2.2.2.2 l h0 h1).1
  have hb := hD.bdall h0
  exact mx_split hb.1 (by omega)
theorem mod_bd {z L : Int} (hL : 0 < L) : 0 ≤ z % L ∧ z % L < L := ⟨Int.emod_nonneg z (by omega), Int.emod_lt_of_pos z hL⟩
/-! behind a change: what the law does next -/
theorem push_back {N M M' : Mem} {ln r : Int} (hI : QI N M) (hl : isL (N 83) ln) (hp : ¬ noPush (N 83) ln) (hne : ln + 1 ≠ N 83 3) (h : CPO M (Opush M ln) r M') : ∃ P : Mem, r = N 83 3 ∧ QI (mixM M' P) (mixM M' P) := by
  obtain ⟨P, hc⟩ := push_of hI hl h
  refine ⟨P, ?_⟩
  rcases hc with ⟨z, -⟩ | ⟨-, hq, hc, -⟩
  · exact absurd z hp
  · rcases hc with ⟨z, -⟩ | ⟨-, z, -⟩
    · exact absurd z hne
    · exact ⟨z, hq⟩
theorem pull_back {N M M' : Mem} {ln L r : Int} (hI : QI N M) (hl : isL (N 83) ln) (hp : ¬ noPull (N 83) ln) (hc0 : ln + 1 = L ∧ N 83 3 = L + 1 ∧ sd (N 83) (ln + 1) + 1 = sd (N 83) (ln + 2) ∨ ln + 1 ≠ L ∧ N 83 3 = L ∧ sd (N 83) (ln + 1) + 1 ≠ sd (N 83) (ln + 2)) (h : CPO M (Opull M ln) r M') : ∃ P : Mem, r = L ∧ QI (mixM M' P) (mixM M' P) ∧ isL (mixM M' P 83) ln ∧ sd (mixM M' P 83) (ln + 1) - sd (mixM M' P 83) ln = sd (N 83) (ln + 1) + 1 - sd (N 83) ln := by
  obtain ⟨P, hc⟩ := pull_of hI hl h
  have h0 := hl.1
  have h1 := hl.2
  refine ⟨P, ?_⟩
  rcases hc with ⟨z, -⟩ | ⟨-, hq, e3, hc, hw⟩
  · exact absurd z hp
  · have n1 : ln + 1 ≠ N 83 3 := fun z => hp (Or.inl z)
    rcases hc with ⟨a, b⟩ | ⟨a, b, -⟩
    · exact ⟨by omega, hq, ⟨h0, by omega⟩, hw⟩
    · exact ⟨by omega, hq, ⟨h0, by omega⟩, hw⟩
theorem undo_back {N0 N M M' : Mem} {r : Int} (hI : QI N M) (h0 : 0 ≤ N0 82 2 ∧ N0 82 2 ≤ 5) (hr : RecP N0 N) (h : CPO M (Oundo M) r M') : ∃ P : Mem, (N0 82 2 < 5 ∧ r = N0 82 2 ∨ N0 82 2 = 5 ∧ r = 4) ∧ QI (mixM M' P) (mixM M' P) ∧ mixM M' P 83 0 = N0 83 0 := by
  obtain ⟨P, hc⟩ := undo_of hI h
  refine ⟨P, ?_⟩
  by_cases z : N0 82 2 < 5
  · obtain ⟨a, b, c⟩ := hr.1 z
    rcases hc with ⟨y, -⟩ | ⟨-, er, hq, hA⟩
    · omega
    · refine ⟨Or.inl ⟨z, by omega⟩, hq, ?_⟩
      rw [← hA 0 (by decide) (by decide), show N 82 2 - 1 = N0 82 2 by omega]
      exact (c 0 (by decide) (by decide)).symm
  · have z5 : N0 82 2 = 5 := by omega
    obtain ⟨a, b, c⟩ := hr.2 z5
    rcases hc with ⟨y, -⟩ | ⟨-, er, hq, hA⟩
    · omega
    · refine ⟨Or.inr ⟨z5, by omega⟩, hq, ?_⟩
      rw [← hA 0 (by decide) (by decide), show N 82 2 - 1 = 4 by omega]
      exact (c 0 (by decide) (by decide)).symm
theorem QI.rb {N M : Mem} (h : QI N M) : QI M M := QI.rf h.1
