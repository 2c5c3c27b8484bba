/-! ===== the class's cells and the reference's: what they have in common ===== -/
theorem Lines.congr {b c : Int → Int} {n L : Int} {s : Int → Int} (h : Lines b n L s) (e : ∀ w, 0 ≤ w → w < n → b w = c w) : Lines c n L s := by
  refine ⟨h.1, h.2.1, h.2.2.1, fun l h0 h1 => ?_⟩
  have h2 := h.2.2.2 l h0 h1
  have hb := h.bd h0 (by omega)
  have hb1 := h.bd (l := l + 1) (by omega) (by omega)
  exact ⟨h2.1, by rw [← e _ (by omega) (by omega)]; exact h2.2.1, fun w g0 g1 => by rw [← e w (by omega) (by omega)]; exact h2.2.2 w g0 g1⟩
theorem Lines.scongr {b : Int → Int} {n L : Int} {s q : Int → Int} (h : Lines b n L s) (e : ∀ l, 0 ≤ l → l ≤ L → s l = q l) : Lines b n L q := by
  have h0 := h.1
  refine ⟨h.1, by rw [← e 0 (by omega) h0]; exact h.2.1, by rw [← e L h0 (by omega)]; exact h.2.2.1, fun l g0 g1 => ?_⟩
  rw [← e l g0 (by omega), ← e (l + 1) (by omega) (by omega)]
  exact h.2.2.2 l g0 g1
def Ag (d e : Int → Int) : Prop := ∀ j, 0 ≤ j → j < 77 → d j = e j
theorem Ag.symm {d e : Int → Int} (h : Ag d e) : Ag e d := fun j h0 h1 => (h j h0 h1).symm
theorem Ag.trans {d e f : Int → Int} (h : Ag d e) (g : Ag e f) : Ag d f := fun j h0 h1 => (h j h0 h1).trans (g j h0 h1)
theorem sd_ag {d e : Int → Int} (h : Ag d e) (hD : DOK d) {l : Int} (h0 : 0 ≤ l) : sd d l = sd e l := by
  have := hD.L24
  unfold sd
  rw [h 3 (by decide) (by decide), h 0 (by decide) (by decide)]
  have h3 := h 3 (by decide) (by decide)
  split
  · exact h _ (by omega) (by omega)
  · rfl
theorem DOK.ag {d e : Int → Int} (hD : DOK d) (h : Ag d e) : DOK e := by
  have hL := hD.L24
  have hn := hD.1
  have e0 := h 0 (by decide) (by decide)
  have e1 := h 1 (by decide) (by decide)
  have e2 := h 2 (by decide) (by decide)
  have e3 := h 3 (by decide) (by decide)
  refine ⟨by rw [← e0]; exact hD.1, by rw [← e1]; exact hD.2.1, by rw [← e2]; exact hD.2.2.1, by rw [← e3]; exact hD.2.2.2.1, fun w h0 h1 => ?_, ?_, fun l h0 h1 => ?_⟩
  · rw [← h (4 + w) (by omega) (by omega)]
    exact hD.2.2.2.2.1 w h0 (by omega)
  · rw [← sd_ag h hD (by omega)]
    exact hD.2.2.2.2.2.1
  · have hl := hD.2.2.2.2.2.2 l h0 (by omega)
    have hb := hD.bdall (l := l) h0
    have hb1 := hD.bdall (l := l + 1) (by omega)
    rw [← sd_ag h hD h0, ← sd_ag h hD (l := l + 1) (by omega), ← h (53 + l) (by omega) (by omega), ← e1]
    refine ⟨hl.1, hl.2.1, ?_⟩
    have := exF_congr (L := lenD d) (K := lenD e) (W := d 1) (n := d 0) (f := sd d l) (t := sd d (l + 1)) (fun w g0 g1 => h (4 + w) (by omega) (by omega)) hb.2 hb1.2
    rw [← this]
    exact hl.2.2
theorem PRel.ag {M : Mem} {c : Nat} {d e : Int → Int} (hR : PRel M c d) (hD : DOK d) (h : Ag d e) : PRel M c e := by
  have hL := hD.L24
  have e0 := h 0 (by decide) (by decide)
  have e1 := h 1 (by decide) (by decide)
  have e2 := h 2 (by decide) (by decide)
  have e3 := h 3 (by decide) (by decide)
  have hn := hD.1
  unfold PRel
  rw [← e0, ← e1, ← e2, ← e3]
  refine ⟨hR.1, hR.2.1, hR.2.2.1, hR.2.2.2.1.scongr (fun l h0 h1 => sd_ag h hD h0), hR.2.2.2.2.1, fun w h0 h1 => ?_, fun l h0 h1 => ?_, hR.2.2.2.2.2.2.2.1, hR.2.2.2.2.2.2.2.2⟩
  · rw [← h (4 + w) (by omega) (by omega)]
    exact hR.2.2.2.2.2.1 w h0 h1
  · rw [← h (53 + l) (by omega) (by omega), ← sd_ag h hD h0]
    exact hR.2.2.2.2.2.2.1 l h0 h1
theorem PRel.copy {M N : Mem} {c o : Nat} {d : Int → Int} (hR : PRel M o d) (hD : DOK d) (h : PgCopy M N c o) : PRel N c d := by
  obtain ⟨⟨h0, h1, h2⟩, h3, -⟩ := h
  have hn := hD.1
  refine ⟨by rw [h0]; exact hR.1, by rw [h1]; exact hR.2.1, by rw [h2]; exact hR.2.2.1, hR.2.2.2.1.congr (fun w g0 g1 => (h3 w g0 (by omega)).2.1.symm), fun w g0 g1 => by rw [(h3 w g0 g1).1]; exact hR.2.2.2.2.1 w g0 g1, fun w g0 g1 => by rw [(h3 w g0 (by omega)).1]; exact hR.2.2.2.2.2.1 w g0 g1, fun l g0 g1 => ?_, fun w g0 g1 g2 => ?_, fun w g0 g1 => by rw [(h3 w (by omega) g1).2.1]; exact hR.2.2.2.2.2.2.2.2 w g0 g1⟩
  · have hb := hD.bdall (l := l) g0
    have hl := hD.2.2.2.2.2.2 l g0 g1
    have hb1 := hD.bdall (l := l + 1) (by omega)
    rw [(h3 _ hb.1 (by omega)).2.2]
    exact hR.2.2.2.2.2.2.1 l g0 g1
  · rw [(h3 w g0 g1).2.1] at g2
    rw [(h3 w g0 g1).2.2]
    exact hR.2.2.2.2.2.2.2.1 w g0 g1 g2
/-- a state of the reference's history -/
def hs (was : Int → Int) (k : Int) : Int → Int := fun j => was (77 * k + j)
def HRel (M : Mem) (was : Int → Int) (st : Int) : Prop := 0 ≤ st ∧ st ≤ 5 ∧ M 8 0 = st ∧ HPg M ∧ (∀ i j, 0 ≤ i → i < 5 → 0 ≤ j → j < 5 → M 9 i = M 9 j → i = j) ∧ ∀ k, 0 ≤ k → k < st → DOK (hs was k) ∧ ∀ z : Nat, M 9 k = (z : Int) → PRel M z (hs was k)
/-- what the reference's 'records' does -/
def RecP (M N : Mem) : Prop := (M 82 2 < 5 → N 82 2 = M 82 2 + 1 ∧ (∀ k, 0 ≤ k → k < M 82 2 → Ag (hs (M 84) k) (hs (N 84) k)) ∧ Ag (M 83) (hs (N 84) (M 82 2))) ∧ (M 82 2 = 5 → N 82 2 = 5 ∧ (∀ k, 0 ≤ k → k < 4 → Ag (hs (M 84) (k + 1)) (hs (N 84) k)) ∧ Ag (M 83) (hs (N 84) 4))
theorem HPg.cell {M : Mem} (h : HPg M) {i : Int} (h0 : 0 ≤ i) (h1 : i < 5) {z : Nat} (hz : M 9 i = (z : Int)) : 10 ≤ z ∧ z + 7 ≤ 45 ∧ isPage z ∧ ∃ k : Nat, k < 5 ∧ z = 10 + 7 * k := by
  obtain ⟨k, hk, e⟩ := h i h0 h1
  have e2 : z = 10 + 7 * k := by omega
  subst e2
  exact ⟨by omega, by omega, pgH k hk, k, hk, rfl⟩
theorem keep_rel {M M1 N : Mem} (hk : KeepP M M1) (hH : HRel M (M 84) (M 82 2)) (hR : PRel M 1 (M 83)) (hD : DOK (M 83)) (hN : RecP M N) : HRel M1 (N 84) (N 82 2) := by
  obtain ⟨O, P, z, hO, hz, hcp, hM1⟩ := hk
  obtain ⟨s0, s5, hst, hpg, hinj, hall⟩ := hH
  have e9 : ∀ {z2 : Nat}, 10 ≤ z2 → P 9 = O 9 ∧ P 8 = O 8 := fun _ => ⟨hcp.2.2 9 (by
    have := hcp; intro h; subst h
    rcases hO with ⟨q, rfl⟩ | ⟨q, hd⟩
    · have := (hpg.cell (i := O 8 0) (by omega) (by omega) hz).1; omega
    · have := ((hd.pg hpg).cell (i := O 8 0) (by rw [hd.1]; omega) (by rw [hd.1]; omega) hz).1; omega) (by
    intro h
    rcases hO with ⟨q, rfl⟩ | ⟨q, hd⟩
    · have := (hpg.cell (i := O 8 0) (by omega) (by omega) hz).1; omega
    · have := ((hd.pg hpg).cell (i := O 8 0) (by rw [hd.1]; omega) (by rw [hd.1]; omega) hz).1; omega) (by
    intro h
    rcases hO with ⟨q, rfl⟩ | ⟨q, hd⟩
    · have := (hpg.cell (i := O 8 0) (by omega) (by omega) hz).1; omega
    · have := ((hd.pg hpg).cell (i := O 8 0) (by rw [hd.1]; omega) (by rw [hd.1]; omega) hz).1; omega) (by
    intro h
    rcases hO with ⟨q, rfl⟩ | ⟨q, hd⟩
    · have := (hpg.cell (i := O 8 0) (by omega) (by omega) hz).1; omega
    · have := ((hd.pg hpg).cell (i := O 8 0) (by rw [hd.1]; omega) (by rw [hd.1]; omega) hz).1; omega), hcp.2.2 8 (by
    intro h; subst h
    rcases hO with ⟨q, rfl⟩ | ⟨q, hd⟩
    · have := (hpg.cell (i := O 8 0) (by omega) (by omega) hz).1; omega
    · have := ((hd.pg hpg).cell (i := O 8 0) (by rw [hd.1]; omega) (by rw [hd.1]; omega) hz).1; omega) (by
    intro h
    rcases hO with ⟨q, rfl⟩ | ⟨q, hd⟩
    · have := (hpg.cell (i := O 8 0) (by omega) (by omega) hz).1; omega
    · have := ((hd.pg hpg).cell (i := O 8 0) (by rw [hd.1]; omega) (by rw [hd.1]; omega) hz).1; omega) (by
    intro h
    rcases hO with ⟨q, rfl⟩ | ⟨q, hd⟩
    · have := (hpg.cell (i := O 8 0) (by omega) (by omega) hz).1; omega
    · have := ((hd.pg hpg).cell (i := O 8 0) (by rw [hd.1]; omega) (by rw [hd.1]; omega) hz).1; omega) (by
    intro h
    rcases hO with ⟨q, rfl⟩ | ⟨q, hd⟩
    · have := (hpg.cell (i := O 8 0) (by omega) (by omega) hz).1; omega
    · have := ((hd.pg hpg).cell (i := O 8 0) (by rw [hd.1]; omega) (by rw [hd.1]; omega) hz).1; omega)⟩
  obtain ⟨e9a, e8a⟩ := e9 (z2 := 10) (by omega)
  -- M1's array of pages is O's
  have m9 : M1 9 = O 9 := by rw [hM1, mset_nef (by decide), e9a]
  have m8 : M1 8 0 = O 8 0 + 1 := by rw [hM1, mset_at]
  have mo : ∀ q, q ≠ 8 → M1 q = P q := fun q hq => by rw [hM1, mset_nef hq]
  -- pages other than z are O's
  have other : ∀ (k : Int) (y : Nat) (x : Int → Int), HPg O → 0 ≤ k → k < 5 → O 9 k = (y : Int) → y ≠ z → 10 ≤ z → z + 7 ≤ 45 → (∃ kz : Nat, kz < 5 ∧ z = 10 + 7 * kz) → PRel O y x → PRel M1 y x := by
    intro k y x hp k0 k5 hy hne hz0 hz1 hzk hx
    obtain ⟨q0, q1, -, ky, hky, eky⟩ := hp.cell k0 k5 hy
    obtain ⟨kz, hkz, ekz⟩ := hzk
    refine hx.congr ?_ ?_ ?_ ?_
    · rw [mo y (by omega)]; exact hcp.2.2 y (by omega) (by omega) (by omega) (by omega)
    · rw [mo (y + 2) (by omega)]; exact hcp.2.2 _ (by omega) (by omega) (by omega) (by omega)
    · rw [mo (y + 4) (by omega)]; exact hcp.2.2 _ (by omega) (by omega) (by omega) (by omega)
    · rw [mo (y + 6) (by omega)]; exact hcp.2.2 _ (by omega) (by omega) (by omega) (by omega)
  have pz : ∀ x, 10 ≤ z → PRel P z x → PRel M1 z x := fun x hz0 hx => hx.congr (mo _ (by omega)) (mo _ (by omega)) (mo _ (by omega)) (mo _ (by omega))
  rcases hO with ⟨q, rfl⟩ | ⟨q, hd⟩
  · -- room is left
    obtain ⟨n1, n2, n3⟩ := hN.1 (by omega)
    obtain ⟨z0, z1, -, hzk⟩ := hpg.cell (i := O 8 0) (by omega) (by omega) hz
    refine ⟨by omega, by omega, by omega, fun i i0 i5 => by rw [m9]; exact hpg i i0 i5, fun i j i0 i5 j0 j5 => by rw [m9]; exact hinj i j i0 i5 j0 j5, fun k k0 k1 => ?_⟩
    rw [m9]
    by_cases hks : k = O 82 2
    · subst hks
      refine ⟨hD.ag n3, fun y hy => ?_⟩
      have ey : y = z := by rw [← hst, hz] at hy; omega
      subst ey
      exact pz _ z0 ((hR.ag hD n3).copy (hD.ag n3) hcp)
    · have ho := hall k k0 (by omega)
      have ag := n2 k k0 (by omega)
      refine ⟨ho.1.ag ag, fun y hy => ?_⟩
      refine other k y _ hpg k0 (by omega) hy (fun ey => ?_) z0 z1 hzk ((ho.2 y hy).ag ho.1 ag)
      subst ey
      have := hinj k (O 8 0) k0 (by omega) (by omega) (by omega) (by rw [hy, hz])
      omega
  · -- the oldest is dropped
    obtain ⟨n1, n2, n3⟩ := hN.2 (by omega)
    have hpO := hd.pg hpg
    obtain ⟨z0, z1, -, hzk⟩ := hpO.cell (i := O 8 0) (by rw [hd.1]; omega) (by rw [hd.1]; omega) hz
    rw [hd.1] at m8 hz
    have o9 : ∀ i, 0 ≤ i → i < 5 → O 9 i = M 9 (if i < 4 then i + 1 else 0) := by
      intro i i0 i5
      split
      · exact hd.2.1 i i0 (by assumption)
      · rw [show i = 4 by omega]; exact hd.2.2.1
    refine ⟨by omega, by omega, by omega, fun i i0 i5 => by rw [m9]; exact hpO i i0 i5, fun i j i0 i5 j0 j5 hij => ?_, fun k k0 k1 => ?_⟩
    · rw [m9, o9 i i0 i5, o9 j j0 j5] at hij
      have := hinj _ _ (by split <;> omega) (by split <;> omega) (by split <;> omega) (by split <;> omega) hij
      split at this <;> split at this <;> omega
    · rw [m9]
      by_cases hks : k = 4
      · subst hks
        refine ⟨hD.ag n3, fun y hy => ?_⟩
        have ey : y = z := by rw [hz] at hy; omega
        subst ey
        have hR2 : PRel O 1 (M 83) := hR.congr (hd.2.2.2 1 (by decide) (by decide)) (hd.2.2.2 3 (by decide) (by decide)) (hd.2.2.2 5 (by decide) (by decide)) (hd.2.2.2 7 (by decide) (by decide))
        exact pz _ z0 ((hR2.ag hD n3).copy (hD.ag n3) hcp)
      · have ho := hall (k + 1) (by omega) (by omega)
        have ag := n2 k k0 (by omega)
        refine ⟨ho.1.ag ag, fun y hy => ?_⟩
        have hy2 := hy
        rw [o9 k k0 (by omega), if_pos (by omega)] at hy2
        obtain ⟨y0, y1, -, -⟩ := hpg.cell (i := k + 1) (by omega) (by omega) hy2
        have hx : PRel O y (hs (M 84) (k + 1)) := (ho.2 y hy2).congr (hd.2.2.2 _ (by omega) (by omega)) (hd.2.2.2 _ (by omega) (by omega)) (hd.2.2.2 _ (by omega) (by omega)) (hd.2.2.2 _ (by omega) (by omega))
        refine other k y _ hpO k0 (by omega) hy (fun ey => ?_) z0 z1 hzk (hx.ag ho.1 ag)
        subst ey
        have h5 := hinj (k + 1) 0 (by omega) (by omega) (by omega) (by omega) (by rw [hy2, ← hz, hd.2.2.1])
        omega
