def TRel (M : Mem) (t : Int → Int) (ty : Int) : Prop := 0 ≤ ty ∧ ty ≤ 100 ∧ M 79 0 = ty ∧ (∀ j, 0 ≤ j → j < ty → M 81 j = t j) ∧ (∀ j, 0 ≤ j → j < 100 → 0 ≤ M 81 j ∧ M 81 j ≤ 126) ∧ ∀ j, 0 ≤ j → j < 100 → 0 ≤ t j ∧ t j ≤ 126
/-- the best division with a dam of the length D -/
noncomputable def SOL (d : Int → Int) (D : Int) : Bst := srF d D 25 0 0 (fun _ => 0) 0 0 0 (fun _ => 0) (1000000000, 0, 0, fun _ => 0)
def SRel (M : Mem) (d : Int → Int) : Prop := M 54 3 = 0 ∨ 1 ≤ M 54 3 ∧ M 54 3 ≤ 24 ∧ BRel M (SOL d (M 54 3))
/-- the class's cells of M beside the reference's cells of N -/
def CRel (M N : Mem) : Prop := PRel M 1 (N 83) ∧ DOK (N 83) ∧ HRel M (N 84) (N 82 2) ∧ TRel M (N 85) (N 82 4) ∧ SRel M (N 83) ∧ SBd M 45 ∧ SBd M 62
theorem HRel.congr {M N : Mem} {was : Int → Int} {st : Int} (h : HRel M was st) (e : ∀ q, 8 ≤ q → q < 45 → N q = M q) : HRel N was st := by
  obtain ⟨h1, h2, h3, h4, h5, h6⟩ := h
  have e9 := e 9 (by decide) (by decide)
  refine ⟨h1, h2, by rw [e 8 (by decide) (by decide)]; exact h3, fun i g0 g1 => by rw [e9]; exact h4 i g0 g1, by rw [e9]; exact h5, fun k k0 k1 => ⟨(h6 k k0 k1).1, fun z hz => ?_⟩⟩
  rw [e9] at hz
  obtain ⟨z0, z1, -, -⟩ := h4.cell (i := k) k0 (by omega) hz
  exact ((h6 k k0 k1).2 z hz).congr (e _ (by omega) (by omega)) (e _ (by omega) (by omega)) (e _ (by omega) (by omega)) (e _ (by omega) (by omega))
theorem TRel.congr {M N : Mem} {t : Int → Int} {ty : Int} (h : TRel M t ty) (e1 : N 79 = M 79) (e2 : N 81 = M 81) : TRel N t ty := by
  unfold TRel
  rw [e1, e2]
  exact h
theorem SBd.congr {M N : Mem} {c : Nat} (h : SBd M c) (e4 : N (c + 4) = M (c + 4)) (e6 : N (c + 6) = M (c + 6)) : SBd N c := by
  unfold SBd
  rw [e4, e6]
  exact h
/-- what beginChange does -/
def BCP (M M1 : Mem) : Prop := (∀ q, q < 8 ∨ 45 ≤ q → q ≠ 54 → M1 q = M q) ∧ (∀ j, j ≠ 3 → M1 54 j = M 54 j) ∧ M1 54 3 = 0 ∧ ∀ N, RecP M N → HRel M1 (N 84) (N 82 2)
theorem BCP_ok {M M1 : Mem} (hk : KeepP M M1) (hH : HRel M (M 84) (M 82 2)) (hR : PRel M 1 (M 83)) (hD : DOK (M 83)) : BCP M (mset M1 54 3 0) := by
  have fr : ∀ q, q < 8 ∨ 45 ≤ q → M1 q = M q := by
    intro q hq
    obtain ⟨O, P, z, hO, hz, hcp, hM1⟩ := hk
    obtain ⟨s0, s5, hst, hpg, -, -⟩ := hH
    have hz2 : 10 ≤ z ∧ z + 7 ≤ 45 ∧ O q = M q := by
      rcases hO with ⟨g, rfl⟩ | ⟨g, hd⟩
      · obtain ⟨z0, z1, -, -⟩ := hpg.cell (i := O 8 0) (by omega) (by omega) hz
        exact ⟨z0, z1, rfl⟩
      · obtain ⟨z0, z1, -, -⟩ := (hd.pg hpg).cell (i := O 8 0) (by rw [hd.1]; omega) (by rw [hd.1]; omega) hz
        exact ⟨z0, z1, hd.2.2.2 q (by omega) (by omega)⟩
    rw [hM1, mset_nef (by omega), hcp.2.2 q (by omega) (by omega) (by omega) (by omega), hz2.2.2]
  refine ⟨fun q h1 h2 => by rw [mset_nef h2]; exact fr q h1, fun j hj => by rw [mset_ne2 hj, fr 54 (by omega)], mset_at, fun N hN => ?_⟩
  exact (keep_rel hk hH hR hD hN).congr (fun q q1 q2 => mset_nef (by omega))
/-- what undo does, in the reference -/
def UndP (M N : Mem) : Prop := N 82 2 = M 82 2 - 1 ∧ N 84 = M 84 ∧ Ag (hs (M 84) (M 82 2 - 1)) (N 83)
theorem rest_rel {M M1 N : Mem} (hk : RestP M M1) (hH : HRel M (M 84) (M 82 2)) (h1 : 1 ≤ M 82 2) (hN : UndP M N) : PRel M1 1 (N 83) ∧ DOK (N 83) ∧ HRel M1 (N 84) (N 82 2) ∧ ∀ q, 45 ≤ q → M1 q = M q := by
  obtain ⟨P, z, hz, hcp, hM1⟩ := hk
  obtain ⟨s0, s5, hst, hpg, hinj, hall⟩ := hH
  obtain ⟨n1, n2, n3⟩ := hN
  rw [hst] at hz hM1
  have ho := hall (M 82 2 - 1) (by omega) (by omega)
  have mo : ∀ q, q ≠ 8 → q ≠ 1 → q ≠ 3 → q ≠ 5 → q ≠ 7 → M1 q = M q := fun q a b c d e => by rw [hM1, mset_nef a]; exact hcp.2.2 q b c d e
  refine ⟨?_, ho.1.ag n3, ⟨by omega, by omega, by rw [hM1, mset_at, n1], fun i i0 i5 => by rw [mo 9 (by decide) (by decide) (by decide) (by decide) (by decide)]; exact hpg i i0 i5, fun i j => by rw [mo 9 (by decide) (by decide) (by decide) (by decide) (by decide)]; exact hinj i j, fun k k0 k1 => ?_⟩, fun q hq => mo q (by omega) (by omega) (by omega) (by omega) (by omega)⟩
  · have hp : PRel P 1 (N 83) := (((ho.2 z hz).copy ho.1 hcp)).ag ho.1 n3
    exact hp.congr (by rw [hM1, mset_nef (by decide)]) (by rw [hM1, mset_nef (by decide)]) (by rw [hM1, mset_nef (by decide)]) (by rw [hM1, mset_nef (by decide)])
  · rw [n2, mo 9 (by decide) (by decide) (by decide) (by decide) (by decide)]
    have hk2 := hall k k0 (by omega)
    refine ⟨hk2.1, fun y hy => ?_⟩
    obtain ⟨y0, y1, -, -⟩ := hpg.cell (i := k) k0 (by omega) hy
    exact (hk2.2 y hy).congr (mo _ (by omega) (by omega) (by omega) (by omega) (by omega)) (mo _ (by omega) (by omega) (by omega) (by omega) (by omega)) (mo _ (by omega) (by omega) (by omega) (by omega) (by omega)) (mo _ (by omega) (by omega) (by omega) (by omega) (by omega))
/-- a change of the page alone, behind beginChange -/
theorem CRel.change {M M1 M2 N : Mem} (h : CRel M M) (hb : BCP M M1) (hf : ∀ q, 8 ≤ q → q < 82 → M2 q = M1 q) (hN : RecP M N) (h85 : N 85 = M 85) (h4 : N 82 4 = M 82 4) (hR : PRel M2 1 (N 83)) (hD : DOK (N 83)) : CRel M2 N := by
  refine ⟨hR, hD, (hb.2.2.2 N hN).congr (fun q q1 q2 => hf q q1 (by omega)), ?_, Or.inl (by rw [hf 54 (by decide) (by decide)]; exact hb.2.2.1), ?_, ?_⟩
  · rw [h85, h4]
    exact h.2.2.2.1.congr (by rw [hf 79 (by decide) (by decide)]; exact hb.1 79 (by omega) (by decide)) (by rw [hf 81 (by decide) (by decide)]; exact hb.1 81 (by omega) (by decide))
  · exact h.2.2.2.2.2.1.congr (by rw [hf _ (by decide) (by decide)]; exact hb.1 _ (by omega) (by decide)) (by rw [hf _ (by decide) (by decide)]; exact hb.1 _ (by omega) (by decide))
  · exact h.2.2.2.2.2.2.congr (by rw [hf _ (by decide) (by decide)]; exact hb.1 _ (by omega) (by decide)) (by rw [hf _ (by decide) (by decide)]; exact hb.1 _ (by omega) (by decide))
