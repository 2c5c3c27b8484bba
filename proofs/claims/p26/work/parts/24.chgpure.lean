theorem cnt_pos {f : Int → Int} {L l : Int} (h : ∀ j, 0 ≤ j → j < L → 0 ≤ f j ∧ f j ≤ 8) (h0 : 0 ≤ l) (h1 : l < L) (hl : 1 ≤ f l) : 1 ≤ cnt f L := by
  have a := cnt_bd (f := f) (a := 0) (b := l) (by omega) h0 (fun j g0 g1 => h j g0 (by omega))
  have b := cnt_bd (f := f) (a := l + 1) (b := L) (by omega) (by omega) (fun j g0 g1 => h j (by omega) g1)
  rw [cnt_0] at a
  rw [cnt_s f h0] at b
  omega
theorem frc_zero {M : Mem} {c : Nat} {d : Int → Int} (hR : PRel M c d) (hD : DOK d) (h : frc d ≤ 0) : ∀ w, 0 ≤ w → w < 24 → M (c + 6) w = 0 := by
  intro w h0 h1
  have hfz := hR.fz hD h0 h1
  by_cases e : M (c + 6) w = 0
  · exact e
  · exfalso
    by_cases hb : M (c + 4) w = 1
    · by_cases hn : w < d 0
      · obtain ⟨l, a1, a2, a3⟩ := hR.2.2.2.1.at h0 hn hb
        have := hR.2.2.2.2.2.2.1 l a1 a2
        rw [← a3] at this
        have := cnt_pos (f := fun l => d (53 + l)) (L := d 3) (l := l) (fun j g0 g1 => by have := (hD.2.2.2.2.2.2 j g0 g1).2.1; show 0 ≤ d (53 + j) ∧ d (53 + j) ≤ 8; omega) a1 a2 (by show 1 ≤ d (53 + l); omega)
        unfold frc at h
        omega
      · have := hR.2.2.2.2.2.2.2.2 w (by omega) h1
        omega
    · exact e (hR.2.2.2.2.2.2.2.1 w h0 h1 hb)
/-- the page is filled: the class's memory M2 before, M3 after -/
theorem fill_ok {M M1 M2 M3 N : Mem} {d : Int → Int} (hC : CRel M M) (hb : BCP M M1) (h12 : ∀ q, 8 ≤ q → q < 82 → M2 q = M1 q) (hn : 0 ≤ d 0 ∧ d 0 ≤ 24) (hW : 16 ≤ d 1 ∧ d 1 ≤ 40) (hS : 0 ≤ d 2 ∧ d 2 ≤ 8) (hlen : ∀ w, 0 ≤ w → w < d 0 → 1 ≤ d (4 + w) ∧ d (4 + w) ≤ 8) (h0 : M2 1 0 = d 1) (h1 : M2 1 1 = d 2) (h2 : M2 1 2 = d 0) (hl8 : ∀ w, 0 ≤ w → w < 24 → 0 ≤ M2 3 w ∧ M2 3 w ≤ 8) (hl : ∀ w, 0 ≤ w → w < d 0 → M2 3 w = d (4 + w)) (hz : ∀ w, 0 ≤ w → w < 24 → M2 7 w = 0)
    (f1 : ∀ q, q ≠ 1 + 4 → M3 q = M2 q) (f2 : ∀ j, 0 ≤ j → j < 24 → M3 (1 + 4) j = if j < M2 1 2 ∧ ffst (M2 (1 + 2)) (M2 1 0) (j + 1) = j then 1 else 0) (hN : RecP M N) (hT : TS M N) (hF : FillP d (N 83)) : CRel M3 N ∧ cnt (M3 5) (M3 1 2) = N 83 3 ∧ M3 1 2 = d 0 := by
  have hp : PRel M3 1 (N 83) := fill_page hF hn hlen h0 h1 h2 hl8 hl hz f1 f2
  have hD := hF.ok hn hW hS hlen
  refine ⟨hC.change hb (fun q q0 q1 => by rw [f1 q (by omega)]; exact h12 q q0 q1) hN hT.1 hT.2 hp hD, ?_, by rw [f1 1 (by decide)]; exact h2⟩
  have ht := hp.2.2.2.1.total
  rw [← hp.2.2.1] at ht
  exact ht
def CPO (M : Mem) (O : Int → Mem → Prop) (r : Int) (M' : Mem) : Prop := (∀ q, 82 ≤ q → M' q = M q) ∧ ∀ (r' : Int) (N : Mem), O r' N → r = r' ∧ CRel M' N
theorem BCP.fr {M M1 : Mem} (h : BCP M M1) : ∀ q, 82 ≤ q → M1 q = M q := fun q hq => h.1 q (by omega) (by omega)
theorem BCP.rel {M M1 : Mem} (h : BCP M M1) (hC : CRel M M) : PRel M1 1 (M 83) := hC.1.congr (h.1 _ (by decide) (by decide)) (h.1 _ (by decide) (by decide)) (h.1 _ (by decide) (by decide)) (h.1 _ (by decide) (by decide))
theorem slack_ok {M : Mem} {d e : Int → Int} {v : Int} (hR : PRel M 1 d) (hD : DOK d) (hv : 0 ≤ v ∧ v ≤ 8) (hA : Ag (dset d 2 v) e) : PRel (mset M 1 1 v) 1 e ∧ DOK e := by
  have hD2 : DOK (dset d 2 v) := by
    have esd : ∀ l, 0 ≤ l → sd (dset d 2 v) l = sd d l := fun l h0 => by unfold sd; rw [dset_ne (by decide), dset_ne (by omega), dset_ne (by decide)]
    refine ⟨by rw [dset_ne (by decide)]; exact hD.1, by rw [dset_ne (by decide)]; exact hD.2.1, by rw [dset_at]; exact hv, by rw [dset_ne (by decide)]; exact hD.2.2.2.1, fun w h0 h1 => ?_, by rw [esd 0 (by omega)]; exact hD.2.2.2.2.2.1, fun l h0 h1 => ?_⟩
    · rw [dset_ne (by decide)] at h1
      rw [dset_ne (by omega)]
      exact hD.2.2.2.2.1 w h0 h1
    · rw [dset_ne (by decide)] at h1
      have hb := hD.bdall (l := l) h0
      have hb1 := hD.bdall (l := l + 1) (by omega)
      rw [esd l h0, esd (l + 1) (by omega), dset_ne (by omega), dset_ne (by decide), exF_congr (L := lenD (dset d 2 v)) (K := lenD d) (n := d 0) (fun w g0 g1 => dset_ne (by omega)) hb.2 hb1.2]
      exact hD.2.2.2.2.2.2 l h0 h1
  have hR2 : PRel (mset M 1 1 v) 1 (dset d 2 v) := by
    have esd : ∀ l, 0 ≤ l → sd d l = sd (dset d 2 v) l := fun l h0 => by unfold sd; rw [dset_ne (by decide), dset_ne (by omega), dset_ne (by decide)]
    unfold PRel
    rw [mset_ne2 (by decide), mset_at, mset_ne2 (by decide), dset_ne (by decide), dset_at, dset_ne (by decide), dset_ne (by decide), mset_nef (by decide), mset_nef (by decide), mset_nef (by decide)]
    refine ⟨hR.1, rfl, hR.2.2.1, hR.2.2.2.1.scongr (fun l h0 _ => esd l h0), hR.2.2.2.2.1, fun w h0 h1 => by rw [dset_ne (by omega)]; exact hR.2.2.2.2.2.1 w h0 h1, fun l h0 h1 => by rw [← esd l h0, dset_ne (by omega)]; exact hR.2.2.2.2.2.2.1 l h0 h1, hR.2.2.2.2.2.2.2.1, hR.2.2.2.2.2.2.2.2⟩
  exact ⟨hR2.ag hD2 hA, hD2.ag hA⟩
