theorem CO_bd2 {d : Int → Int} (hD : DOK d) {w : Int} (h0 : 0 ≤ w) (h1 : w < d 0) : 0 ≤ CO d w ∧ CO d w ≤ 2000 := by
  obtain ⟨a1, a2, a3, a4⟩ := lnD_seg hD h0 h1
  have hw := hD.w
  have hn := hD.1
  have hb1 := hD.bdall (l := lnD d w + 1) (by omega)
  have hb0 := hD.bdall a1
  have hx := (hD.2.2.2.2.2.2 _ a1 a2).2.2
  have hb := exD_bd hw hb0.1 (show sd d (lnD d w) ≤ sd d (lnD d w + 1) by omega) hb1.2
  have hxx : 0 ≤ lexF (lenD d) (d 1) (d 0) (sd d (lnD d w)) (sd d (lnD d w + 1)) ∧ lexF (lenD d) (d 1) (d 0) (sd d (lnD d w)) (sd d (lnD d w + 1)) ≤ 41 := by
    unfold lexF
    have e : exF (lenD d) (d 1) (sd d (lnD d w)) (sd d (lnD d w + 1)) = exD d (sd d (lnD d w)) (sd d (lnD d w + 1)) := rfl
    split <;> omega
  have := colF_bdn (L := lenD d) (j := sd d (lnD d w + 1)) hxx (n := d 0) (fun v a b => by have := hw.2.2 v a b; unfold lenD; omega) hb0.1 a3 (show w ≤ d 0 by omega)
  unfold CO lcol
  omega
