/-! ===== the reference's questions ===== -/
theorem mpo_lay {M M' : Mem} {O : Int → Mem → Prop} {r : Int} (hf : ∀ q, q < 86 ∨ 89 < q → M' q = M q) (hO : SM M M' → O r M') : MPO M O r M' :=
  ⟨fun q hq => hf q (by omega), ⟨by rw [hf 90 (by decide)], by rw [hf 92 (by decide)], by rw [hf 93 (by decide)], by rw [hf 94 (by decide)]⟩, hO ⟨hf 83 (by decide), hf 84 (by decide), hf 85 (by decide), by rw [hf 82 (by decide)], by rw [hf 82 (by decide)]⟩⟩
theorem gapv_bd {d : Int → Int} (hD : DOK d) {w : Int} (h0 : 0 ≤ w) (h1 : w < d 0) (h2 : w < sd d (lnD d w + 1) - 1) : 0 ≤ GC d w ∧ GC d w ≤ 2000 ∧ 1 ≤ GV d w ∧ GV d w ≤ 2000 := by
  obtain ⟨a1, a2, a3, a4⟩ := lnD_seg hD h0 h1
  have hb := hD.bdall a1
  have hb1 := hD.bdall (l := lnD d w + 1) (by omega)
  exact gap_bd hD.w hb.1 a3 h2 hb1.2 (Or.inr (hD.2.2.2.2.2.2 _ a1 a2).2.2)
theorem mt_last {d : Int → Int} (hD : DOK d) {l w : Int} (h0 : 0 ≤ l) (h1 : l < d 3) : mtD d (sd d (l + 1) - 1) w = false := by
  have hl := (hD.2.2.2.2.2.2 l h0 h1).1
  have e := lnD_eq hD (w := sd d (l + 1) - 1) h0 h1 (by omega) (by omega)
  have hv : GV d (sd d (l + 1) - 1) = 0 := by
    unfold GV lgw wdF
    rw [e, if_neg (by omega)]
  apply Bool.eq_false_iff.mpr
  intro z
  unfold mtD at z
  have := (mtB_iff.mp z).1
  rw [hv] at this
  omega
