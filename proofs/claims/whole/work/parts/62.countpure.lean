def gwD (d : Int → Int) (a w : Int) : Int := if a = 0 then (if 2 ≤ abD d w then 1 else 0) else (if RD d w = a then 1 else 0)
theorem ab_last {d : Int → Int} (hD : DOK d) {l : Int} (h0 : 0 ≤ l) (h1 : l < d 3) : abD d (sd d (l + 1) - 1) = 0 := by
  have e : ∀ t, cnt (fun g => if mtD d g (sd d (l + 1) - 1) = true then 1 else 0) t = 0 := by
    intro t
    have hz : ∀ (k : Nat), sumN (fun g => if mtD d g (sd d (l + 1) - 1) = true then 1 else 0) k = 0 := by
      intro k
      induction k with
      | zero => rfl
      | succ k ih =>
        show sumN _ k + (if mtD d k (sd d (l + 1) - 1) = true then 1 else 0) = 0
        rw [ih, if_neg]
        · rfl
        · intro z
          unfold mtD at z
          rw [mtB_comm] at z
          have := mt_last (w := (k : Int)) hD h0 h1
          unfold mtD at this
          rw [this] at z
          exact absurd z (by decide)
    exact hz _
  unfold abD
  rw [e, e]
  rfl
theorem gw_last {d : Int → Int} (hD : DOK d) {a l : Int} (h0 : 0 ≤ l) (h1 : l < d 3) : gwD d a (sd d (l + 1) - 1) = 0 := by
  unfold gwD
  rw [ab_last hD h0 h1, RD_last hD h0 h1]
  by_cases ha : a = 0
  · rw [if_pos ha, if_neg (by omega)]
  · rw [if_neg ha, if_neg (by omega)]
theorem ab_bd (d : Int → Int) (hD : DOK d) {w : Int} (h0 : 0 ≤ w) (h1 : w < d 0) : 0 ≤ abD d w ∧ abD d w ≤ 24 := by
  obtain ⟨a1, a2, a3, a4⟩ := lnD_seg hD h0 h1
  have hpr := hD.prvle a1 a2
  have hb := hD.bdall a1
  have hn := hD.1
  have := cnt_ind (f := fun g => mtD d g w) (a := prv d (lnD d w)) (b := sd d (lnD d w)) (by omega) (by omega)
  unfold abD
  omega
