theorem grD_0 {d : Int → Int} (h : LR d = 0) : grD d = 0 := by
  unfold grD
  have hz : ∀ t : Nat, sumN (fun q => if 0 < LR d ∧ RD d q = LR d then (1 : Int) else 0) t = 0 := by
    intro t
    induction t with
    | zero => rfl
    | succ t ih =>
      show sumN _ t + (if 0 < LR d ∧ RD d t = LR d then (1 : Int) else 0) = 0
      rw [ih, if_neg (by omega)]
      rfl
  exact hz _
theorem grD_1 {d : Int → Int} (hD : DOK d) (h : LR d ≠ 0) : cnt (gwD d (LR d)) (d 0) = grD d := by
  have hl := LR_bd hD
  exact cnt_congr (fun q a b => by
    unfold gwD
    rw [if_neg h]
    by_cases hq : RD d q = LR d
    · rw [if_pos hq, if_pos ⟨by omega, hq⟩]
    · rw [if_neg hq, if_neg (fun z => hq z.2)])
theorem joD_1 (d : Int → Int) : cnt (gwD d 0) (d 0) = joD d := cnt_congr (fun q a b => if_pos rfl)
