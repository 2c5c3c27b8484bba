/-! ===== the reference's calls ===== -/
def MPO (M : Mem) (O : Int → Mem → Prop) (r : Int) (M' : Mem) : Prop := (∀ q, q < 82 → M' q = M q) ∧ (M' 90 0 = M 90 0 ∧ M' 92 0 = M 92 0 ∧ M' 93 0 = M 93 0 ∧ M' 94 0 = M 94 0) ∧ O r M'
theorem mpo_of {M M' : Mem} {O : Int → Mem → Prop} {r : Int} (hf : ∀ q, q ≠ 82 → q ≠ 83 → q ≠ 84 → M' q = M q) (hO : O r M') : MPO M O r M' := by
  have f : ∀ q, q < 82 ∨ 85 < q → M' q = M q := fun q hq => hf q (by omega) (by omega) (by omega)
  exact ⟨fun q hq => f q (by omega), ⟨by rw [f 90 (by decide)], by rw [f 92 (by decide)], by rw [f 93 (by decide)], by rw [f 94 (by decide)]⟩, hO⟩
theorem RecX.to {M Mr N : Mem} (h : RecX M Mr) (e82 : N 82 = Mr 82) (e84 : N 84 = Mr 84) (e85 : N 85 = Mr 85) : RecP M N ∧ TS M N := by
  unfold RecP TS
  rw [e82, e84, e85]
  exact ⟨h.1, h.2.1 85 (by decide) (by decide), h.2.2 4 (by decide)⟩
theorem SM.rf (M : Mem) : SM M M := ⟨rfl, rfl, rfl, rfl, rfl⟩
theorem addW_wok {d : Int → Int} {k : Int} (hw : WOK d) (h : d 0 < 24) (hk : 1 ≤ k ∧ k ≤ 8) : WOK (addW d k) := by
  have hn := hw.1
  unfold addW
  refine ⟨by rw [dset_at]; omega, by rw [dset_ne (by decide), dset_ne (by omega)]; exact hw.2.1, fun w a b => ?_⟩
  rw [dset_at] at b
  rw [dset_ne (by omega)]
  by_cases hwn : w = d 0
  · rw [hwn, dset_at]; exact hk
  · rw [dset_ne (by omega)]; exact hw.2.2 w a (by omega)
theorem addW_ex {d : Int → Int} {k i j : Int} (h : 0 ≤ d 0) : exD (addW d k) i j = exF (lenD (addW d k)) (d 1) i j := by
  unfold exD
  rw [show addW d k 1 = d 1 from by unfold addW; rw [dset_ne (by decide), dset_ne (by omega)]]
