/-! ===== p26: the picture behind each change: there is one, and what it says ===== -/
def recN (M : Mem) (e : Int → Int) : Mem := fun c j => if c = 83 then e j else if c = 84 then (if M 82 2 < 5 then (if 77 * M 82 2 ≤ j then M 83 (j - 77 * M 82 2) else M 84 j) else (if j < 308 then M 84 (j + 77) else M 83 (j - 308))) else if c = 82 ∧ j = 2 then (if M 82 2 < 5 then M 82 2 + 1 else 5) else M c j
theorem recN_83 (M : Mem) (e : Int → Int) : recN M e 83 = e := funext (fun j => if_pos rfl)
theorem recN_84 (M : Mem) (e : Int → Int) (j : Int) : recN M e 84 j = (if M 82 2 < 5 then (if 77 * M 82 2 ≤ j then M 83 (j - 77 * M 82 2) else M 84 j) else (if j < 308 then M 84 (j + 77) else M 83 (j - 308))) := by
  unfold recN
  rw [if_neg (by decide), if_pos rfl]
theorem recN_822 (M : Mem) (e : Int → Int) : recN M e 82 2 = if M 82 2 < 5 then M 82 2 + 1 else 5 := by
  unfold recN
  rw [if_neg (by decide), if_neg (by decide), if_pos ⟨rfl, rfl⟩]
theorem recN_824 (M : Mem) (e : Int → Int) : recN M e 82 4 = M 82 4 := by
  unfold recN
  rw [if_neg (by decide), if_neg (by decide), if_neg (fun z => absurd z.2 (by decide))]
theorem recN_ne {M : Mem} {e : Int → Int} {c : Nat} (h2 : c ≠ 82) (h3 : c ≠ 83) (h4 : c ≠ 84) : recN M e c = M c := funext (fun j => by
  unfold recN
  rw [if_neg h3, if_neg h4, if_neg (fun z => h2 z.1)])
theorem recN_TS (M : Mem) (e : Int → Int) : TS M (recN M e) := ⟨recN_ne (by decide) (by decide) (by decide), recN_824 M e⟩
theorem recN_RecP {M : Mem} (h : 0 ≤ M 82 2 ∧ M 82 2 ≤ 5) (e : Int → Int) : RecP M (recN M e) := by
  refine ⟨fun h5 => ⟨by rw [recN_822, if_pos h5], fun k k0 k1 j j0 j1 => ?_, fun j j0 j1 => ?_⟩, fun h5 => ⟨by rw [recN_822, if_neg (by omega)], fun k k0 k1 j j0 j1 => ?_, fun j j0 j1 => ?_⟩⟩
  · unfold hs
    rw [recN_84, if_pos h5, if_neg (by omega)]
  · unfold hs
    rw [recN_84, if_pos h5, if_pos (by omega), show 77 * M 82 2 + j - 77 * M 82 2 = j by omega]
  · unfold hs
    rw [recN_84, if_neg (by omega), if_pos (by omega), show 77 * (k + 1) + j = 77 * k + j + 77 by omega]
  · unfold hs
    rw [recN_84, if_neg (by omega), if_neg (by omega), show 77 * 4 + j - 308 = j by omega]
/-- the class's cells of one memory, the picture of another -/
def mixM (M N : Mem) : Mem := fun q => if q < 82 then M q else N q
theorem mixM_lo {M N : Mem} {q : Nat} (h : q < 82) : mixM M N q = M q := if_pos h
theorem mixM_hi {M N : Mem} {q : Nat} (h : 82 ≤ q) : mixM M N q = N q := if_neg (by omega)
theorem CRel.lo2 {M1 M2 N : Mem} (h : CRel M1 N) (hf : ∀ q, q < 82 → M2 q = M1 q) : CRel M2 N := by
  obtain ⟨h1, h2, h3, h4, h5, h6, h7⟩ := h
  refine ⟨h1.congr (hf _ (by decide)) (hf _ (by decide)) (hf _ (by decide)) (hf _ (by decide)), h2, h3.congr (fun q _ q2 => hf q (by omega)), h4.congr (hf _ (by decide)) (hf _ (by decide)), ?_, h6.congr (hf _ (by decide)) (hf _ (by decide)), h7.congr (hf _ (by decide)) (hf _ (by decide))⟩
  unfold SRel BRel
  rw [hf 54 (by decide), hf 78 (by decide)]
  exact h5
theorem CRel.hi2 {M N1 N2 : Mem} (h : CRel M N1) (hf : ∀ q, 82 ≤ q → N2 q = N1 q) : CRel M N2 := by
  unfold CRel
  rw [hf 82 (by decide), hf 83 (by decide), hf 84 (by decide), hf 85 (by decide)]
  exact h
/-- the memory M holds the class's objects as the picture of N has them -/
def QI (N M : Mem) : Prop := CRel M M ∧ ∀ q, 82 ≤ q → M q = N q
theorem QI.rf {M : Mem} (h : CRel M M) : QI M M := ⟨h, fun _ _ => rfl⟩
theorem QI.d {N M : Mem} (h : QI N M) : M 83 = N 83 := h.2 83 (by decide)
theorem QI.hD {N M : Mem} (h : QI N M) : DOK (N 83) := by
  rw [← h.d]
  exact h.1.2.1
theorem QI.hst {N M : Mem} (h : QI N M) : 0 ≤ N 82 2 ∧ N 82 2 ≤ 5 := by
  rw [← h.2 82 (by decide)]
  exact ⟨h.1.2.2.1.1, h.1.2.2.1.2.1⟩
theorem SM.rf (M : Mem) : SM M M := ⟨rfl, rfl, rfl, rfl, rfl⟩
/-- behind a question -/
theorem q_of {N M M' : Mem} {O : Int → Mem → Prop} {r r' : Int} (hI : QI N M) (h : CPO M O r M') (ho : O r' M) : QI N M' ∧ r = r' := by
  obtain ⟨f, g⟩ := h
  obtain ⟨e, hc⟩ := g r' M ho
  exact ⟨⟨hc.hi2 f, fun q hq => (f q hq).trans (hI.2 q hq)⟩, e⟩
/-- behind a change -/
theorem o_of {M M' N : Mem} {O : Int → Mem → Prop} {r r' : Int} (h : CPO M O r M') (ho : O r' N) : r = r' ∧ QI (mixM M' N) (mixM M' N) := by
  obtain ⟨f, g⟩ := h
  obtain ⟨e, hc⟩ := g r' N ho
  exact ⟨e, QI.rf ((hc.hi2 (fun q hq => mixM_hi hq)).lo2 (fun q hq => mixM_lo hq))⟩
theorem wl_lo {X : Cx} {M M' : Mem} (h : ∀ q, q < 82 → M q = M' q) : wl X M = wl X M' := by
  apply List.ext_getElem?
  intro k
  cases hs : shs[k]? with
  | none => rw [wl_none hs, wl_none hs]
  | some q => rw [wl_at hs, wl_at hs, ent_congr (fun j => congrFun (h k (shs_lt hs)) j)]
theorem j_mix {p : Program} {l : Launch} {e : Env} {R : Room} {s : State} {m : MethodId} {args : Array Value} {below : List Frame} {meth : Method} {c : Code} {cells slots : Nat} {Q : State → Prop} {H0 : Heap} {X : Cx} {nL : Nat} {M N : Mem} {pc : Nat} {lv : List (Nat × Value)} {st : List Value} (kk : J p l e R s m args below meth c cells slots Q H0 X nL (mixM M N) pc lv st) : J p l e R s m args below meth c cells slots Q H0 X nL M pc lv st := by
  intro H locs ls h1 h2 h3
  refine kk H locs ls ?_ h2 h3
  show va_P _ _ (wl X (mixM M N)) H
  rw [wl_lo (X := X) (M := mixM M N) (M' := M) (fun q hq => mixM_lo hq)]
  exact h1
/-! each change -/
theorem hst_of {M : Mem} (h : CRel M M) : 0 ≤ M 82 2 ∧ M 82 2 ≤ 5 := ⟨h.2.2.1.1, h.2.2.1.2.1⟩
/-- a change that is refused -/
theorem o_no {N M M' : Mem} {O : Int → Mem → Prop} {r r' : Int} (hI : QI N M) (h : CPO M O r M') (ho : O r' M) : r = r' ∧ QI N (mixM M' M) := by
  obtain ⟨e, hq⟩ := o_of h ho
  exact ⟨e, hq.1, fun q hq => (mixM_hi hq).trans (hI.2 q hq)⟩
theorem add_of {N M M' : Mem} {k r : Int} (hI : QI N M) (hk : 1 ≤ k ∧ k ≤ 8) (h : CPO M (Oadd M k) r M') : ∃ P : Mem, (24 ≤ N 83 0 ∧ r = -3 ∧ QI N (mixM M' P)) ∨ (N 83 0 < 24 ∧ r = N 83 0 ∧ QI (mixM M' P) (mixM M' P) ∧ mixM M' P 83 0 = N 83 0 + 1 ∧ mixM M' P 83 (4 + N 83 0) = k ∧ RecP N (mixM M' P)) := by
  have hd := hI.d
  have hD := hI.hD
  have hL := hD.L24
  have hn := hD.1
  by_cases h24 : N 83 0 < 24
  · have ho : ∀ e, (newL (M 83) k ∧ Ag (dset (dset (dset (addW (M 83) k) (28 + M 83 3) (M 83 0)) (53 + M 83 3) 0) 3 (M 83 3 + 1)) e ∨ ¬ newL (M 83) k ∧ Ag (addW (M 83) k) e) → Oadd M k (M 83 0) (recN M e) := fun e he =>
      Or.inr (Or.inr ⟨hk, by rw [hd]; exact h24, recN_RecP (hst_of hI.1) e, recN_TS M e, by rw [recN_83]; exact he, rfl⟩)
    have go : ∀ e, (newL (M 83) k ∧ Ag (dset (dset (dset (addW (M 83) k) (28 + M 83 3) (M 83 0)) (53 + M 83 3) 0) 3 (M 83 3 + 1)) e ∨ ¬ newL (M 83) k ∧ Ag (addW (M 83) k) e) → e 0 = N 83 0 + 1 → e (4 + N 83 0) = k → ∃ P : Mem, (24 ≤ N 83 0 ∧ r = -3 ∧ QI N (mixM M' P)) ∨ (N 83 0 < 24 ∧ r = N 83 0 ∧ QI (mixM M' P) (mixM M' P) ∧ mixM M' P 83 0 = N 83 0 + 1 ∧ mixM M' P 83 (4 + N 83 0) = k ∧ RecP N (mixM M' P)) := fun e he e0 ek => by
      obtain ⟨er, hq⟩ := o_of h (ho e he)
      refine ⟨recN M e, Or.inr ⟨h24, by rw [er, hd], hq, ?_, ?_, ?_⟩⟩
      · rw [mixM_hi (by decide), recN_83]; exact e0
      · rw [mixM_hi (by decide), recN_83]; exact ek
      · have hr := recN_RecP (hst_of hI.1) e
        unfold RecP at hr ⊢
        rw [mixM_hi (by decide), mixM_hi (by decide), ← hI.2 82 (by decide), ← hI.2 83 (by decide), ← hI.2 84 (by decide)]
        exact hr
    by_cases hnl : newL (M 83) k
    · refine go _ (Or.inl ⟨hnl, fun j _ _ => rfl⟩) ?_ ?_
      · rw [dset_ne (by decide), dset_ne (by rw [hd]; omega), dset_ne (by rw [hd]; omega), addW, dset_at, hd]
      · rw [dset_ne (by omega), dset_ne (by rw [hd]; omega), dset_ne (by rw [hd]; omega), addW, dset_ne (by omega), hd, dset_at]
    · refine go _ (Or.inr ⟨hnl, fun j _ _ => rfl⟩) ?_ ?_
      · rw [addW, dset_at, hd]
      · rw [addW, dset_ne (by omega), hd, dset_at]
  · obtain ⟨er, hq⟩ := o_no hI h (r' := -3) (Or.inr (Or.inl ⟨hk, by rw [hd]; omega, rfl, SM.rf M⟩))
    exact ⟨M, Or.inl ⟨by omega, er, hq⟩⟩
theorem undo_of {N M M' : Mem} {r : Int} (hI : QI N M) (h : CPO M (Oundo M) r M') : ∃ P : Mem, (N 82 2 = 0 ∧ r = -2 ∧ QI N (mixM M' P)) ∨ (N 82 2 ≠ 0 ∧ r = N 82 2 - 1 ∧ QI (mixM M' P) (mixM M' P) ∧ Ag (hs (N 84) (N 82 2 - 1)) (mixM M' P 83)) := by
  have h82 := hI.2 82 (by decide)
  have h84 := hI.2 84 (by decide)
  by_cases hz : N 82 2 = 0
  · obtain ⟨er, hq⟩ := o_no hI h (r' := -2) (Or.inl ⟨by rw [h82]; exact hz, rfl, SM.rf M⟩)
    exact ⟨M, Or.inl ⟨hz, er, hq⟩⟩
  · have ho : Oundo M (M 82 2 - 1) (fun c j => if c = 83 then hs (M 84) (M 82 2 - 1) j else if c = 82 ∧ j = 2 then M 82 2 - 1 else M c j) := by
      refine Or.inr ⟨by rw [h82]; exact hz, ⟨?_, ?_, fun j _ _ => ?_⟩, ⟨?_, ?_⟩, rfl⟩
      · show (if (82 : Nat) = 83 then _ else if (82 : Nat) = 82 ∧ (2 : Int) = 2 then _ else _ : Int) = _
        rw [if_neg (by decide), if_pos ⟨rfl, rfl⟩]
      · funext j
        show (if (84 : Nat) = 83 then _ else if (84 : Nat) = 82 ∧ j = 2 then _ else _ : Int) = _
        rw [if_neg (by decide), if_neg (fun z => absurd z.1 (by decide))]
      · show _ = (if (83 : Nat) = 83 then _ else _ : Int)
        rw [if_pos rfl]
      · funext j
        show (if (85 : Nat) = 83 then _ else if (85 : Nat) = 82 ∧ j = 2 then _ else _ : Int) = _
        rw [if_neg (by decide), if_neg (fun z => absurd z.1 (by decide))]
      · show (if (82 : Nat) = 83 then _ else if (82 : Nat) = 82 ∧ (4 : Int) = 2 then _ else _ : Int) = _
        rw [if_neg (by decide), if_neg (fun z => absurd z.2 (by decide))]
    obtain ⟨er, hq⟩ := o_of h ho
    refine ⟨_, Or.inr ⟨hz, by rw [er, h82], hq, fun j _ _ => ?_⟩⟩
    rw [mixM_hi (by decide)]
    show _ = (if (83 : Nat) = 83 then hs (M 84) (M 82 2 - 1) j else _ : Int)
    rw [if_pos rfl, h84, h82]
theorem slack_of {N M M' : Mem} {v r : Int} (hI : QI N M) (hv : 0 ≤ v ∧ v ≤ 8) (h : CPO M (OsetSlack M v) r M') : ∃ P : Mem, r = N 83 2 ∧ QI (mixM M' P) (mixM M' P) := by
  have ho : OsetSlack M v (M 83 2) (recN M (dset (M 83) 2 v)) := Or.inr ⟨hv, recN_RecP (hst_of hI.1) _, recN_TS M _, by rw [recN_83]; exact fun j _ _ => rfl, rfl⟩
  obtain ⟨er, hq⟩ := o_of h ho
  exact ⟨_, by rw [er, hI.d], hq⟩
/-- the width of a column without words -/
theorem width_of {N M M' : Mem} {w r : Int} (hI : QI N M) (hn : N 83 0 = 0) (hw : 16 ≤ w ∧ w ≤ 40) (h : CPO M (OsetWidth M w) r M') : ∃ P : Mem, r = 0 ∧ QI (mixM M' P) (mixM M' P) ∧ mixM M' P 83 2 = N 83 2 := by
  have hd := hI.d
  have hL := hI.hD.L24
  have h3 : M 83 3 = 0 := by rw [hd]; omega
  have h0 : M 83 0 = 0 := by rw [hd]; exact hn
  have hf : frc (M 83) ≤ 0 := by
    unfold frc
    rw [h3, cnt_0]
    exact Int.le_refl _
  have e3 : dset (M 83) 1 w 3 = 0 := by rw [dset_ne (by decide)]; exact h3
  have e0 : dset (M 83) 1 w 0 = 0 := by rw [dset_ne (by decide)]; exact h0
  have hF : FillP (dset (M 83) 1 w) (dset (M 83) 1 w) := by
    refine ⟨rfl, rfl, rfl, fun _ _ _ => rfl, by rw [e3]; exact Int.le_refl _, by rw [e3]; decide, fun l a b => ?_, ?_, fun l a b => ?_⟩
    · rw [e3] at b; omega
    · unfold sd
      rw [e3, if_neg (by decide), e0]
    · rw [e3] at b; omega
  have ho : OsetWidth M w (recN M (dset (M 83) 1 w) 83 3) (recN M (dset (M 83) 1 w)) := Or.inr (Or.inr ⟨hw, hf, recN_RecP (hst_of hI.1) _, recN_TS M _, by rw [recN_83]; exact hF, rfl⟩)
  obtain ⟨er, hq⟩ := o_of h ho
  refine ⟨_, by rw [er, recN_83]; exact e3, hq, ?_⟩
  rw [mixM_hi (by decide), recN_83, dset_ne (by decide), hd]
theorem freeze_of {N M M' : Mem} {ln v r : Int} (hI : QI N M) (hl : isL (N 83) ln) (hv : 0 ≤ v ∧ v ≤ 1) (h : CPO M (Ofreeze M ln v) r M') : ∃ P : Mem, 0 ≤ r ∧ r ≤ 1 ∧ QI (mixM M' P) (mixM M' P) := by
  have hd := hI.d
  have hD := hI.hD
  have ho : Ofreeze M ln v (M 83 (53 + ln)) (recN M (dset (M 83) (53 + ln) v)) := Or.inr ⟨⟨by rw [hd]; exact hl, hv⟩, recN_RecP (hst_of hI.1) _, recN_TS M _, by rw [recN_83]; exact fun j _ _ => rfl, rfl⟩
  obtain ⟨er, hq⟩ := o_of h ho
  have hf := (hD.2.2.2.2.2.2 ln hl.1 hl.2).2.1
  rw [hd] at er
  exact ⟨_, by omega, by omega, hq⟩
theorem dam_of {N M M' : Mem} {D r : Int} (hI : QI N M) (hDD : 1 ≤ D ∧ D ≤ 24) (h : CPO M (Odam M D) r M') : ∃ P : Mem, ((SOL (N 83) D).1 = 1000000000 ∧ r = -2 ∧ QI N (mixM M' P)) ∨ ((SOL (N 83) D).1 < 1000000000 ∧ r = (SOL (N 83) D).1 / 100000 ∧ QI (mixM M' P) (mixM M' P) ∧ mixM M' P 83 0 = N 83 0 ∧ LR (mixM M' P 83) ≤ D) := by
  have hd := hI.d
  have hD := hI.hD
  by_cases hz : (SOL (N 83) D).1 = 1000000000
  · obtain ⟨er, hq⟩ := o_no hI h (r' := -2) (Or.inr (Or.inl ⟨hDD, by rw [hd]; exact hz, rfl, SM.rf M⟩))
    exact ⟨M, Or.inl ⟨hz, er, hq⟩⟩
  · have hb := sol_bd hD D
    have hlt : (SOL (N 83) D).1 < 1000000000 := by omega
    have ho : Odam M D ((SOL (M 83) D).1 / 100000) (recN M (damD (M 83) (SOL (M 83) D).2.1 (SOL (M 83) D).2.2.2)) := Or.inr (Or.inr ⟨hDD, by rw [hd]; exact hlt, recN_RecP (hst_of hI.1) _, recN_TS M _, by rw [recN_83]; exact fun j _ _ => rfl, rfl⟩)
    obtain ⟨er, hq⟩ := o_of h ho
    have e83 : mixM M' (recN M (damD (M 83) (SOL (M 83) D).2.1 (SOL (M 83) D).2.2.2)) 83 = damD (N 83) (SOL (N 83) D).2.1 (SOL (N 83) D).2.2.2 := by rw [mixM_hi (by decide), recN_83, hd]
    have hA : Ag (damD (N 83) (SOL (N 83) D).2.1 (SOL (N 83) D).2.2.2) (mixM M' (recN M (damD (M 83) (SOL (M 83) D).2.1 (SOL (M 83) D).2.2.2)) 83) := by
      rw [e83]
      exact fun j _ _ => rfl
    refine ⟨_, Or.inr ⟨hlt, by rw [er, hd], hq, (dam_sd hD hA (sol_path hD hlt)).1.1, ?_⟩⟩
    exact dam_LR hD hq.hD hA (sol_path hD hlt) (sol_rv (by omega) hlt) (by omega)
theorem sd_of {d e : Int → Int} {l : Int} (h : l < d 3) (h3 : e 3 = d 3) (hj : e (28 + l) = d (28 + l)) : sd e l = sd d l := by
  unfold sd
  rw [h3, if_pos h, if_pos h, hj]
theorem sd_at {d e : Int → Int} {l : Int} (h3 : e 3 = d 3) (h0 : e 0 = d 0) (hj : e (28 + l) = d (28 + l)) : sd e l = sd d l := by
  unfold sd
  rw [h3, h0, hj]
/-- a word pulled: what the next push and the line say -/
theorem pull_of {N M M' : Mem} {ln r : Int} (hI : QI N M) (hl : isL (N 83) ln) (h : CPO M (Opull M ln) r M') : ∃ P : Mem, (noPull (N 83) ln ∧ r = -2 ∧ QI N (mixM M' P)) ∨ (¬ noPull (N 83) ln ∧ QI (mixM M' P) (mixM M' P) ∧ r = mixM M' P 83 3 ∧ (r = N 83 3 - 1 ∧ sd (N 83) (ln + 1) + 1 = sd (N 83) (ln + 2) ∨ r = N 83 3 ∧ sd (N 83) (ln + 1) + 1 ≠ sd (N 83) (ln + 2) ∧ isL (mixM M' P 83) ln ∧ ¬ noPush (mixM M' P 83) ln ∧ ln + 1 ≠ mixM M' P 83 3) ∧ sd (mixM M' P 83) (ln + 1) - sd (mixM M' P 83) ln = sd (N 83) (ln + 1) + 1 - sd (N 83) ln) := by
  have hd := hI.d
  have hD := hI.hD
  have hL := hD.L24
  by_cases hno : noPull (N 83) ln
  · obtain ⟨er, hq⟩ := o_no hI h (r' := -2) (Or.inr (Or.inl ⟨by rw [hd]; exact hl, by rw [hd]; exact hno, rfl, SM.rf M⟩))
    exact ⟨M, Or.inl ⟨hno, er, hq⟩⟩
  · have hl0 := hl.1
    have hl1 := hl.2
    have hn := hD.1
    have hsg := hD.2.2.2.2.2.2 ln hl.1 hl.2
    have hb1 := hD.bdall (l := ln + 1) (by omega)
    have n1 : ln + 1 ≠ N 83 3 := fun z => hno (Or.inl z)
    have n2 : N 83 (53 + ln) ≠ 1 := fun z => hno (Or.inr (Or.inl z))
    have n3 : N 83 (53 + (ln + 1)) ≠ 1 := fun z => hno (Or.inr (Or.inr (Or.inl z)))
    have hs2 := hD.2.2.2.2.2.2 (ln + 1) (by omega) (by omega)
    have e2 : ln + 1 + 1 = ln + 2 := by omega
    rw [e2] at hs2
    have hb2 := hD.bdall (l := ln + 2) (by omega)
    have s0 : sd (N 83) ln = N 83 (28 + ln) := sd_in hl1
    have s1 : sd (N 83) (ln + 1) = N 83 (28 + (ln + 1)) := sd_in (by omega)
    by_cases hc : sd (N 83) (ln + 1) + 1 = sd (N 83) (ln + 2)
    · have ho : Opull M ln (recN M (shiftD (M 83) ln) 83 3) (recN M (shiftD (M 83) ln)) := Or.inr (Or.inr ⟨by rw [hd]; exact hl, by rw [hd]; exact hno, recN_RecP (hst_of hI.1) _, recN_TS M _, Or.inl ⟨by rw [hd]; exact hc, by rw [recN_83]; exact fun j _ _ _ => rfl⟩, rfl⟩)
      obtain ⟨er, hq⟩ := o_of h ho
      have e83 : mixM M' (recN M (shiftD (M 83) ln)) 83 = shiftD (N 83) ln := by rw [mixM_hi (by decide), recN_83, hd]
      have e3 : shiftD (N 83) ln 3 = N 83 3 - 1 := by
        unfold shiftD
        rw [if_pos rfl]
      have e0 : shiftD (N 83) ln 0 = N 83 0 := by
        unfold shiftD
        rw [if_neg (by decide), if_neg (by omega), if_neg (by omega)]
      have f0 : sd (shiftD (N 83) ln) ln = sd (N 83) ln := by
        unfold sd
        rw [e3, if_pos (by omega), if_pos hl1]
        unfold shiftD
        rw [if_neg (by omega), if_neg (by omega), if_neg (by omega)]
      have f1 : sd (shiftD (N 83) ln) (ln + 1) = sd (N 83) (ln + 2) := by
        unfold sd
        rw [e3, e0]
        by_cases hz : ln + 1 < N 83 3 - 1
        · rw [if_pos hz, if_pos (by omega)]
          unfold shiftD
          rw [if_neg (by omega), if_pos (by omega), show 28 + (ln + 1) + 1 = 28 + (ln + 2) by omega]
        · rw [if_neg hz, if_neg (by omega)]
      refine ⟨_, Or.inr ⟨hno, hq, ?_, Or.inl ⟨by rw [er, recN_83, hd]; exact e3, hc⟩, ?_⟩⟩
      · rw [er, mixM_hi (by decide)]
      · rw [e83, f0, f1]
        omega
    · have ho : Opull M ln (recN M (dset (M 83) (28 + (ln + 1)) (sd (M 83) (ln + 1) + 1)) 83 3) (recN M (dset (M 83) (28 + (ln + 1)) (sd (M 83) (ln + 1) + 1))) := Or.inr (Or.inr ⟨by rw [hd]; exact hl, by rw [hd]; exact hno, recN_RecP (hst_of hI.1) _, recN_TS M _, Or.inr ⟨by rw [hd]; exact hc, by rw [recN_83]; exact fun j _ _ => rfl⟩, rfl⟩)
      obtain ⟨er, hq⟩ := o_of h ho
      have e83 : mixM M' (recN M (dset (M 83) (28 + (ln + 1)) (sd (M 83) (ln + 1) + 1))) 83 = dset (N 83) (28 + (ln + 1)) (sd (N 83) (ln + 1) + 1) := by rw [mixM_hi (by decide), recN_83, hd]
      have e3 : dset (N 83) (28 + (ln + 1)) (sd (N 83) (ln + 1) + 1) 3 = N 83 3 := dset_ne (by omega)
      have f0 : sd (dset (N 83) (28 + (ln + 1)) (sd (N 83) (ln + 1) + 1)) ln = sd (N 83) ln := sd_of hl1 e3 (dset_ne (by omega))
      have f1 : sd (dset (N 83) (28 + (ln + 1)) (sd (N 83) (ln + 1) + 1)) (ln + 1) = sd (N 83) (ln + 1) + 1 := by
        rw [sd_in (by rw [e3]; omega), dset_at]
      have f2 : sd (dset (N 83) (28 + (ln + 1)) (sd (N 83) (ln + 1) + 1)) (ln + 2) = sd (N 83) (ln + 2) := by
        exact sd_at e3 (dset_ne (by omega)) (dset_ne (by omega))
      refine ⟨_, Or.inr ⟨hno, hq, by rw [er, mixM_hi (by decide)], Or.inr ⟨by rw [er, recN_83, hd]; exact e3, hc, ?_, ?_, ?_⟩, ?_⟩⟩
      · rw [e83]
        exact ⟨hl0, by rw [e3]; exact hl1⟩
      · rw [e83]
        intro z0
        rcases z0 with z | z | ⟨-, z | z⟩
        · rw [f0, f1] at z
          omega
        · rw [dset_ne (by omega)] at z
          exact n2 z
        · rw [dset_ne (by omega)] at z
          exact n3 z
        · unfold exD at z
          rw [f1, f2, dset_ne (by omega), show sd (N 83) (ln + 1) + 1 - 1 = sd (N 83) (ln + 1) by omega, exF_congr (L := lenD (dset (N 83) (28 + (ln + 1)) (sd (N 83) (ln + 1) + 1))) (K := lenD (N 83)) (n := N 83 0) (fun w a b => dset_ne (by omega)) hb1.2 hb2.2] at z
          omega
      · rw [e83, e3]
        exact n1
      · rw [e83, f0, f1]
theorem pushA {d e : Int → Int} (hD : DOK d) {ln : Int} (hl : isL d ln) (hno : ¬ noPush d ln) (hc : ln + 1 = d 3) (he : e = dset (dset (dset d (28 + (ln + 1)) (d 0 - 1)) (53 + (ln + 1)) 0) 3 (d 3 + 1)) : e 3 = d 3 + 1 ∧ sd e (ln + 1) + 1 = sd e (ln + 2) ∧ sd e (ln + 1) - sd e ln = sd d (ln + 1) - 1 - sd d ln ∧ isL e ln ∧ ¬ noPull e ln := by
  have hL := hD.L24
  have hl0 := hl.1
  have hl1 := hl.2
  have hn := hD.1
  have hsg := hD.2.2.2.2.2.2 ln hl.1 hl.2
  have hb0 := hD.bdall (l := ln) (by omega)
  have hb1 := hD.bdall (l := ln + 1) (by omega)
  have n1 : sd d (ln + 1) - 1 ≠ sd d ln := fun z => hno (Or.inl z)
  have n2 : d (53 + ln) ≠ 1 := fun z => hno (Or.inr (Or.inl z))
  have ej : ∀ j, j ≠ 3 → j ≠ 53 + (ln + 1) → j ≠ 28 + (ln + 1) → e j = d j := fun j h1 h2 h3 => by rw [he, dset_ne h1, dset_ne h2, dset_ne h3]
  have e3 : e 3 = d 3 + 1 := by rw [he, dset_at]
  have e28 : e (28 + (ln + 1)) = d 0 - 1 := by rw [he, dset_ne (by omega), dset_ne (by omega), dset_at]
  have e53 : e (53 + (ln + 1)) = 0 := by rw [he, dset_ne (by omega), dset_at]
  have e0 : e 0 = d 0 := ej 0 (by omega) (by omega) (by omega)
  have hsn : sd d (ln + 1) = d 0 := sd_L (by omega)
  have f0 : sd e ln = sd d ln := by
    rw [sd_in (show ln < e 3 by omega), sd_in hl1]
    exact ej _ (by omega) (by omega) (by omega)
  have f1 : sd e (ln + 1) = d 0 - 1 := by rw [sd_in (show ln + 1 < e 3 by omega), e28]
  have f2 : sd e (ln + 2) = d 0 := by rw [sd_L (show e 3 ≤ ln + 2 by omega), e0]
  refine ⟨e3, by omega, by omega, ⟨hl0, by omega⟩, fun z0 => ?_⟩
  rcases z0 with z | z | z | z
  · omega
  · rw [ej _ (by omega) (by omega) (by omega)] at z
    exact n2 z
  · omega
  · unfold exD at z
    rw [f0, f1, ej 1 (by omega) (by omega) (by omega), show d 0 - 1 + 1 = sd d (ln + 1) by omega, exF_congr (L := lenD e) (K := lenD d) (n := d 0) (fun w a b => ej _ (by omega) (by omega) (by omega)) hb0.2 hb1.2] at z
    omega
theorem pushB {d e : Int → Int} (hD : DOK d) {ln : Int} (hl : isL d ln) (hno : ¬ noPush d ln) (hc : ln + 1 ≠ d 3) (he : e = dset d (28 + (ln + 1)) (sd d (ln + 1) - 1)) : e 3 = d 3 ∧ sd e (ln + 1) + 1 ≠ sd e (ln + 2) ∧ sd e (ln + 1) - sd e ln = sd d (ln + 1) - 1 - sd d ln ∧ isL e ln ∧ ¬ noPull e ln := by
  have hL := hD.L24
  have hl0 := hl.1
  have hl1 := hl.2
  have hn := hD.1
  have hsg := hD.2.2.2.2.2.2 ln hl.1 hl.2
  have hb0 := hD.bdall (l := ln) (by omega)
  have hb1 := hD.bdall (l := ln + 1) (by omega)
  have n1 : sd d (ln + 1) - 1 ≠ sd d ln := fun z => hno (Or.inl z)
  have n2 : d (53 + ln) ≠ 1 := fun z => hno (Or.inr (Or.inl z))
  have n3 : d (53 + (ln + 1)) ≠ 1 := fun z => hno (Or.inr (Or.inr ⟨hc, Or.inl z⟩))
  have hs2 := (hD.2.2.2.2.2.2 (ln + 1) (by omega) (by omega)).1
  rw [show ln + 1 + 1 = ln + 2 by omega] at hs2
  have ej : ∀ j, j ≠ 28 + (ln + 1) → e j = d j := fun j h3 => by rw [he, dset_ne h3]
  have e3 : e 3 = d 3 := ej 3 (by omega)
  have e0 : e 0 = d 0 := ej 0 (by omega)
  have f0 : sd e ln = sd d ln := by
    rw [sd_in (show ln < e 3 by omega), sd_in hl1]
    exact ej _ (by omega)
  have f1 : sd e (ln + 1) = sd d (ln + 1) - 1 := by rw [sd_in (show ln + 1 < e 3 by omega), he, dset_at]
  have f2 : sd e (ln + 2) = sd d (ln + 2) := by
    unfold sd
    rw [e3, e0, ej _ (show (28 : Int) + (ln + 2) ≠ 28 + (ln + 1) by omega)]
  refine ⟨e3, by omega, by omega, ⟨hl0, by omega⟩, fun z0 => ?_⟩
  rcases z0 with z | z | z | z
  · omega
  · rw [ej _ (by omega)] at z
    exact n2 z
  · rw [ej _ (by omega)] at z
    exact n3 z
  · unfold exD at z
    rw [f0, f1, ej 1 (by omega), show sd d (ln + 1) - 1 + 1 = sd d (ln + 1) by omega, exF_congr (L := lenD e) (K := lenD d) (n := d 0) (fun w a b => ej _ (by omega)) hb0.2 hb1.2] at z
    omega
/-- a word pushed: what the next pull and the line say -/
theorem push_of {N M M' : Mem} {ln r : Int} (hI : QI N M) (hl : isL (N 83) ln) (h : CPO M (Opush M ln) r M') : ∃ P : Mem, (noPush (N 83) ln ∧ r = -2 ∧ QI N (mixM M' P)) ∨ (¬ noPush (N 83) ln ∧ QI (mixM M' P) (mixM M' P) ∧ (ln + 1 = N 83 3 ∧ r = N 83 3 + 1 ∧ sd (mixM M' P 83) (ln + 1) + 1 = sd (mixM M' P 83) (ln + 2) ∨ ln + 1 ≠ N 83 3 ∧ r = N 83 3 ∧ sd (mixM M' P 83) (ln + 1) + 1 ≠ sd (mixM M' P 83) (ln + 2)) ∧ mixM M' P 83 3 = r ∧ sd (mixM M' P 83) (ln + 1) - sd (mixM M' P 83) ln = sd (N 83) (ln + 1) - 1 - sd (N 83) ln ∧ isL (mixM M' P 83) ln ∧ ¬ noPull (mixM M' P 83) ln) := by
  have hd := hI.d
  have hD := hI.hD
  by_cases hno : noPush (N 83) ln
  · obtain ⟨er, hq⟩ := o_no hI h (r' := -2) (Or.inr (Or.inl ⟨by rw [hd]; exact hl, by rw [hd]; exact hno, rfl, SM.rf M⟩))
    exact ⟨M, Or.inl ⟨hno, er, hq⟩⟩
  · by_cases hc : ln + 1 = N 83 3
    · have ho : Opush M ln (recN M (dset (dset (dset (M 83) (28 + (ln + 1)) (M 83 0 - 1)) (53 + (ln + 1)) 0) 3 (M 83 3 + 1)) 83 3) (recN M (dset (dset (dset (M 83) (28 + (ln + 1)) (M 83 0 - 1)) (53 + (ln + 1)) 0) 3 (M 83 3 + 1))) := Or.inr (Or.inr ⟨by rw [hd]; exact hl, by rw [hd]; exact hno, recN_RecP (hst_of hI.1) _, recN_TS M _, Or.inl ⟨by rw [hd]; exact hc, by rw [recN_83]; exact fun j _ _ => rfl⟩, rfl⟩)
      obtain ⟨er, hq⟩ := o_of h ho
      obtain ⟨p3, pc, pw, pl, pn⟩ := pushA hD hl hno hc (e := mixM M' (recN M (dset (dset (dset (M 83) (28 + (ln + 1)) (M 83 0 - 1)) (53 + (ln + 1)) 0) 3 (M 83 3 + 1))) 83) (by rw [mixM_hi (by decide), recN_83, hd])
      have er2 : r = N 83 3 + 1 := by rw [er, recN_83, dset_at, hd]
      exact ⟨_, Or.inr ⟨hno, hq, Or.inl ⟨hc, er2, pc⟩, by rw [p3, er2], pw, pl, pn⟩⟩
    · have ho : Opush M ln (recN M (dset (M 83) (28 + (ln + 1)) (sd (M 83) (ln + 1) - 1)) 83 3) (recN M (dset (M 83) (28 + (ln + 1)) (sd (M 83) (ln + 1) - 1))) := Or.inr (Or.inr ⟨by rw [hd]; exact hl, by rw [hd]; exact hno, recN_RecP (hst_of hI.1) _, recN_TS M _, Or.inr ⟨by rw [hd]; exact hc, by rw [recN_83]; exact fun j _ _ => rfl⟩, rfl⟩)
      obtain ⟨er, hq⟩ := o_of h ho
      obtain ⟨p3, pc, pw, pl, pn⟩ := pushB hD hl hno hc (e := mixM M' (recN M (dset (M 83) (28 + (ln + 1)) (sd (M 83) (ln + 1) - 1))) 83) (by rw [mixM_hi (by decide), recN_83, hd])
      have hl0 := hl.1
      have er2 : r = N 83 3 := by rw [er, recN_83, dset_ne (by omega), hd]
      exact ⟨_, Or.inr ⟨hno, hq, Or.inr ⟨hc, er2, pc⟩, by rw [p3, er2], pw, pl, pn⟩⟩
