def WW (X : Cx) (h : Nat) (u : Nat → Nat) (g : Nat) (v : Nat → Nat) : va_W := wX6 X h u ++ wX7 X g v
theorem WW_len (X : Cx) (h : Nat) (u : Nat → Nat) (g : Nat) (v : Nat → Nat) : (WW X h u g v).length = 96 := rfl
set_option maxRecDepth 100000 in
set_option maxHeartbeats 4000000 in
theorem WW_wl {X : Cx} {h : Nat} {u : Nat → Nat} {g : Nat} {v : Nat → Nat} {H : Heap} (hP : va_P (X.2.1, X.2.2.1) vwCl (WW X h u g v) H) : Wd (XW X (WW X h u g v)) M0 H := by
  show va_P (X.2.1, X.2.2.1) vwCl (wl (XW X (WW X h u g v)) M0) H
  rw [wl_wlF]
  refine vp_cons (hP 0 _ rfl) ?_
  refine vp_cons (hP 1 _ rfl) ?_
  refine vp_cons (hP 2 _ rfl) ?_
  refine vp_cons (hP 3 _ rfl) ?_
  refine vp_cons (hP 4 _ rfl) ?_
  refine vp_cons (hP 5 _ rfl) ?_
  refine vp_cons (hP 6 _ rfl) ?_
  refine vp_cons (hP 7 _ rfl) ?_
  refine vp_cons (hP 8 _ rfl) ?_
  refine vp_cons (at_pages (hP 9 _ rfl) (fun j hj => by rcases (show j = 0 ∨ j = 1 ∨ j = 2 ∨ j = 3 ∨ j = 4 by omega) with rfl | rfl | rfl | rfl | rfl <;> rfl)) ?_
  refine vp_cons (hP 10 _ rfl) ?_
  refine vp_cons (hP 11 _ rfl) ?_
  refine vp_cons (hP 12 _ rfl) ?_
  refine vp_cons (hP 13 _ rfl) ?_
  refine vp_cons (hP 14 _ rfl) ?_
  refine vp_cons (hP 15 _ rfl) ?_
  refine vp_cons (hP 16 _ rfl) ?_
  refine vp_cons (hP 17 _ rfl) ?_
  refine vp_cons (hP 18 _ rfl) ?_
  refine vp_cons (hP 19 _ rfl) ?_
  refine vp_cons (hP 20 _ rfl) ?_
  refine vp_cons (hP 21 _ rfl) ?_
  refine vp_cons (hP 22 _ rfl) ?_
  refine vp_cons (hP 23 _ rfl) ?_
  refine vp_cons (hP 24 _ rfl) ?_
  refine vp_cons (hP 25 _ rfl) ?_
  refine vp_cons (hP 26 _ rfl) ?_
  refine vp_cons (hP 27 _ rfl) ?_
  refine vp_cons (hP 28 _ rfl) ?_
  refine vp_cons (hP 29 _ rfl) ?_
  refine vp_cons (hP 30 _ rfl) ?_
  refine vp_cons (hP 31 _ rfl) ?_
  refine vp_cons (hP 32 _ rfl) ?_
  refine vp_cons (hP 33 _ rfl) ?_
  refine vp_cons (hP 34 _ rfl) ?_
  refine vp_cons (hP 35 _ rfl) ?_
  refine vp_cons (hP 36 _ rfl) ?_
  refine vp_cons (hP 37 _ rfl) ?_
  refine vp_cons (hP 38 _ rfl) ?_
  refine vp_cons (hP 39 _ rfl) ?_
  refine vp_cons (hP 40 _ rfl) ?_
  refine vp_cons (hP 41 _ rfl) ?_
  refine vp_cons (hP 42 _ rfl) ?_
  refine vp_cons (hP 43 _ rfl) ?_
  refine vp_cons (hP 44 _ rfl) ?_
  refine vp_cons (hP 45 _ rfl) ?_
  refine vp_cons (hP 46 _ rfl) ?_
  refine vp_cons (hP 47 _ rfl) ?_
  refine vp_cons (hP 48 _ rfl) ?_
  refine vp_cons (hP 49 _ rfl) ?_
  refine vp_cons (hP 50 _ rfl) ?_
  refine vp_cons (hP 51 _ rfl) ?_
  refine vp_cons (hP 52 _ rfl) ?_
  refine vp_cons (hP 53 _ rfl) ?_
  refine vp_cons (hP 54 _ rfl) ?_
  refine vp_cons (hP 55 _ rfl) ?_
  refine vp_cons (hP 56 _ rfl) ?_
  refine vp_cons (hP 57 _ rfl) ?_
  refine vp_cons (hP 58 _ rfl) ?_
  refine vp_cons (hP 59 _ rfl) ?_
  refine vp_cons (hP 60 _ rfl) ?_
  refine vp_cons (hP 61 _ rfl) ?_
  refine vp_cons (hP 62 _ rfl) ?_
  refine vp_cons (hP 63 _ rfl) ?_
  refine vp_cons (hP 64 _ rfl) ?_
  refine vp_cons (hP 65 _ rfl) ?_
  refine vp_cons (hP 66 _ rfl) ?_
  refine vp_cons (hP 67 _ rfl) ?_
  refine vp_cons (hP 68 _ rfl) ?_
  refine vp_cons (hP 69 _ rfl) ?_
  refine vp_cons (hP 70 _ rfl) ?_
  refine vp_cons (hP 71 _ rfl) ?_
  refine vp_cons (hP 72 _ rfl) ?_
  refine vp_cons (hP 73 _ rfl) ?_
  refine vp_cons (hP 74 _ rfl) ?_
  refine vp_cons (hP 75 _ rfl) ?_
  refine vp_cons (hP 76 _ rfl) ?_
  refine vp_cons (hP 77 _ rfl) ?_
  refine vp_cons (hP 78 _ rfl) ?_
  refine vp_cons (hP 79 _ rfl) ?_
  refine vp_cons (hP 80 _ rfl) ?_
  refine vp_cons (hP 81 _ rfl) ?_
  refine vp_cons (hP 82 _ rfl) ?_
  refine vp_cons (at_ints (hP 83 _ rfl) (fun j hj => ?_)) ?_
  · show upd (upd (fun _ => oI 0) 1 (oI 24)) 2 (oI 6) j = oI (dI0 (j : Int))
    unfold upd dI0
    by_cases h2 : j = 2
    · rw [if_pos h2, if_neg (by omega), if_pos (by omega)]
    · rw [if_neg h2]
      by_cases h1 : j = 1
      · rw [if_pos h1, if_pos (by omega)]
      · rw [if_neg h1, if_neg (by omega), if_neg (by omega)]
  refine vp_cons (hP 84 _ rfl) ?_
  refine vp_cons (hP 85 _ rfl) ?_
  refine vp_cons (hP 86 _ rfl) ?_
  refine vp_cons (hP 87 _ rfl) ?_
  refine vp_cons (hP 88 _ rfl) ?_
  refine vp_cons (hP 89 _ rfl) ?_
  refine vp_cons (hP 90 _ rfl) ?_
  refine vp_cons (hP 91 _ rfl) ?_
  refine vp_cons (hP 92 _ rfl) ?_
  refine vp_cons (hP 93 _ rfl) ?_
  refine vp_cons (hP 94 _ rfl) ?_
  refine vp_cons (hP 95 _ rfl) ?_
  exact vp_nil
