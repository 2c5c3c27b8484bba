/-! ===== p26: lines: where they end; gaps and their reaches ===== -/
theorem colF_bdn {L : Int → Int} {x i j n : Int} (hx : 0 ≤ x ∧ x ≤ 41) (hL : ∀ w, 0 ≤ w → w < n → 0 ≤ L w ∧ L w ≤ 8) (hi : 0 ≤ i) {w : Int} (h0 : i ≤ w) (h1 : w ≤ n) : 0 ≤ colF L x i j w ∧ colF L x i j w ≤ 51 * (w - i) := by
  obtain ⟨k, rfl⟩ : ∃ k : Nat, w = i + k := ⟨(w - i).toNat, by omega⟩
  clear h0
  induction k with
  | zero => rw [show i + ((0 : Nat) : Int) = i by omega, colF_0]; omega
  | succ k ih =>
    have ih := ih (by omega)
    rw [show i + ((k + 1 : Nat) : Int) = (i + k) + 1 by omega, colF_s L x i j (by omega)]
    have h2 := hL (i + k) (by omega) (by omega)
    have h3 := wdF_bd (x := x) (i := i) (j := j) (w := i + k) hx (by omega)
    omega
theorem mx_split {r : Int → Int} {a m e : Int} (h1 : a ≤ m) (h2 : m ≤ e) : mx (fun _ => true) r a e = if mx (fun _ => true) r a m < mx (fun _ => true) r m e then mx (fun _ => true) r m e else mx (fun _ => true) r a m := by
  have hA : ∀ B, 0 ≤ B → (∀ w, a ≤ w → w < e → r w ≤ B) → mx (fun _ => true) r a e ≤ B := fun B hB h => (mx_bd hB (fun w q0 q1 _ => h w q0 q1)).2
  have n1 : 0 ≤ mx (fun _ => true) r a m := mx_nn
  have n2 : 0 ≤ mx (fun _ => true) r m e := mx_nn
  have n3 : 0 ≤ mx (fun _ => true) r a e := mx_nn
  have g1 : mx (fun _ => true) r a m ≤ mx (fun _ => true) r a e := (mx_bd n3 (fun w q0 q1 _ => mx_ge q0 (by omega) rfl)).2
  have g2 : mx (fun _ => true) r m e ≤ mx (fun _ => true) r a e := (mx_bd n3 (fun w q0 q1 _ => mx_ge (by omega) q1 rfl)).2
  have key : ∀ w, a ≤ w → w < e → r w ≤ mx (fun _ => true) r a m ∨ r w ≤ mx (fun _ => true) r m e := fun w q0 q1 => by
    by_cases hw : w < m
    · exact Or.inl (mx_ge q0 hw rfl)
    · exact Or.inr (mx_ge (by omega) q1 rfl)
  split
  · have := hA _ n2 (fun w q0 q1 => by rcases key w q0 q1 with z | z <;> omega)
    omega
  · have := hA _ n1 (fun w q0 q1 => by rcases key w q0 q1 with z | z <;> omega)
    omega
theorem RD_last {d : Int → Int} (hD : DOK d) {k : Int} (h0 : 0 ≤ k) (h1 : k < d 3) : RD d (sd d (k + 1) - 1) = 0 := by
  have hl := (hD.2.2.2.2.2.2 k h0 h1).1
  have h := RN_last hD h0 h1 (k.toNat + 1) (by omega)
  rw [RD_line hD h0 h1 (show sd d (k + 1) - 1 < sd d (k + 1) by omega)]
  exact h
theorem rd_rl {d : Int → Int} (hD : DOK d) {k w : Int} (h0 : 0 ≤ k) (h1 : k < d 3) (h2 : sd d k ≤ w) (h3 : w < sd d (k + 1) - 1) : rlF (lenD d) (d 1) (d 0) (prv d k) (sd d k) (sd d (k + 1)) (RD d) w = RD d w := by
  rw [RD_line hD h0 h1 (show w < sd d (k + 1) by omega), RN_S d h0]
  unfold rlF
  rw [if_pos ⟨h2, h3⟩, if_pos ⟨h2, h3⟩]
  congr 1
  exact mx_congr (fun g q0 q1 => ⟨rfl, fun _ => RD_before hD h0 (by omega) (by omega)⟩)
theorem mt_last {d : Int → Int} (hD : DOK d) {l w : Int} (h0 : 0 ≤ l) (h1 : l < d 3) : mtD d (sd d (l + 1) - 1) w = false := by
  have hl := (hD.2.2.2.2.2.2 l h0 h1).1
  have e := lnD_eq hD (w := sd d (l + 1) - 1) h0 h1 (by omega) (by omega)
  have hv : GV d (sd d (l + 1) - 1) = 0 := by
    unfold GV lgw wdF
    rw [e, if_neg (by omega)]
  apply Bool.eq_false_iff.mpr
  intro z
  unfold mtD at z
  have := (mtB_iff.mp z).1
  rw [hv] at this
  omega

theorem ab_last {d : Int → Int} (hD : DOK d) {l : Int} (h0 : 0 ≤ l) (h1 : l < d 3) : abD d (sd d (l + 1) - 1) = 0 := by
  have e : ∀ t, cnt (fun g => if mtD d g (sd d (l + 1) - 1) = true then 1 else 0) t = 0 := by
    intro t
    have hz : ∀ (k : Nat), sumN (fun g => if mtD d g (sd d (l + 1) - 1) = true then 1 else 0) k = 0 := by
      intro k
      induction k with
      | zero => rfl
      | succ k ih =>
        show sumN _ k + (if mtD d k (sd d (l + 1) - 1) = true then 1 else 0) = 0
        rw [ih, if_neg]
        · rfl
        · intro z
          unfold mtD at z
          rw [mtB_comm] at z
          have := mt_last (w := (k : Int)) hD h0 h1
          unfold mtD at this
          rw [this] at z
          exact absurd z (by decide)
    exact hz _
  unfold abD
  rw [e, e]
  rfl
theorem ab_bd (d : Int → Int) (hD : DOK d) {w : Int} (h0 : 0 ≤ w) (h1 : w < d 0) : 0 ≤ abD d w ∧ abD d w ≤ 24 := by
  obtain ⟨a1, a2, a3, a4⟩ := lnD_seg hD h0 h1
  have hpr := hD.prvle a1 a2
  have hb := hD.bdall a1
  have hn := hD.1
  have := cnt_ind (f := fun g => mtD d g w) (a := prv d (lnD d w)) (b := sd d (lnD d w)) (by omega) (by omega)
  unfold abD
  omega

theorem DOK.len8 {d : Int → Int} (hD : DOK d) : ∀ w, 0 ≤ w → w < d 0 → 0 ≤ lenD d w ∧ lenD d w ≤ 8 := fun w a b => by
  have := hD.2.2.2.2.1 w a b
  unfold lenD
  omega
theorem exD_bdD {d : Int → Int} (hD : DOK d) {i j : Int} (h0 : 0 ≤ i) (h1 : i ≤ j) (h2 : j ≤ d 0) : -300 ≤ exD d i j ∧ exD d i j ≤ 41 := by
  have h := cnt_bd (f := lenD d) h0 h1 (fun w a b => hD.len8 w (by omega) (by omega))
  have hW := hD.2.1
  have hn := hD.1
  unfold exD exF
  omega
theorem lex_bdD {d : Int → Int} (hD : DOK d) {l : Int} (h0 : 0 ≤ l) (h1 : l < d 3) : 0 ≤ lexF (lenD d) (d 1) (d 0) (sd d l) (sd d (l + 1)) ∧ lexF (lenD d) (d 1) (d 0) (sd d l) (sd d (l + 1)) ≤ 41 := by
  have hl := hD.2.2.2.2.2.2 l h0 h1
  have hb := hD.bdall h0
  have hb1 := hD.bdall (l := l + 1) (by omega)
  have hx := exD_bdD hD hb.1 (show sd d l ≤ sd d (l + 1) by omega) hb1.2
  have e : exF (lenD d) (d 1) (sd d l) (sd d (l + 1)) = exD d (sd d l) (sd d (l + 1)) := rfl
  unfold lexF
  split <;> omega
theorem colF_sum {L : Int → Int} {x a b : Int} (ha : 0 ≤ a) (hg : 0 < b - a - 1) : ∀ k : Nat, (k : Int) ≤ b - a - 1 → colF L x a b (a + k) = cnt L (a + k) - cnt L a + k + k * (x / (b - a - 1)) + (if (k : Int) < x % (b - a - 1) then (k : Int) else x % (b - a - 1))
  | 0, _ => by
    have h := Int.emod_nonneg x (show b - a - 1 ≠ 0 by omega)
    rw [show a + ((0 : Nat) : Int) = a by omega, colF_0, show ((0 : Nat) : Int) = 0 from rfl, Int.zero_mul]
    split <;> omega
  | k + 1, hk => by
    have ih := colF_sum (L := L) (x := x) ha hg k (by omega)
    have h := Int.emod_nonneg x (show b - a - 1 ≠ 0 by omega)
    have e : ((k + 1 : Nat) : Int) * (x / (b - a - 1)) = k * (x / (b - a - 1)) + x / (b - a - 1) := by
      rw [show ((k + 1 : Nat) : Int) = (k : Int) + 1 by omega, Int.add_mul, Int.one_mul]
    rw [e, show a + ((k + 1 : Nat) : Int) = a + k + 1 by omega, colF_s L x a b (by omega), ih, cnt_s L (by omega)]
    unfold wdF
    rw [if_pos (show a + (k : Int) < b - 1 by omega)]
    unfold gwF
    rw [show a + (k : Int) - a = k by omega]
    by_cases h1 : (k : Int) < x % (b - a - 1)
    · rw [if_pos h1, if_pos h1]
      by_cases h2 : ((k + 1 : Nat) : Int) < x % (b - a - 1)
      · rw [if_pos h2]
        omega
      · rw [if_neg h2]
        omega
    · rw [if_neg h1, if_neg h1, if_neg (show ¬ ((k + 1 : Nat) : Int) < x % (b - a - 1) by omega)]
      omega
/-- where the last word of a line ends -/
theorem line_end {L : Int → Int} {W n a b : Int} (ha : 0 ≤ a) (hab : a < b) : lcol L W n a b (b - 1) + L (b - 1) = cnt L b - cnt L a + (b - a - 1) + (if a + 1 < b then lexF L W n a b else 0) := by
  have hc := cnt_s L (k := b - 1) (by omega)
  rw [show b - 1 + 1 = b by omega] at hc
  by_cases hg : a + 1 < b
  · rw [if_pos hg]
    have h := colF_sum (L := L) (x := lexF L W n a b) (a := a) (b := b) ha (by omega) (b - a - 1).toNat (by omega)
    rw [show a + ((b - a - 1).toNat : Int) = b - 1 by omega, show ((b - a - 1).toNat : Int) = b - a - 1 by omega] at h
    have e := Int.mul_ediv_add_emod (lexF L W n a b) (b - a - 1)
    have hl := Int.emod_lt_of_pos (lexF L W n a b) (show 0 < b - a - 1 by omega)
    rw [if_neg (by omega)] at h
    unfold lcol
    rw [h]
    generalize (b - a - 1) * (lexF L W n a b / (b - a - 1)) = y at *
    omega
  · rw [if_neg hg]
    have eb : b = a + 1 := by omega
    subst eb
    unfold lcol
    rw [show a + 1 - 1 = a by omega, colF_0]
    rw [show a + 1 - 1 = a by omega] at hc
    omega
theorem sd_lastd {d : Int → Int} (hD : DOK d) {l : Int} (h0 : 0 ≤ l) (h1 : l < d 3) (hn : sd d (l + 1) = d 0) : l + 1 = d 3 := by
  by_cases z : l + 1 < d 3
  · have z1 := (hD.2.2.2.2.2.2 (l + 1) (by omega) z).1
    have z2 := hD.bdall (l := l + 1 + 1) (by omega)
    omega
  · omega
theorem end_d {d : Int → Int} (hD : DOK d) {l : Int} (h0 : 0 ≤ l) (h1 : l < d 3) : CO d (sd d (l + 1) - 1) + d (4 + (sd d (l + 1) - 1)) ≤ d 1 ∧ (l + 1 = d 3 ∨ sd d (l + 1) - sd d l = 1 ∨ CO d (sd d (l + 1) - 1) + d (4 + (sd d (l + 1) - 1)) = d 1) := by
  have hl := hD.2.2.2.2.2.2 l h0 h1
  have hb := hD.bdall h0
  have e := lnD_eq hD (w := sd d (l + 1) - 1) h0 h1 (by omega) (by omega)
  have he := line_end (L := lenD d) (W := d 1) (n := d 0) hb.1 hl.1
  have ec : CO d (sd d (l + 1) - 1) + d (4 + (sd d (l + 1) - 1)) = lcol (lenD d) (d 1) (d 0) (sd d l) (sd d (l + 1)) (sd d (l + 1) - 1) + lenD d (sd d (l + 1) - 1) := by
    unfold CO
    rw [e]
    rfl
  rw [ec, he]
  have hex := hl.2.2
  by_cases hn : sd d (l + 1) = d 0
  · have ex0 : lexF (lenD d) (d 1) (d 0) (sd d l) (sd d (l + 1)) = 0 := if_pos hn
    rw [ex0]
    unfold exF at hex
    refine ⟨?_, Or.inl (sd_lastd hD h0 h1 hn)⟩
    split <;> omega
  · have ex1 : lexF (lenD d) (d 1) (d 0) (sd d l) (sd d (l + 1)) = exF (lenD d) (d 1) (sd d l) (sd d (l + 1)) := if_neg hn
    rw [ex1]
    by_cases hg : sd d l + 1 < sd d (l + 1)
    · rw [if_pos hg]
      unfold exF
      exact ⟨by omega, Or.inr (Or.inr (by omega))⟩
    · rw [if_neg hg]
      unfold exF at hex
      exact ⟨by omega, Or.inr (Or.inl (by omega))⟩
theorem gv_eq {d : Int → Int} (hD : DOK d) {l k : Int} (h0 : 0 ≤ l) (h1 : l < d 3) (k0 : 0 ≤ k) (k1 : k < sd d (l + 1) - sd d l - 1) : GV d (sd d l + k) = gwF (lexF (lenD d) (d 1) (d 0) (sd d l) (sd d (l + 1))) (sd d l) (sd d (l + 1)) (sd d l + k) := by
  unfold GV lgw
  rw [lnD_eq hD (w := sd d l + k) h0 h1 (by omega) (by omega)]
  unfold wdF
  rw [if_pos (by omega)]
theorem gap_d {d : Int → Int} (hD : DOK d) {l g : Int} (h0 : 0 ≤ l) (h1 : l < d 3) (g0 : 0 ≤ g) (g1 : g < sd d (l + 1) - sd d l - 1) : 1 ≤ GV d (sd d l + g) ∧ GV d (sd d l + g) ≤ 2000 ∧ (g ≠ 0 → GV d (sd d l + g) ≤ GV d (sd d l + (g - 1))) := by
  have hx := lex_bdD hD h0 h1
  have hg := gwF_bd (i := sd d l) (j := sd d (l + 1)) (w := sd d l + g) hx (by omega)
  rw [gv_eq hD h0 h1 g0 g1]
  refine ⟨hg.1, by omega, fun hz => ?_⟩
  rw [gv_eq hD h0 h1 (k := g - 1) (by omega) (by omega)]
  unfold gwF
  (repeat' split) <;> omega
/-- the reach of a gap: from 1 to its line's number and one; more than 1 where a gap lies above -/
theorem reach_lo {d : Int → Int} (hD : DOK d) {l w : Int} (h0 : 0 ≤ l) (h1 : l < d 3) (w0 : sd d l ≤ w) (w1 : w < sd d (l + 1) - 1) : 1 ≤ RD d w ∧ RD d w ≤ l + 1 := by
  have hb := RN_bd d (l.toNat + 1) w
  have eb : RD d w = RN d (l.toNat + 1) w := RD_line hD h0 h1 (by omega)
  rw [eb]
  refine ⟨?_, by omega⟩
  rw [RN_S d h0]
  unfold rlF
  rw [if_pos ⟨w0, w1⟩]
  have := mx_nn (f := fun g => gmt (lenD d) (d 1) (d 0) (prv d l) (sd d l) (sd d (l + 1)) g w) (r := RN d l.toNat) (a := prv d l) (e := sd d l - 1)
  omega
theorem cnt_some {f : Int → Bool} {a b g : Int} (ha : 0 ≤ a) (h0 : a ≤ g) (h1 : g < b) (hf : f g = true) : 0 < cnt (fun q => if f q = true then 1 else 0) b - cnt (fun q => if f q = true then 1 else 0) a := by
  have e1 := cnt_ind (f := f) ha h0
  have e2 := cnt_ind (f := f) (a := g + 1) (b := b) (by omega) (by omega)
  have e3 := cnt_s (fun q => if f q = true then (1 : Int) else 0) (k := g) (by omega)
  have e4 : (if f g = true then (1 : Int) else 0) = 1 := if_pos hf
  have e5 : cnt (fun q => if f q = true then (1 : Int) else 0) (g + 1) = cnt (fun q => if f q = true then (1 : Int) else 0) g + 1 := by rw [e3, e4]
  omega
theorem cnt_none {f : Int → Bool} {a b : Int} (ha : 0 ≤ a) (hab : a ≤ b) (h : 0 < cnt (fun q => if f q = true then 1 else 0) b - cnt (fun q => if f q = true then 1 else 0) a) : ∃ g, a ≤ g ∧ g < b ∧ f g = true := by
  apply Classical.byContradiction
  intro hn
  have hz : ∀ j, a ≤ j → j < b → f j = false := fun j h0 h1 => by
    cases hj : f j with
    | false => rfl
    | true => exact absurd ⟨j, h0, h1, hj⟩ hn
  have h1 := cnt_mono (f := fun q => if f q = true then 1 else 0) (lo := 0) (hi := 0) ha (b - a).toNat (fun j g0 g1 => by
    show 0 ≤ (if f j = true then (1 : Int) else 0) ∧ (if f j = true then (1 : Int) else 0) ≤ 0
    rw [hz j g0 (by omega), if_neg (by decide)]
    omega)
  rw [show a + ((b - a).toNat : Int) = b by omega] at h1
  omega
theorem reach_ab {d : Int → Int} (hD : DOK d) {l w : Int} (h0 : 0 ≤ l) (h1 : l < d 3) (w0 : sd d l ≤ w) (w1 : w < sd d (l + 1) - 1) : 0 < abD d w ↔ 1 < RD d w := by
  have e := lnD_eq hD (w := w) h0 h1 w0 (by omega)
  have hb := hD.bdall h0
  have hb1 := hD.bdall (l := l + 1) (by omega)
  have hpr := hD.prvle h0 h1
  constructor
  · intro h
    unfold abD at h
    rw [e] at h
    obtain ⟨g, g0, g1, g2⟩ := cnt_none (f := fun g => mtD d g w) hpr.1 hpr.2.1 h
    have hl0 : l ≠ 0 := by
      intro z
      unfold prv at g0
      rw [if_pos z] at g0
      rw [z, hD.2.2.2.2.2.1] at g1
      omega
    have hpe : prv d l = sd d (l - 1) := if_neg hl0
    rw [hpe] at g0
    have hgl : g ≠ sd d l - 1 := by
      intro z
      have := mt_last (w := w) hD (l := l - 1) (by omega) (by omega)
      rw [show l - 1 + 1 = l by omega, ← z] at this
      have g2 : mtD d g w = true := g2
      rw [this] at g2
      exact absurd g2 (by decide)
    have hr := reach_lo hD (l := l - 1) (w := g) (by omega) (by omega) g0 (by rw [show l - 1 + 1 = l by omega]; omega)
    have egl : lnD d g = l - 1 := lnD_eq hD (by omega) (by omega) g0 (by rw [show l - 1 + 1 = l by omega]; omega)
    have hm : gmt (lenD d) (d 1) (d 0) (prv d l) (sd d l) (sd d (l + 1)) g w = true := by
      have g2 : mtD d g w = true := g2
      unfold mtD GC GV at g2
      rw [egl, e, show l - 1 + 1 = l by omega, ← hpe] at g2
      exact g2
    have hge := mx_ge (f := fun g => gmt (lenD d) (d 1) (d 0) (prv d l) (sd d l) (sd d (l + 1)) g w) (r := RN d l.toNat) (a := prv d l) (e := sd d l - 1) (w := g) (by omega) (by omega) hm
    rw [RD_before hD h0 (by omega) (show g < sd d l by omega)] at hr
    rw [RD_line hD h0 h1 (show w < sd d (l + 1) by omega), RN_S d h0]
    unfold rlF
    rw [if_pos ⟨w0, w1⟩]
    omega
  · intro h
    obtain ⟨g, g0, g1, g2⟩ := step_ex hD (b := w) (by omega) (by omega) (by omega)
    rw [e] at g0 g1
    unfold abD
    rw [e]
    exact cnt_some (f := fun g => mtD d g w) hpr.1 g0 g1 g2.1
/-! ===== what lies below is above for the others ===== -/
theorem sumN_add (f g : Int → Int) : ∀ k : Nat, sumN (fun i => f i + g i) k = sumN f k + sumN g k
  | 0 => rfl
  | k + 1 => by
    show sumN (fun i => f i + g i) k + (f k + g k) = (sumN f k + f k) + (sumN g k + g k)
    rw [sumN_add f g k]
    omega
theorem sumN_nul : ∀ k : Nat, sumN (fun _ => 0) k = 0
  | 0 => rfl
  | k + 1 => by
    show sumN (fun _ => 0) k + 0 = 0
    rw [sumN_nul k]
    rfl
theorem sumN_swap (F : Int → Int → Int) (m : Nat) : ∀ n : Nat, sumN (fun q => sumN (fun i => F i q) m) n = sumN (fun i => sumN (fun q => F i q) n) m
  | 0 => (sumN_nul m).symm
  | n + 1 => by
    show sumN (fun q => sumN (fun i => F i q) m) n + sumN (fun i => F i n) m = sumN (fun i => sumN (fun q => F i q) n + F i n) m
    rw [sumN_swap F m n, sumN_add]
theorem cnt_shift (f : Int → Int) {a : Int} (ha : 0 ≤ a) : ∀ k : Nat, cnt f (a + k) = cnt f a + sumN (fun i => f (a + i)) k
  | 0 => by
    rw [show a + ((0 : Nat) : Int) = a by omega]
    show _ = cnt f a + 0
    omega
  | k + 1 => by
    rw [show a + ((k + 1 : Nat) : Int) = a + k + 1 by omega, cnt_s f (by omega), cnt_shift f ha k]
    show _ = cnt f a + (sumN (fun i => f (a + i)) k + f (a + k))
    omega
def mI (d : Int → Int) (g w : Int) : Int := if mtD d g w = true then 1 else 0
theorem mI_comm (d : Int → Int) (g w : Int) : mI d g w = mI d w g := by
  unfold mI mtD
  rw [mtB_comm]
/-- a line's gaps that meet a gap, its last word left out -/
theorem mI_line {d : Int → Int} (hD : DOK d) {l w : Int} (h0 : 0 ≤ l) (h1 : l < d 3) : cnt (fun g => mI d g w) (sd d (l + 1)) - cnt (fun g => mI d g w) (sd d l) = sumN (fun i => mI d (sd d l + i) w) (sd d (l + 1) - sd d l - 1).toNat := by
  have hl := hD.2.2.2.2.2.2 l h0 h1
  have hb := hD.bdall h0
  have h := cnt_shift (fun g => mI d g w) hb.1 ((sd d (l + 1) - sd d l - 1).toNat + 1)
  rw [show sd d l + (((sd d (l + 1) - sd d l - 1).toNat + 1 : Nat) : Int) = sd d (l + 1) by omega] at h
  have e : sumN (fun i => mI d (sd d l + i) w) ((sd d (l + 1) - sd d l - 1).toNat + 1) = sumN (fun i => mI d (sd d l + i) w) (sd d (l + 1) - sd d l - 1).toNat + mI d (sd d l + ((sd d (l + 1) - sd d l - 1).toNat : Int)) w := rfl
  have e0 : mI d (sd d l + ((sd d (l + 1) - sd d l - 1).toNat : Int)) w = 0 := by
    rw [show sd d l + ((sd d (l + 1) - sd d l - 1).toNat : Int) = sd d (l + 1) - 1 by omega]
    unfold mI
    rw [mt_last hD h0 h1]
    rfl
  rw [h, e, e0]
  omega
theorem ab_sum {d : Int → Int} (hD : DOK d) {l q : Int} (h0 : 0 ≤ l) (h1 : l + 1 < d 3) (q0 : 0 ≤ q) (q1 : q < sd d (l + 2) - sd d (l + 1) - 1) : abD d (sd d (l + 1) + q) = sumN (fun i => mI d (sd d l + i) (sd d (l + 1) + q)) (sd d (l + 1) - sd d l - 1).toNat := by
  have e2 : l + 1 + 1 = l + 2 := by omega
  have e := lnD_eq hD (w := sd d (l + 1) + q) (l := l + 1) (by omega) h1 (by omega) (by rw [e2]; omega)
  have hpe : prv d (l + 1) = sd d l := by
    unfold prv
    rw [if_neg (by omega), show l + 1 - 1 = l by omega]
  unfold abD
  rw [e, hpe]
  exact mI_line hD h0 (by omega)
theorem be_sum {d : Int → Int} (hD : DOK d) {l i : Int} (h0 : 0 ≤ l) (h1 : l + 1 < d 3) : beD d l (sd d l + i) = sumN (fun q => mI d (sd d (l + 1) + q) (sd d l + i)) (sd d (l + 2) - sd d (l + 1) - 1).toNat := by
  have e2 : l + 1 + 1 = l + 2 := by omega
  have h := mI_line hD (l := l + 1) (w := sd d l + i) (by omega) h1
  rw [e2] at h
  exact h
theorem above_below {d : Int → Int} (hD : DOK d) {l : Int} (h0 : 0 ≤ l) (h1 : l + 1 < d 3) : cnt (fun q => abD d (sd d (l + 1) + q)) (sd d (l + 2) - sd d (l + 1) - 1) = cnt (fun q => beD d l (sd d l + q)) (sd d (l + 1) - sd d l - 1) := by
  have a1 : cnt (fun q => abD d (sd d (l + 1) + q)) (sd d (l + 2) - sd d (l + 1) - 1) = sumN (fun q => sumN (fun i => mI d (sd d l + i) (sd d (l + 1) + q)) (sd d (l + 1) - sd d l - 1).toNat) (sd d (l + 2) - sd d (l + 1) - 1).toNat :=
    sumN_congr _ (fun q q0 q1 => ab_sum hD h0 h1 q0 (by omega))
  have a2 : cnt (fun q => beD d l (sd d l + q)) (sd d (l + 1) - sd d l - 1) = sumN (fun i => sumN (fun q => mI d (sd d l + i) (sd d (l + 1) + q)) (sd d (l + 2) - sd d (l + 1) - 1).toNat) (sd d (l + 1) - sd d l - 1).toNat :=
    sumN_congr _ (fun i i0 i1 => by
      show beD d l (sd d l + i) = sumN (fun q => mI d (sd d l + i) (sd d (l + 1) + q)) (sd d (l + 2) - sd d (l + 1) - 1).toNat
      rw [be_sum hD h0 h1]
      exact sumN_congr _ (fun q _ _ => mI_comm d _ _))
  rw [a1, a2]
  exact sumN_swap (fun i q => mI d (sd d l + i) (sd d (l + 1) + q)) _ _
theorem below_last {d : Int → Int} {l : Int} (h1 : l + 1 = d 3) (n : Int) : cnt (fun q => beD d l (sd d l + q)) n = 0 := by
  have e : ∀ q, beD d l q = 0 := fun q => by
    unfold beD
    rw [sd_L (show d 3 ≤ l + 2 by omega), sd_L (show d 3 ≤ l + 1 by omega)]
    omega
  have e2 : (fun q => beD d l (sd d l + q)) = fun _ => 0 := funext (fun q => e _)
  rw [e2]
  exact sumN_nul _
theorem below_bd {d : Int → Int} (hD : DOK d) {l w : Int} (h0 : 0 ≤ l) : 0 ≤ beD d l w ∧ beD d l w ≤ 24 := by
  have hb := hD.bdall (l := l + 1) (by omega)
  have hb2 := hD.bdall (l := l + 2) (by omega)
  have hn := hD.1
  have hle : sd d (l + 1) ≤ sd d (l + 2) := by
    by_cases z : l + 1 < d 3
    · have := (hD.2.2.2.2.2.2 (l + 1) (by omega) z).1
      rw [show l + 1 + 1 = l + 2 by omega] at this
      omega
    · rw [sd_L (show d 3 ≤ l + 2 by omega), sd_L (show d 3 ≤ l + 1 by omega)]
      omega
  have := cnt_ind (f := fun g => mtD d g w) (a := sd d (l + 1)) (b := sd d (l + 2)) (by omega) hle
  unfold beD
  omega
