/-! ===== the reference's search: its stack, and what it still has to do ===== -/
def pvQ (Q : Int → Int) (k : Int) : Int := if k = 0 then 0 else Q (k - 1)
def RSN (d Q : Int → Int) : Nat → Int → Int
  | 0 => fun _ => 0
  | k + 1 => rlF (lenD d) (d 1) (d 0) (pvQ Q k) (Q k) (Q ((k : Int) + 1)) (RSN d Q k)
def QFN (Q : Int → Int) (k : Int) : Int → Int := fun x => if 1 ≤ x ∧ x ≤ k then Q x else 0
noncomputable def TOPF (d : Int → Int) (D : Int) (Q C H B R : Int → Int) (k : Nat) (b : Bst) : Bst :=
  if d 0 ≤ Q k then (if H k * 100000 + B k < b.1 then (H k * 100000 + B k, (k : Int), R k, QFN Q k) else b)
  else foldN (stepF d D (24 - k) (pvQ Q k) (Q k) (RSN d Q k) (H k * 100000 + B k) (R k) k (QFN Q k)) (Q k) (C k).toNat b
noncomputable def KF (d : Int → Int) (D : Int) (Q C H B R : Int → Int) : Nat → Bst → Bst
  | 0 => fun b => b
  | k + 1 => fun b => KF d D Q C H B R k (TOPF d D Q C H B R k b)
theorem pvQ_congr {Q Q' : Int → Int} {k : Nat} (h : ∀ x : Int, 0 ≤ x → x ≤ k → Q x = Q' x) : pvQ Q k = pvQ Q' k := by
  unfold pvQ
  by_cases z : (k : Int) = 0
  · rw [if_pos z, if_pos z]
  · rw [if_neg z, if_neg z]; exact h _ (by omega) (by omega)
theorem RSN_congr {d Q Q' : Int → Int} : ∀ (k : Nat), (∀ x : Int, 0 ≤ x → x ≤ k → Q x = Q' x) → RSN d Q k = RSN d Q' k
  | 0, _ => rfl
  | k + 1, h => by
    show rlF _ _ _ (pvQ Q k) (Q k) (Q ((k : Int) + 1)) (RSN d Q k) = rlF _ _ _ (pvQ Q' k) (Q' k) (Q' ((k : Int) + 1)) (RSN d Q' k)
    rw [RSN_congr k (fun x a b => h x a (by omega)), pvQ_congr (k := k) (fun x a b => h x a (by omega)), h k (by omega) (by omega), h ((k : Int) + 1) (by omega) (by omega)]
theorem QFN_congr {Q Q' : Int → Int} {k : Nat} (h : ∀ x : Int, 0 ≤ x → x ≤ k → Q x = Q' x) : QFN Q k = QFN Q' k := by
  funext x
  unfold QFN
  by_cases z : 1 ≤ x ∧ x ≤ (k : Int)
  · rw [if_pos z, if_pos z]; exact h x (by omega) z.2
  · rw [if_neg z, if_neg z]
def AgT (k : Int) (Q C H B R Q' C' H' B' R' : Int → Int) : Prop := ∀ x : Int, 0 ≤ x → x < k → Q x = Q' x ∧ C x = C' x ∧ H x = H' x ∧ B x = B' x ∧ R x = R' x
theorem TOPF_congr {d : Int → Int} {D : Int} {Q C H B R Q' C' H' B' R' : Int → Int} {k : Nat} (h : AgT ((k : Int) + 1) Q C H B R Q' C' H' B' R') (b : Bst) : TOPF d D Q C H B R k b = TOPF d D Q' C' H' B' R' k b := by
  have hQ : ∀ x : Int, 0 ≤ x → x ≤ k → Q x = Q' x := fun x a c => (h x a (by omega)).1
  have hk := h k (by omega) (by omega)
  unfold TOPF
  rw [RSN_congr k hQ, pvQ_congr (k := k) hQ, QFN_congr (k := k) hQ, hk.1, hk.2.1, hk.2.2.1, hk.2.2.2.1, hk.2.2.2.2]
theorem KF_congr {d : Int → Int} {D : Int} {Q C H B R Q' C' H' B' R' : Int → Int} : ∀ (k : Nat) (b : Bst), AgT (k : Int) Q C H B R Q' C' H' B' R' → KF d D Q C H B R k b = KF d D Q' C' H' B' R' k b
  | 0, _, _ => rfl
  | k + 1, b, h => by
    show KF d D Q C H B R k (TOPF d D Q C H B R k b) = KF d D Q' C' H' B' R' k (TOPF d D Q' C' H' B' R' k b)
    rw [TOPF_congr (k := k) (fun x a c => h x a (by omega)), KF_congr k _ (fun x a c => h x a (by omega))]
theorem foldN_trim {f : Int → Bst → Bst} {i : Int} {c : Nat} : ∀ (m : Nat) (b : Bst), c ≤ m → (∀ (j : Int) (b : Bst), i + c < j → j ≤ i + m → f j b = b) → foldN f i m b = foldN f i c b
  | 0, b, h, _ => by rw [show c = 0 by omega]
  | m + 1, b, h, hf => by
    by_cases e : c = m + 1
    · rw [e]
    · show foldN f i m (f (i + m + 1) b) = _
      rw [hf (i + m + 1) b (by omega) (by omega)]
      exact foldN_trim m b (by omega) (fun j b a c => hf j b a (by omega))
theorem okB_no {d : Int → Int} {i j : Int} (h : exD d i j < 0) : ¬ okB d i j = true := fun z => by
  have := (okB_iff.mp z).1
  omega
theorem step_no {d : Int → Int} {D : Int} {t : Nat} {p i : Int} {r : Int → Int} {pr rv m : Int} {Q : Int → Int} {j : Int} {b : Bst} (h : ¬ okB d i j = true) : stepF d D t p i r pr rv m Q j b = b := if_neg (fun z => h z.1)
theorem TOPF_fresh {d : Int → Int} (hD : DOK d) {D : Int} {Q C H B R : Int → Int} {k : Nat} (hk : k ≤ 24) (h0 : 0 ≤ Q k) (h1 : Q k ≤ d 0) (hC : MfP d (Q k) (C k)) (b : Bst) : srF d D (25 - k) (pvQ Q k) (Q k) (RSN d Q k) (H k * 100000 + B k) (R k) k (QFN Q k) b = TOPF d D Q C H B R k b := by
  rw [show 25 - k = (24 - k) + 1 by omega]
  by_cases hl : d 0 ≤ Q k
  · show (if d 0 ≤ Q k then _ else _ : Bst) = _
    unfold TOPF
    rw [if_pos hl, if_pos hl]
  · rw [srF_S (by omega)]
    unfold TOPF
    rw [if_neg hl]
    refine foldN_trim _ b (by have := hC.2.1; have := hC.1; omega) (fun j b a c => step_no (okB_no ?_))
    rcases hC.2.2.2 with z | z
    · have := hC.1; omega
    · have c0 := hC.1
      have := exF_anti (L := lenD d) (W := d 1) (f := Q k) (t := Q k + C k + 1) (u := j) (by omega) (by omega) (fun w a b => by have := hD.2.2.2.2.1 w (by omega) (by omega); unfold lenD; omega)
      unfold exD at z ⊢
      omega
theorem TOPF_step {d : Int → Int} {D : Int} {Q C H B R : Int → Int} {k : Nat} (h1 : Q k < d 0) (hC : 0 < C k) (b : Bst) : TOPF d D Q C H B R k b = TOPF d D Q (dset C k (C k - 1)) H B R k (stepF d D (24 - k) (pvQ Q k) (Q k) (RSN d Q k) (H k * 100000 + B k) (R k) k (QFN Q k) (Q k + C k) b) := by
  unfold TOPF
  rw [if_neg (by omega), if_neg (by omega), dset_at, show (C k).toNat = (C k - 1).toNat + 1 by omega]
  show foldN _ _ (C k - 1).toNat (stepF _ _ _ _ _ _ _ _ _ _ (Q k + ((C k - 1).toNat : Int) + 1) b) = _
  rw [show Q k + ((C k - 1).toNat : Int) + 1 = Q k + C k by omega]
/-! its measure -/
def VV (n q c : Int) : Nat := 1 + 2 ^ (n - q + 1).toNat - 2 ^ (n - q - c + 1).toNat
def VS (n : Int) (Q C : Int → Int) : Nat → Nat
  | 0 => 0
  | k + 1 => VS n Q C k + VV n (Q k) (C k)
theorem VS_congr {n : Int} {Q C Q' C' : Int → Int} : ∀ (k : Nat), (∀ x : Int, 0 ≤ x → x < k → Q x = Q' x ∧ C x = C' x) → VS n Q C k = VS n Q' C' k
  | 0, _ => rfl
  | k + 1, h => by
    show VS n Q C k + VV n (Q k) (C k) = VS n Q' C' k + VV n (Q' k) (C' k)
    rw [VS_congr k (fun x a b => h x a (by omega)), (h k (by omega) (by omega)).1, (h k (by omega) (by omega)).2]
theorem VV_pos {n q c : Int} (h0 : 0 ≤ c) : 1 ≤ VV n q c := by
  have : 2 ^ (n - q - c + 1).toNat ≤ 2 ^ (n - q + 1).toNat := Nat.pow_le_pow_right (by decide) (by omega)
  unfold VV
  omega
theorem VV_dec {n q c : Int} (h0 : 0 < c) (h1 : q + c ≤ n) : VV n q c = VV n q (c - 1) + 2 ^ (n - (q + c) + 1).toNat := by
  have a1 : 2 ^ (n - q - (c - 1) + 1).toNat ≤ 2 ^ (n - q + 1).toNat := Nat.pow_le_pow_right (by decide) (by omega)
  have e : (n - q - (c - 1) + 1).toNat = (n - q - c + 1).toNat + 1 := by omega
  have e2 : 2 ^ (n - q - (c - 1) + 1).toNat = 2 ^ (n - q - c + 1).toNat * 2 := by rw [e, Nat.pow_succ]
  unfold VV
  rw [show n - (q + c) + 1 = n - q - c + 1 by omega]
  omega
theorem VV_fresh {n q c : Int} (h0 : 0 ≤ c) (h1 : q + c ≤ n) : VV n q c < 2 ^ (n - q + 1).toNat := by
  have : 2 ^ 1 ≤ 2 ^ (n - q - c + 1).toNat := Nat.pow_le_pow_right (by decide) (by omega)
  have : 0 < 2 ^ (n - q + 1).toNat := Nat.pow_pos (by decide)
  unfold VV
  omega
def VM (n : Int) (N : Mem) (dep : Int) : Nat := VS n (N 90) (N 91) (dep + 1).toNat
theorem VM_pop {n : Int} {N N' : Mem} {dep : Int} (h0 : 0 ≤ dep) (hc : 0 ≤ N 91 dep) (e0 : N' 90 = N 90) (e1 : N' 91 = N 91) : VM n N' (dep - 1) < VM n N dep := by
  unfold VM
  rw [e0, e1, show (dep - 1 + 1).toNat = dep.toNat by omega, show (dep + 1).toNat = dep.toNat + 1 by omega]
  show _ < VS n (N 90) (N 91) dep.toNat + VV n (N 90 (dep.toNat : Int)) (N 91 (dep.toNat : Int))
  rw [Int.toNat_of_nonneg h0]
  have := VV_pos (n := n) (q := N 90 dep) hc
  omega
theorem VM_dec {n : Int} {N N' : Mem} {dep : Int} (h0 : 0 ≤ dep) (hc : 0 < N 91 dep) (hn : N 90 dep + N 91 dep ≤ n) (e0 : N' 90 = N 90) (e1 : N' 91 = dset (N 91) dep (N 91 dep - 1)) : VM n N' dep + 2 ^ (n - (N 90 dep + N 91 dep) + 1).toNat = VM n N dep := by
  unfold VM
  rw [e0, e1, show (dep + 1).toNat = dep.toNat + 1 by omega]
  show VS n (N 90) (dset (N 91) dep (N 91 dep - 1)) dep.toNat + VV n (N 90 (dep.toNat : Int)) (dset (N 91) dep (N 91 dep - 1) (dep.toNat : Int)) + _ = VS n (N 90) (N 91) dep.toNat + VV n (N 90 (dep.toNat : Int)) (N 91 (dep.toNat : Int))
  rw [Int.toNat_of_nonneg h0, dset_at, VS_congr (Q' := N 90) (C' := N 91) dep.toNat (fun x a b => ⟨rfl, dset_ne (by omega)⟩), VV_dec hc hn]
  omega
theorem VM_less {n : Int} {N N' : Mem} {dep : Int} (h0 : 0 ≤ dep) (hc : 0 < N 91 dep) (hn : N 90 dep + N 91 dep ≤ n) (e0 : N' 90 = N 90) (e1 : N' 91 = dset (N 91) dep (N 91 dep - 1)) : VM n N' dep < VM n N dep := by
  have h := VM_dec h0 hc hn e0 e1
  have : 0 < 2 ^ (n - (N 90 dep + N 91 dep) + 1).toNat := Nat.pow_pos (by decide)
  omega
theorem VM_push {n : Int} {N N1 N' : Mem} {dep j x : Int} (h0 : 0 ≤ dep) (hc : 0 < N 91 dep) (hn : N 90 dep + N 91 dep ≤ n) (hj : j = N 90 dep + N 91 dep) (e0 : N1 90 = N 90) (e1 : N1 91 = dset (N 91) dep (N 91 dep - 1)) (f0 : N' 90 = dset (N1 90) (dep + 1) j) (f1 : N' 91 = dset (N1 91) (dep + 1) x) (hx : 0 ≤ x) (hxn : j + x ≤ n) : VM n N' (dep + 1) < VM n N dep := by
  have h := VM_dec h0 hc hn e0 e1
  have h2 := VV_fresh (n := n) (q := j) (c := x) hx hxn
  rw [← hj] at h
  have h3 : VM n N' (dep + 1) = VM n N1 dep + VV n j x := by
    unfold VM
    rw [f0, f1, show (dep + 1 + 1).toNat = (dep + 1).toNat + 1 by omega]
    show VS n (dset (N1 90) (dep + 1) j) (dset (N1 91) (dep + 1) x) (dep + 1).toNat + VV n (dset (N1 90) (dep + 1) j ((dep + 1).toNat : Int)) (dset (N1 91) (dep + 1) x ((dep + 1).toNat : Int)) = _
    rw [Int.toNat_of_nonneg (show 0 ≤ dep + 1 by omega), dset_at, dset_at, VS_congr (Q' := N1 90) (C' := N1 91) (dep + 1).toNat (fun y a b => ⟨dset_ne (by omega), dset_ne (by omega)⟩)]
  omega
