/-! ===== the memory behind the constructors ===== -/
def pgI (j : Int) : Int := if j = 0 then 24 else if j = 1 then 6 else 0
def dI0 (j : Int) : Int := if j = 1 then 24 else if j = 2 then 6 else 0
def M0 : Mem := fun c => match c with
  | 1 => pgI
  | 9 => fun j => 10 + 7 * j
  | 10 => pgI
  | 17 => pgI
  | 24 => pgI
  | 31 => pgI
  | 38 => pgI
  | 55 => pgI
  | 54 => fun j => if j = 2 then 1000000000 else 0
  | 83 => dI0
  | _ => fun _ => 0
theorem M0_inv : CRel M0 M0 := by
  have e0 : dI0 0 = 0 := by decide
  have e1 : dI0 1 = 24 := by decide
  have e2 : dI0 2 = 6 := by decide
  have e3 : dI0 3 = 0 := by decide
  have hsd : ∀ l, 0 ≤ l → sd dI0 l = 0 := fun l h => by unfold sd; rw [e3, if_neg (by omega), e0]
  have hD : DOK dI0 := by
    refine ⟨by rw [e0]; decide, by rw [e1]; decide, by rw [e2]; decide, by rw [e3]; decide, fun w a b => by rw [e0] at b; omega, hsd 0 (by decide), fun l a b => by rw [e3] at b; omega⟩
  have hR : PRel M0 1 dI0 := by
    refine ⟨e1.symm, e2.symm, e0.symm, ?_, fun w a b => ⟨Int.le_refl _, by show (0 : Int) ≤ 8; decide⟩, fun w a b => by rw [e0] at b; omega, fun l a b => by rw [e3] at b; omega, fun w a b _ => rfl, fun w a b => rfl⟩
    rw [e0, e3]
    exact ⟨Int.le_refl _, hsd 0 (by decide), hsd 0 (by decide), fun l a b => by omega⟩
  refine ⟨hR, hD, ⟨Int.le_refl _, by show (0 : Int) ≤ 5; decide, rfl, ?_, ?_, fun k a b => ?_⟩, ⟨Int.le_refl _, by show (0 : Int) ≤ 100; decide, rfl, fun j a b => rfl, fun j a b => ⟨Int.le_refl _, by show (0 : Int) ≤ 126; decide⟩, fun j a b => ⟨Int.le_refl _, by show (0 : Int) ≤ 126; decide⟩⟩, Or.inl rfl, ?_, ?_⟩
  · intro i a b
    refine ⟨i.toNat, by omega, ?_⟩
    show 10 + 7 * i = _
    omega
  · intro i j a b c d h
    have h : 10 + 7 * i = 10 + 7 * j := h
    omega
  · have b : k < 0 := b
    omega
  · intro w a b
    exact ⟨⟨Int.le_refl _, by show (0 : Int) ≤ 2000; decide⟩, ⟨Int.le_refl _, by show (0 : Int) ≤ 2000; decide⟩⟩
  · intro w a b
    exact ⟨⟨Int.le_refl _, by show (0 : Int) ≤ 2000; decide⟩, ⟨Int.le_refl _, by show (0 : Int) ≤ 2000; decide⟩⟩
/-! ===== the constructors' world is that memory's ===== -/
def wlF (X : Cx) (M : Mem) : Nat → List Sh → va_W
  | _, [] => []
  | c, q :: r => (X.1 c, ent X M c q) :: wlF X M (c + 1) r
theorem wlF_get (X : Cx) (M : Mem) : ∀ (l : List Sh) (c k : Nat), (wlF X M c l)[k]? = (l[k]?).map (fun q => (X.1 (c + k), ent X M (c + k) q))
  | [], c, k => by simp [wlF]
  | q :: r, c, 0 => by simp [wlF]
  | q :: r, c, k + 1 => by
    show (wlF X M (c + 1) r)[k]? = _
    rw [wlF_get X M r (c + 1) k, show c + 1 + k = c + (k + 1) by omega]
    rfl
theorem wl_wlF (X : Cx) (M : Mem) : wl X M = wlF X M 0 shs := by
  apply List.ext_getElem?
  intro k
  rw [wlF_get, wl, List.getElem?_mapIdx, Nat.zero_add]
theorem vp_cons {D : va_G} {cl : List vw_C} {x : Nat × va_E} {ws : va_W} {H : Heap} (h : va_at D cl x H) (hs : va_P D cl ws H) : va_P D cl (x :: ws) H := by
  intro k q hk
  match k with
  | 0 => cases hk; exact h
  | k + 1 => exact hs k q hk
theorem vp_nil {D : va_G} {cl : List vw_C} {H : Heap} : va_P D cl [] H := fun k q hk => by simp at hk
/-- an array's cell says nothing of places outside of it -/
theorem arrV_ext (cA : ClassId) {n : Nat} {f g : Nat → Value} (h : ∀ j, j < n → f j = g j) : arrV cA n f = arrV cA n g := by
  unfold arrV
  congr 2
  funext j
  exact h j.val j.isLt
theorem at_pages {D : va_G} {cl : List vw_C} {a : Nat} {cA : ClassId} {n : Nat} {f g : Nat → Option Nat} {H : Heap} (h : va_at D cl (a, .inl (cA, n, .inr (.inr (.inr (.inr f))))) H) (he : ∀ j, j < n → f j = g j) : va_at D cl (a, .inl (cA, n, .inr (.inr (.inr (.inr g))))) H := by
  have h1 : H[a]? = some (vp_cell cA (n, .inr (.inr (.inr (.inr f))))) := h
  show H[a]? = some (vp_cell cA (n, .inr (.inr (.inr (.inr g)))))
  rw [h1, vp_cell_q, vp_cell_q, arrV_ext cA (fun j hj => by rw [he j hj])]
theorem at_ints {D : va_G} {cl : List vw_C} {a : Nat} {cA : ClassId} {n : Nat} {f g : Nat → Int32} {H : Heap} (h : va_at D cl (a, .inl (cA, n, .inl f)) H) (he : ∀ j, j < n → f j = g j) : va_at D cl (a, .inl (cA, n, .inl g)) H := by
  have h1 : H[a]? = some (vp_cell cA (n, .inl f)) := h
  show H[a]? = some (vp_cell cA (n, .inl g))
  rw [h1, vp_cell_i, vp_cell_i, arrV_ext cA (fun j hj => by rw [he j hj])]
/-- the context whose addresses are those of a list of cells -/
def XW (X : Cx) (ws : va_W) : Cx := (fun c => (ws.map Prod.fst).getD c 0, X.2)
theorem XW_at {X : Cx} {ws : va_W} {k : Nat} {q : Nat × va_E} (h : ws[k]? = some q) : (XW X ws).1 k = q.1 := by
  show (ws.map Prod.fst).getD k 0 = q.1
  rw [List.getD_eq_getElem?_getD, List.getElem?_map, h]
  rfl
theorem XW_in {X : Cx} {ws : va_W} (hlen : ws.length = 82) {c : Nat} (hc : c < 82) : ∃ q, ws[c]? = some q ∧ (XW X ws).1 c = q.1 := by
  have h : ws[c]? = some ws[c] := List.getElem?_eq_getElem (by omega)
  exact ⟨_, h, XW_at h⟩
theorem XW_inj {X : Cx} {ws : va_W} {A : Nat → Prop} (hlen : ws.length = 82) (hD : va_D A ws) : Inj (XW X ws) := by
  intro i j hi hj h
  obtain ⟨p, hp, ep⟩ := XW_in (X := X) hlen hi
  obtain ⟨q, hq, eq⟩ := XW_in (X := X) hlen hj
  exact hD.1 i j p q hp hq (by rw [← ep, ← eq, h])
theorem XW_A {X : Cx} {ws : va_W} {A : Nat → Prop} (hlen : ws.length = 82) (hD : va_D A ws) {c : Nat} (hc : c < 82) : A ((XW X ws).1 c) := by
  obtain ⟨p, hp, ep⟩ := XW_in (X := X) hlen hc
  rw [ep]
  exact hD.2 c p hp
