/-! ===== one memory for all cells, and the judgement J over it ===== -/
abbrev vwCl : List vw_C := [(RX0, TX0, 2), (RX1, TX1, 6), (RX2, TX2, 1), (RX3, TX3, 10), (RX4, TX4, 4), (RX5, TX5, 2), (RX6, TX6, 5)]
abbrev Mem : Type := Nat → Int → Int
abbrev Sh : Type := Nat × Nat × List (Option Nat)
/-- addresses; classes; slots; the classes of the arrays of int, of char, of pages -/
abbrev Cx : Type := (Nat → Nat) × (Nat → ClassId) × (Nat → Nat → Nat) × ClassId × ClassId × ClassId
def shs : List Sh := [
  (9, 0, [some 1, some 8, some 45, some 54, some 79]),
  (4, 0, [none, none, none, some 2, some 4, some 6]),
  (5, 0, [some 3]),
  (0, 24, []),
  (5, 0, [some 5]),
  (0, 24, []),
  (5, 0, [some 7]),
  (0, 24, []),
  (3, 0, [none, some 9]),
  (2, 5, []),
  (4, 0, [none, none, none, some 11, some 13, some 15]),
  (5, 0, [some 12]),
  (0, 24, []),
  (5, 0, [some 14]),
  (0, 24, []),
  (5, 0, [some 16]),
  (0, 24, []),
  (4, 0, [none, none, none, some 18, some 20, some 22]),
  (5, 0, [some 19]),
  (0, 24, []),
  (5, 0, [some 21]),
  (0, 24, []),
  (5, 0, [some 23]),
  (0, 24, []),
  (4, 0, [none, none, none, some 25, some 27, some 29]),
  (5, 0, [some 26]),
  (0, 24, []),
  (5, 0, [some 28]),
  (0, 24, []),
  (5, 0, [some 30]),
  (0, 24, []),
  (4, 0, [none, none, none, some 32, some 34, some 36]),
  (5, 0, [some 33]),
  (0, 24, []),
  (5, 0, [some 35]),
  (0, 24, []),
  (5, 0, [some 37]),
  (0, 24, []),
  (4, 0, [none, none, none, some 39, some 41, some 43]),
  (5, 0, [some 40]),
  (0, 24, []),
  (5, 0, [some 42]),
  (0, 24, []),
  (5, 0, [some 44]),
  (0, 24, []),
  (7, 0, [some 46, some 48, some 50, some 52]),
  (5, 0, [some 47]),
  (0, 24, []),
  (5, 0, [some 49]),
  (0, 24, []),
  (5, 0, [some 51]),
  (0, 24, []),
  (5, 0, [some 53]),
  (0, 24, []),
  (6, 0, [none, none, none, none, some 55, some 62, some 71, some 73, some 75, some 77]),
  (4, 0, [none, none, none, some 56, some 58, some 60]),
  (5, 0, [some 57]),
  (0, 24, []),
  (5, 0, [some 59]),
  (0, 24, []),
  (5, 0, [some 61]),
  (0, 24, []),
  (7, 0, [some 63, some 65, some 67, some 69]),
  (5, 0, [some 64]),
  (0, 24, []),
  (5, 0, [some 66]),
  (0, 24, []),
  (5, 0, [some 68]),
  (0, 24, []),
  (5, 0, [some 70]),
  (0, 24, []),
  (5, 0, [some 72]),
  (0, 576, []),
  (5, 0, [some 74]),
  (0, 25, []),
  (5, 0, [some 76]),
  (0, 24, []),
  (5, 0, [some 78]),
  (0, 24, []),
  (8, 0, [none, some 80]),
  (5, 0, [some 81]),
  (0, 100, [])
  ]
theorem shs_len : shs.length = 82 := rfl
def oI (z : Int) : Int32 := Int32.ofInt z
def vI (z : Int) : Value := .int (oI z)
def vR (X : Cx) (c : Nat) : Value := .ref (X.1 c)
def fv1 (X : Cx) (M : Mem) (c : Nat) (i : Nat) (o : Option Nat) : Value := match o with
  | none => vI (M c i)
  | some d => vR X d
def fvs (X : Cx) (M : Mem) (c : Nat) (fs : List (Option Nat)) : List Value := fs.mapIdx (fv1 X M c)
def ent (X : Cx) (M : Mem) (c : Nat) (q : Sh) : va_E := match q with
  | (0, n, _) => .inl (X.2.2.2.1, n, .inl (fun j => oI (M c j)))
  | (1, n, _) => .inl (X.2.2.2.2.1, n, .inl (fun j => oI (M c j)))
  | (2, n, _) => .inl (X.2.2.2.2.2, n, .inr (.inr (.inr (.inr (fun j => some (X.1 (M c j).toNat))))))
  | (k + 3, _, fs) => .inr (k, fvs X M c fs)
def wl (X : Cx) (M : Mem) : va_W := shs.mapIdx (fun c q => (X.1 c, ent X M c q))
def mset (M : Mem) (c : Nat) (i v : Int) : Mem := fun c' j => if c' = c ∧ j = i then v else M c' j
theorem wl_at {X : Cx} {M : Mem} {c : Nat} {q : Sh} (h : shs[c]? = some q) : (wl X M)[c]? = some (X.1 c, ent X M c q) := by
  rw [wl, List.getElem?_mapIdx, h]; rfl
theorem wl_none {X : Cx} {M : Mem} {c : Nat} (h : shs[c]? = none) : (wl X M)[c]? = none := by
  rw [wl, List.getElem?_mapIdx, h]; rfl
theorem wl_of {X : Cx} {M : Mem} {c : Nat} {e : Nat × va_E} (h : (wl X M)[c]? = some e) : ∃ q, shs[c]? = some q ∧ e = (X.1 c, ent X M c q) := by
  rw [wl, List.getElem?_mapIdx] at h
  cases hs : shs[c]? with
  | none => rw [hs] at h; cases h
  | some q => rw [hs] at h; exact ⟨q, rfl, (Option.some.inj h).symm⟩
theorem ent_congr {X : Cx} {M M' : Mem} {c : Nat} (h : ∀ j : Int, M c j = M' c j) (q : Sh) : ent X M c q = ent X M' c q := by
  have hM : M c = M' c := funext h
  have hf : ∀ fs, fvs X M c fs = fvs X M' c fs := by
    intro fs
    have hg : fv1 X M c = fv1 X M' c := by
      funext i o
      cases o with
      | none => show vI (M c i) = vI (M' c i); rw [hM]
      | some d => rfl
    show fs.mapIdx _ = fs.mapIdx _
    rw [hg]
  obtain ⟨k, n, fs⟩ := q
  match k with
  | 0 => simp only [ent, hM]
  | 1 => simp only [ent, hM]
  | 2 => simp only [ent, hM]
  | k + 3 => simp only [ent, hf]
theorem mset_ne {M : Mem} {c d : Nat} {i v : Int} (h : d ≠ c) (j : Int) : mset M c i v d j = M d j := if_neg (fun z => h z.1)
theorem mset_at {M : Mem} {c : Nat} {i v : Int} : mset M c i v c i = v := if_pos ⟨rfl, rfl⟩
theorem mset_ne2 {M : Mem} {c : Nat} {i v j : Int} (h : j ≠ i) : mset M c i v c j = M c j := if_neg (fun z => h z.2)
theorem wl_set {X : Cx} {M : Mem} {c : Nat} {i v : Int} {q : Sh} {e : va_E} (hc : shs[c]? = some q) (he : ent X (mset M c i v) c q = e) : (wl X M).set c (X.1 c, e) = wl X (mset M c i v) := by
  apply List.ext_getElem?
  intro k
  have hl : c < (wl X M).length := (List.getElem?_eq_some_iff.mp (wl_at (X := X) (M := M) hc)).1
  by_cases hk : k = c
  · subst hk
    rw [List.getElem?_set_self hl, wl_at hc, he]
  · rw [List.getElem?_set_ne (Ne.symm hk)]
    cases hs : shs[k]? with
    | none => rw [wl_none hs, wl_none hs]
    | some q2 => rw [wl_at hs, wl_at hs, ent_congr (fun j => (mset_ne hk j).symm)]
theorem fvs_at {X : Cx} {M : Mem} {c k : Nat} {fs : List (Option Nat)} {o : Option Nat} (h : fs[k]? = some o) : (fvs X M c fs)[k]? = some (fv1 X M c k o) := by
  rw [fvs, List.getElem?_mapIdx, h]; rfl
theorem fvs_set {X : Cx} {M : Mem} {c k : Nat} {v : Int} {fs : List (Option Nat)} (h : fs[k]? = some none) : fvs X (mset M c k v) c fs = (fvs X M c fs).set k (vI v) := by
  apply List.ext_getElem?
  intro j
  have hl : k < (fvs X M c fs).length := (List.getElem?_eq_some_iff.mp (fvs_at (X := X) (M := M) (c := c) h)).1
  by_cases hj : j = k
  · subst hj
    rw [List.getElem?_set_self hl, fvs_at h]
    show some (vI (mset M c j v c j)) = _
    rw [mset_at]
  · rw [List.getElem?_set_ne (Ne.symm hj)]
    cases ho : fs[j]? with
    | none => rw [fvs, fvs, List.getElem?_mapIdx, List.getElem?_mapIdx, ho]; rfl
    | some o =>
      rw [fvs_at ho, fvs_at ho]
      cases o with
      | none =>
        show some (vI (mset M c k v c j)) = some (vI (M c j))
        rw [mset_ne2 (by omega)]
      | some d => rfl
def Inj (X : Cx) : Prop := ∀ i j : Nat, i < 82 → j < 82 → X.1 i = X.1 j → i = j
def Aw (X : Cx) : Nat → Prop := fun q => ∃ c, c < 82 ∧ q = X.1 c
theorem shs_lt {c : Nat} {q : Sh} (h : shs[c]? = some q) : c < 82 := (List.getElem?_eq_some_iff.mp h).1
theorem wl_D {X : Cx} (h : Inj X) (M : Mem) : va_D (Aw X) (wl X M) := by
  refine ⟨fun i j x y hi hj hxy => ?_, fun k q hk => ?_⟩
  · obtain ⟨a, h1, rfl⟩ := wl_of hi
    obtain ⟨b, h2, rfl⟩ := wl_of hj
    exact h i j (shs_lt h1) (shs_lt h2) hxy
  · obtain ⟨a, h1, rfl⟩ := wl_of hk
    exact ⟨k, shs_lt h1, rfl⟩
def tyl (X : Cx) : List (ClassId × FieldType) := [(X.2.2.2.1, .int), (X.2.2.2.2.1, .int), (X.2.2.2.2.2, .object "WhiteRivers$Page")]
/-- the world at a memory -/
def Wd (X : Cx) (M : Mem) (H : Heap) : Prop := va_P (X.2.1, X.2.2.1) vwCl (wl X M) H
def KK (X : Cx) (s : State) : Prop := va_K (X.2.1, X.2.2.1) vwCl (tyl X) s
/-- what stays the same through a method: the machine, its code, its words, the tables -/
def Fx (p : Program) (s : State) (m : MethodId) (args : Array Value) (c : Code) (cc : ByteArray) (own : String) (Ts : List Cond) (nL : Nat) (X : Cx) : Prop := p.tables.exec = Jvm.exec ∧ c.code = cc ∧ c.maxLocals = nL ∧ s.vm.findClass own = some m.cls ∧ (∀ w ∈ Ts, w.before args s = true) ∧ KK X s ∧ Inj X
def rm (k : Nat) : Room := { frames := k, cells := 0, slots := 0, locals := 40 * k }
def J (p : Program) (l : Launch) (e : Env) (R : Room) (s : State) (m : MethodId) (args : Array Value) (below : List Frame) (meth : Method) (c : Code) (cells slots : Nat) (Q : State → Prop) (H0 : Heap) (X : Cx) (nL : Nat) (M : Mem) (pc : Nat) (lv : List (Nat × Value)) (st : List Value) : Prop :=
  ∀ (H : Heap) (locs : List Loc) (ls : Array Slot), Wd X M H → va_S (Aw X) H0 H locs → lv_has ls nL lv → W p l e R s m args below meth c H locs cells slots Q (F0 m pc ls st)
def lvset : List (Nat × Value) → Nat → Value → List (Nat × Value)
  | [], i, v => [(i, v)]
  | (j, w) :: r, i, v => if j = i then (i, v) :: r.filter (fun q => !(q.1 == i)) else (j, w) :: lvset r i v
theorem lvset_mem : ∀ (lv : List (Nat × Value)) (i : Nat) (v : Value) (q : Nat × Value), q ∈ lvset lv i v → q = (i, v) ∨ (q ∈ lv ∧ q.1 ≠ i)
  | [], i, v, q, h => by
    left; simpa [lvset] using h
  | (j, w) :: r, i, v, q, h => by
    unfold lvset at h
    split at h
    · rcases List.mem_cons.mp h with h | h
      · exact Or.inl h
      · obtain ⟨h1, h2⟩ := List.mem_filter.mp h
        refine Or.inr ⟨List.mem_cons_of_mem _ h1, fun z => ?_⟩
        simp [z] at h2
    · rename_i hne
      rcases List.mem_cons.mp h with h | h
      · subst h
        exact Or.inr ⟨List.mem_cons_self, hne⟩
      · rcases lvset_mem r i v q h with h | ⟨h, h'⟩
        · exact Or.inl h
        · exact Or.inr ⟨List.mem_cons_of_mem _ h, h'⟩
theorem lvset_has {ls : Array Slot} {nL i : Nat} {lv : List (Nat × Value)} {v : Value} (h : lv_has ls nL ((i, v) :: lv.filter (fun q => !(q.1 == i) && !(q.1 + 1 == i && q.2.category == 2)))) (hc : ∀ q ∈ lv, q.2.category = 1) : lv_has ls nL (lvset lv i v) := by
  refine ⟨h.1, h.2.1, fun q hq => h.2.2 q ?_⟩
  rcases lvset_mem lv i v q hq with rfl | ⟨h1, h2⟩
  · exact List.mem_cons_self
  · refine List.mem_cons_of_mem _ (List.mem_filter.mpr ⟨h1, ?_⟩)
    simp [h2, hc q h1]
def inR (z : Int) : Prop := -2147483648 ≤ z ∧ z < 2147483648
theorem oI_toInt {z : Int} (h : inR z) : (oI z).toInt = z := Int32.toInt_ofInt_of_le (by have := h.1; omega) (by have := h.2; omega)
theorem oI_lt {a b : Int} (ha : inR a) (hb : inR b) : oI a < oI b ↔ a < b := by rw [Int32.lt_iff_toInt_lt, oI_toInt ha, oI_toInt hb]
theorem oI_le {a b : Int} (ha : inR a) (hb : inR b) : oI a ≤ oI b ↔ a ≤ b := by rw [Int32.le_iff_toInt_le, oI_toInt ha, oI_toInt hb]
theorem oI_eq {a b : Int} (ha : inR a) (hb : inR b) : oI a = oI b ↔ a = b := by rw [← Int32.toInt_inj, oI_toInt ha, oI_toInt hb]
theorem oI_add (a b : Int) : oI a + oI b = oI (a + b) := (Int32.ofInt_add a b).symm
theorem oI_sub (a b : Int) : oI a - oI b = oI (a - b) := (Int32.ofInt_sub a b).symm
theorem oI_mul (a b : Int) : oI a * oI b = oI (a * b) := (Int32.ofInt_mul a b).symm
theorem oI_nat (n : Nat) : oI (n : Int) = nI n := Int32.ofInt_eq_ofNat
theorem oI_div {a b : Int} (ha : 0 ≤ a ∧ a < 2147483648) (hb : 0 < b ∧ b < 2147483648) : oI a / oI b = oI (a / b) := by
  obtain ⟨x, rfl⟩ := Int.eq_ofNat_of_zero_le ha.1
  obtain ⟨y, rfl⟩ := Int.eq_ofNat_of_zero_le (Int.le_of_lt hb.1)
  rw [oI_nat, oI_nat, pk_div (by omega) (by omega) (by omega), ← oI_nat]
  rfl
theorem oI_rem {a b : Int} (ha : 0 ≤ a ∧ a < 2147483648) (hb : 0 < b ∧ b < 2147483648) : oI a - oI a / oI b * oI b = oI (a % b) := by
  obtain ⟨x, rfl⟩ := Int.eq_ofNat_of_zero_le ha.1
  obtain ⟨y, rfl⟩ := Int.eq_ofNat_of_zero_le (Int.le_of_lt hb.1)
  rw [oI_nat, oI_nat, pk_rem (by omega) (by omega) (by omega), ← oI_nat]
  rfl
theorem oI_self (x : Int32) : oI x.toInt = x := Int32.ofInt_toInt x
theorem inR_self (x : Int32) : inR x.toInt := ⟨Int32.le_toInt x, Int32.toInt_lt x⟩
theorem oI_clamp {i : Int} (h0 : 0 ≤ i) (h : i < 2147483648) : (oI i).toNatClampNeg = i.toNat := by
  obtain ⟨x, rfl⟩ := Int.eq_ofNat_of_zero_le h0
  rw [oI_nat, nI_clamp (by omega)]
  rfl
theorem oI_in {i : Int} {n : Nat} (h0 : 0 ≤ i) (h : i < n) (hn : n < 2147483648) : vp_in (oI i) n := by
  obtain ⟨x, rfl⟩ := Int.eq_ofNat_of_zero_le h0
  rw [oI_nat]
  exact vp_in_nI (by omega) (by omega)
theorem oI_i2c {a : Int} (ha : 0 ≤ a ∧ a < 65536) : ((oI a).toUInt32 % 65536).toInt32 = oI a := by
  obtain ⟨x, rfl⟩ := Int.eq_ofNat_of_zero_le ha.1
  rw [oI_nat, pk_char, pk_tn (by omega), Nat.mod_eq_of_lt (by omega)]
theorem oI_char {a : Int} (ha : 0 ≤ a ∧ a < 65536) : vp_nar .char (oI a) = oI a := by
  obtain ⟨x, rfl⟩ := Int.eq_ofNat_of_zero_le ha.1
  rw [oI_nat]
  have h := (pk_charN (q := x) (by omega)).1
  show (match narrow .char (.int (nI x)) with | .int y => y | _ => 0) = nI x
  rw [h]
