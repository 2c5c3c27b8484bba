/-! ===== constructors: worlds that grow ===== -/
def NST (U : State) : Prop := va_AO "WhiteRivers$Page" U ∧ va_Nw (.methodLinkNest RX0 21 yX1_init "WhiteRivers") U ∧ va_Nw (.methodLinkNest RX3 27 yX1_init "WhiteRivers") U ∧ va_Nw (.methodLinkNest RX3 34 yX4_init "WhiteRivers") U ∧ va_Nw (.methodLinkNest RX6 9 yX1_init "WhiteRivers") U ∧ va_Nw (.methodLinkNest RX6 25 yX4_init "WhiteRivers") U ∧ va_Nw (.methodLinkNest RX6 32 yX3_init "WhiteRivers") U ∧ va_Nw (.methodLinkNest RX6 39 yX5_init "WhiteRivers") U
def KN (X : Cx) (U : State) : Prop := KK X U ∧ NST U
theorem KN.same {X : Cx} {u U : State} (h : u.vm = U.vm) (hK : KN X u) : KN X U := by
  have ha : u.vm.Alike U.vm := h ▸ Vm.Alike.refl u.vm
  obtain ⟨k, n0, n1, n2, n3, n4, n5, n6, n7⟩ := hK
  exact ⟨va_K.moved ha k, n0.moved ha, n1.same rfl h, n2.same rfl h, n3.same rfl h, n4.same rfl h, n5.same rfl h, n6.same rfl h, n7.same rfl h⟩
theorem KN.warm {X : Cx} {s U : State} (hW : s.WarmedH U.vm) (hK : KN X s) : KN X U := by
  obtain ⟨k, n0, n1, n2, n3, n4, n5, n6, n7⟩ := hK
  exact ⟨va_K.moved hW.alike k, n0.moved hW.alike, n1.warmM hW, n2.warmM hW, n3.warmM hW, n4.warmM hW, n5.warmM hW, n6.warmM hW, n7.warmM hW⟩
def JN (p : Program) (l : Launch) (e : Env) (R : Room) (s : State) (m : MethodId) (args : Array Value) (below : List Frame) (meth : Method) (c : Code) (cells slots : Nat) (Q : State → Prop) (A : Nat → Prop) (H0 : Heap) (X : Cx) (nL : Nat) (ws : va_W) (pc : Nat) (lv : List (Nat × Value)) (st : List Value) : Prop :=
  ∀ (H : Heap) (locs : List Loc) (ls : Array Slot), va_P (X.2.1, X.2.2.1) vwCl ws H → va_D A ws → va_S A H0 H locs → lv_has ls nL lv → W p l e R s m args below meth c H locs cells slots Q (F0 m pc ls st)
def FN (p : Program) (s : State) (m : MethodId) (args : Array Value) (c : Code) (cc : ByteArray) (own : String) (Ts : List Cond) (nL : Nat) (X : Cx) (A : Nat → Prop) (H0 : Heap) : Prop := p.tables.exec = Jvm.exec ∧ c.code = cc ∧ c.maxLocals = nL ∧ s.vm.findClass own = some m.cls ∧ (∀ w ∈ Ts, w.before args s = true) ∧ KN X s ∧ ∀ q : Nat, H0.size ≤ q → A q
def CtN (l : Launch) (X : Cx) (y : MethodName) (wsC : List Cond) (k mc ms : Nat) (as : List Value) (w0 : va_W) (w1 : (Nat → Nat) → va_W) : Prop :=
  ∀ sz : Nat, Met l y wsC ({ frames := k, cells := mc, slots := ms, locals := 40 * k } : Room) (va_Pc as (fun U => U.heap.size = sz ∧ va_P (X.2.1, X.2.2.1) vwCl w0 U.heap ∧ KN X U)) (va_Qv (S := Nat → Nat) (fun _ => True) (fun u t => va_P (X.2.1, X.2.2.1) vwCl (w1 u) t.heap ∧ va_D (va_A w0 sz) (w1 u)) (va_A w0 sz)) mc ms (va_A w0 sz)
theorem vd_one (A : Nat → Prop) (x : Nat × va_E) (h : A x.1) : va_D A [x] := by
  refine ⟨fun i j a b hi hj _ => ?_, fun k q hk => ?_⟩
  · have h1 := (List.getElem?_eq_some_iff.mp hi).1
    have h2 := (List.getElem?_eq_some_iff.mp hj).1
    simp at h1 h2
    omega
  · have h1 := (List.getElem?_eq_some_iff.mp hk).1
    simp at h1
    subst h1
    cases hk
    exact h
theorem same_int {X : Cx} {s : State} {cA : ClassId} (hK : KK X s) (h : va_K (X.2.1, X.2.2.1) vwCl (tyl X ++ [(cA, .int)]) s) : cA = X.2.2.2.1 := by
  have h1 : s.vm.findClass ("[" ++ FieldType.int.toString) = some cA := (h.2 3 (cA, .int) rfl).2
  have h2 : s.vm.findClass ("[" ++ FieldType.int.toString) = some X.2.2.2.1 := (hK.2 0 (X.2.2.2.1, .int) rfl).2
  exact Option.some.inj (h1.symm.trans h2)
theorem same_page {X : Cx} {s : State} {cA : ClassId} (hK : KK X s) (h : va_K (X.2.1, X.2.2.1) vwCl (tyl X ++ [(cA, .object "WhiteRivers$Page")]) s) : cA = X.2.2.2.2.2 := by
  obtain ⟨_, _, _, _, _, h1⟩ := (h.2 3 (cA, .object "WhiteRivers$Page") rfl).2
  obtain ⟨_, _, _, _, _, h2⟩ := (hK.2 2 (X.2.2.2.2.2, .object "WhiteRivers$Page") rfl).2
  exact Option.some.inj (h1.symm.trans h2)
theorem oI0 : oI 0 = 0 := by decide
section JNR
variable {p : Program} {l : Launch} {e : Env} {R : Room} {s : State} {m : MethodId} {args : Array Value} {below : List Frame} {meth : Method} {c : Code} {cells slots : Nat} {Q : State → Prop} {A : Nat → Prop} {H0 : Heap} {X : Cx} {nL : Nat} {ws : va_W} {pc q : Nat} {lv : List (Nat × Value)} {st : List Value} {cc : ByteArray} {own : String} {Ts : List Cond}
theorem n_aload (F : FN p s m args c cc own Ts nL X A H0) {k : Fin 4} {i z : Nat} (hdg : decode cc pc = .ok (.aload_n k, 1)) (hq : pc + 1 = q) (hi : (k : Nat) = i) (j : Nat) (hk : lv[j]? = some (i, Value.ref z)) (kk : JN p l e R s m args below meth c cells slots Q A H0 X nL ws q lv (Value.ref z :: st)) : JN p l e R s m args below meth c cells slots Q A H0 X nL ws pc lv st := by
  subst hq; subst hi
  intro H locs ls hP hD hS hl
  exact lv_aload_n F.1 F.2.1 hdg rfl (lv_at hl j hk) (kk H locs ls hP hD hS hl)
theorem n_iload (F : FN p s m args c cc own Ts nL X A H0) {k : Fin 4} {i : Nat} {z : Int} (hdg : decode cc pc = .ok (.iload_n k, 1)) (hq : pc + 1 = q) (hi : (k : Nat) = i) (j : Nat) (hk : lv[j]? = some (i, vI z)) (kk : JN p l e R s m args below meth c cells slots Q A H0 X nL ws q lv (vI z :: st)) : JN p l e R s m args below meth c cells slots Q A H0 X nL ws pc lv st := by
  subst hq; subst hi
  intro H locs ls hP hD hS hl
  exact lv_iload_n F.1 F.2.1 hdg rfl (lv_at hl j hk) (kk H locs ls hP hD hS hl)
theorem n_iconst (F : FN p s m args c cc own Ts nL X A H0) {n : Int} (hdg : decode cc pc = .ok (.iconst n, 1)) (hq : pc + 1 = q) (kk : JN p l e R s m args below meth c cells slots Q A H0 X nL ws q lv (vI n :: st)) : JN p l e R s m args below meth c cells slots Q A H0 X nL ws pc lv st := by
  subst hq
  intro H locs ls hP hD hS hl
  exact lv_iconst F.1 F.2.1 hdg rfl (kk H locs ls hP hD hS hl)
theorem n_bipush (F : FN p s m args c cc own Ts nL X A H0) {n : Int} (hdg : decode cc pc = .ok (.bipush n, 2)) (hq : pc + 2 = q) (hv : (Int8.ofInt n).toInt32 = oI n) (kk : JN p l e R s m args below meth c cells slots Q A H0 X nL ws q lv (vI n :: st)) : JN p l e R s m args below meth c cells slots Q A H0 X nL ws pc lv st := by
  subst hq
  intro H locs ls hP hD hS hl
  exact lv_bipush F.1 F.2.1 hdg hv (kk H locs ls hP hD hS hl)
theorem n_sipush (F : FN p s m args c cc own Ts nL X A H0) {n : Int} (hdg : decode cc pc = .ok (.sipush n, 3)) (hq : pc + 3 = q) (hv : (Int16.ofInt n).toInt32 = oI n) (kk : JN p l e R s m args below meth c cells slots Q A H0 X nL ws q lv (vI n :: st)) : JN p l e R s m args below meth c cells slots Q A H0 X nL ws pc lv st := by
  subst hq
  intro H locs ls hP hD hS hl
  exact lv_sipush F.1 F.2.1 hdg hv (kk H locs ls hP hD hS hl)
theorem n_ldc (F : FN p s m args c cc own Ts nL X A H0) {index : Nat} {v : Int32} {n : Int} (hdg : decode cc pc = .ok (.ldc index, 2)) (hq : pc + 2 = q) (hcon : Cond.constant own index v ∈ Ts) (hv : v = oI n) (kk : JN p l e R s m args below meth c cells slots Q A H0 X nL ws q lv (vI n :: st)) : JN p l e R s m args below meth c cells slots Q A H0 X nL ws pc lv st := by
  subst hq
  intro H locs ls hP hD hS hl
  subst hv; exact lv_ldc F.1 F.2.1 F.2.2.2.1 (F.2.2.2.2.1 _ hcon) hdg (kk H locs ls hP hD hS hl)
theorem n_dup (F : FN p s m args c cc own Ts nL X A H0) {a : Nat} (hdg : decode cc pc = .ok (.dup, 1)) (hq : pc + 1 = q) (kk : JN p l e R s m args below meth c cells slots Q A H0 X nL ws q lv (Value.ref a :: Value.ref a :: st)) : JN p l e R s m args below meth c cells slots Q A H0 X nL ws pc lv (Value.ref a :: st) := by
  subst hq
  intro H locs ls hP hD hS hl
  exact lv_dup F.1 F.2.1 hdg rfl (kk H locs ls hP hD hS hl)
theorem n_goto (F : FN p s m args c cc own Ts nL X A H0) {off : Int} (hdg : decode cc pc = .ok (.goto off, 3)) (ht : (pc : Int) + off = (q : Int)) (kk : JN p l e R s m args below meth c cells slots Q A H0 X nL ws q lv st) : JN p l e R s m args below meth c cells slots Q A H0 X nL ws pc lv st := by
  intro H locs ls hP hD hS hl
  exact lv_goto F.1 F.2.1 hdg ht (kk H locs ls hP hD hS hl)
theorem n_istore (F : FN p s m args c cc own Ts nL X A H0) {k : Fin 4} {i : Nat} {z : Int} {lv' : List (Nat × Value)} (hdg : decode cc pc = .ok (.istore_n k, 1)) (hq : pc + 1 = q) (hi : (k : Nat) = i) (hn : i < nL) (hl' : (i, vI z) :: lv.filter (fun q => !(q.1 == i) && !(q.1 + 1 == i && q.2.category == 2)) = lv') (kk : JN p l e R s m args below meth c cells slots Q A H0 X nL ws q lv' st) : JN p l e R s m args below meth c cells slots Q A H0 X nL ws pc lv (vI z :: st) := by
  subst hq; subst hi
  intro H locs ls hP hD hS hl
  exact lv_istore_n F.1 F.2.1 hdg rfl hl hn hl' (fun ls hl => kk H locs ls hP hD hS hl)
theorem n_astore (F : FN p s m args c cc own Ts nL X A H0) {k : Fin 4} {i z : Nat} {lv' : List (Nat × Value)} (hdg : decode cc pc = .ok (.astore_n k, 1)) (hq : pc + 1 = q) (hi : (k : Nat) = i) (hn : i < nL) (hl' : (i, Value.ref z) :: lv.filter (fun q => !(q.1 == i) && !(q.1 + 1 == i && q.2.category == 2)) = lv') (kk : JN p l e R s m args below meth c cells slots Q A H0 X nL ws q lv' st) : JN p l e R s m args below meth c cells slots Q A H0 X nL ws pc lv (Value.ref z :: st) := by
  subst hq; subst hi
  intro H locs ls hP hD hS hl
  exact lv_astore_n F.1 F.2.1 hdg rfl hl hn hl' (fun ls hl => kk H locs ls hP hD hS hl)
theorem n_iinc (F : FN p s m args c cc own Ts nL X A H0) {i j : Nat} {n x z : Int} {lv' : List (Nat × Value)} (hdg : decode cc pc = .ok (.iinc i n, 3)) (hq : pc + 3 = q) (hk : lv[j]? = some (i, vI x)) (hz : oI x + Int32.ofInt n = oI z) (hn : i < nL) (hl' : (i, vI z) :: lv.filter (fun q => !(q.1 == i) && !(q.1 + 1 == i && q.2.category == 2)) = lv') (kk : JN p l e R s m args below meth c cells slots Q A H0 X nL ws q lv' st) : JN p l e R s m args below meth c cells slots Q A H0 X nL ws pc lv st := by
  subst hq
  intro H locs ls hP hD hS hl
  exact lv_iinc (v := oI z) F.1 F.2.1 hdg hl hk hz hn hl' (fun ls hl => kk H locs ls hP hD hS hl)
theorem n_ge_t (F : FN p s m args c cc own Ts nL X A H0) {a b off : Int} (hdg : decode cc pc = .ok (.if_icmp .ge off, 3)) (ht : (pc : Int) + off = (q : Int)) (h : oI b ≤ oI a) (kk : JN p l e R s m args below meth c cells slots Q A H0 X nL ws q lv st) : JN p l e R s m args below meth c cells slots Q A H0 X nL ws pc lv (vI b :: vI a :: st) := by
  intro H locs ls hP hD hS hl
  exact lv_icmp_ge F.1 F.2.1 hdg ht (fun _ => kk H locs ls hP hD hS hl) (fun z => absurd h z)
theorem n_ge_f (F : FN p s m args c cc own Ts nL X A H0) {a b off : Int} {tgt : Nat} (hdg : decode cc pc = .ok (.if_icmp .ge off, 3)) (ht : (pc : Int) + off = (tgt : Int)) (hq : pc + 3 = q) (h : ¬ oI b ≤ oI a) (kk : JN p l e R s m args below meth c cells slots Q A H0 X nL ws q lv st) : JN p l e R s m args below meth c cells slots Q A H0 X nL ws pc lv (vI b :: vI a :: st) := by
  subst hq
  intro H locs ls hP hD hS hl
  exact lv_icmp_ge F.1 F.2.1 hdg ht (fun z => absurd z h) (fun _ => kk H locs ls hP hD hS hl)
theorem n_objInit (F : FN p s m args c cc own Ts nL X A H0) {idx z : Nat} (h1 : Cond.methodLink own idx Lib.objectInit ∈ Ts) (h2 : Cond.instanceMethod Lib.objectInit ∈ Ts) (h3 : Cond.code Lib.objectInit ⟨#[0xb1]⟩ 1 none ∈ Ts) (hR : 1 ≤ R.frames ∧ 12 ≤ R.locals) (hdg : decode cc pc = .ok (.invokespecial idx, 3)) (hq : pc + 3 = q) (kk : JN p l e R s m args below meth c cells slots Q A H0 X nL ws q lv []) : JN p l e R s m args below meth c cells slots Q A H0 X nL ws pc lv [Value.ref z] := by
  subst hq
  intro H locs ls hP hD hS hl
  refine W.objInit F.1 F.2.1 F.2.2.2.1 (F.2.2.2.2.1 _ h1) (F.2.2.2.2.1 _ h2) (F.2.2.2.2.1 _ h3) rfl (by rw [F.2.2.1]; exact hl.1) rfl hdg hR.1 (by show 2 * 0 + 0 + 12 ≤ _; omega) ?_
  exact W.eq (g2 := F0 m (pc + 3) ls []) rfl (kk H locs ls hP hD hS hl)
theorem n_putI (F : FN p s m args c cc own Ts nL X A H0) {ci N index q0 a : Nat} {C : String} {T : u_T} {fs : List Value} {ws' : va_W} (hin : ∀ w ∈ u_ws C T N, w ∈ Ts) {ty0 : Nat → FieldType} (hty : ∀ k, k < N → parseFieldDescriptor (T k).2.2.1 = some (ty0 k)) (hnm : ∀ a, a < N → ∀ b, b < N → a ≠ b → (T a).2.1 ≠ (T b).2.1) (he : ws[q0]? = some (a, .inr (ci, fs))) (hcl : vwCl[ci]? = some (C, T, N)) (k : Nat) (hk : k < N) {n : Int} (hlink : Cond.fieldLink own index (T k).1 (T k).2.1 (T k).2.2.1 ∈ Ts) (hfin : (T k).2.2.2 = false) (hI : (T k).2.2.1 = "I") (hl0 : k < fs.length) (hws : ws.set q0 (a, .inr (ci, fs.set k (vI n))) = ws') (hdg : decode cc pc = .ok (.putfield index, 3)) (hq : pc + 3 = q) (kk : JN p l e R s m args below meth c cells slots Q A H0 X nL ws' q lv st) : JN p l e R s m args below meth c cells slots Q A H0 X nL ws pc lv (vI n :: Value.ref a :: st) := by
  subst hq; subst hws
  intro H locs ls hP hD hS hl
  have hd : parseFieldDescriptor (T k).2.2.1 = some .int := by rw [hI]; decide +kernel
  exact va_put (ci := ci) F.1 F.2.1 F.2.2.2.2.1 hin ty0 hty hnm F.2.2.2.1 F.2.2.2.2.2.1.1 hP hD hS q0 he hcl k hk (F.2.2.2.2.1 _ hlink) (fun _ h => h) hfin hd (v := vI n) rfl rfl hl0 hdg (fun H1 locs1 hP hD hS => kk H1 locs1 ls hP hD hS hl)
theorem n_putF (F : FN p s m args c cc own Ts nL X A H0) {ci N index q0 a : Nat} {C : String} {T : u_T} {fs : List Value} {ws' : va_W} (hin : ∀ w ∈ u_ws C T N, w ∈ Ts) {ty0 : Nat → FieldType} (hty : ∀ k, k < N → parseFieldDescriptor (T k).2.2.1 = some (ty0 k)) (hnm : ∀ a, a < N → ∀ b, b < N → a ≠ b → (T a).2.1 ≠ (T b).2.1) (he : ws[q0]? = some (a, .inr (ci, fs))) (hcl : vwCl[ci]? = some (C, T, N)) (k : Nat) (hk : k < N) {z : Nat} (hlink : Cond.fieldLink own index (T k).1 (T k).2.1 (T k).2.2.1 ∈ Ts) (hfin : (T k).2.2.2 = true) (hname : meth.name = "<init>") (hown : (T k).1 = own) {ty : FieldType} (hd : parseFieldDescriptor (T k).2.2.1 = some ty) (hnr : narrow ty (Value.ref z) = Value.ref z) (hfit : fits ty (Value.ref z) = true) (hl0 : k < fs.length) (hws : ws.set q0 (a, .inr (ci, fs.set k (Value.ref z))) = ws') (hdg : decode cc pc = .ok (.putfield index, 3)) (hq : pc + 3 = q) (kk : JN p l e R s m args below meth c cells slots Q A H0 X nL ws' q lv st) : JN p l e R s m args below meth c cells slots Q A H0 X nL ws pc lv (Value.ref z :: Value.ref a :: st) := by
  subst hq; subst hws
  intro H locs ls hP hD hS hl
  exact va_putF (ci := ci) F.1 F.2.1 F.2.2.2.2.1 hin ty0 hty hnm F.2.2.2.1 F.2.2.2.2.2.1.1 hP hD hS q0 he hcl k hk (F.2.2.2.2.1 _ hlink) (fun _ h => h) hfin hname hown hd (v := Value.ref z) hnr hfit hl0 hdg (fun H1 locs1 hP hD hS => kk H1 locs1 ls hP hD hS hl)
theorem n_getR (F : FN p s m args c cc own Ts nL X A H0) {ci N index q0 a : Nat} {C : String} {T : u_T} {fs : List Value} (hin : ∀ w ∈ u_ws C T N, w ∈ Ts) (he : ws[q0]? = some (a, .inr (ci, fs))) (hcl : vwCl[ci]? = some (C, T, N)) (k : Nat) (hk : k < N) {z : Nat} (hlink : Cond.fieldLink own index (T k).1 (T k).2.1 (T k).2.2.1 ∈ Ts) (hv : fs[k]? = some (Value.ref z)) (hdg : decode cc pc = .ok (.getfield index, 3)) (hq : pc + 3 = q) (kk : JN p l e R s m args below meth c cells slots Q A H0 X nL ws q lv (Value.ref z :: st)) : JN p l e R s m args below meth c cells slots Q A H0 X nL ws pc lv (Value.ref a :: st) := by
  subst hq
  intro H locs ls hP hD hS hl
  exact va_get (ci := ci) F.1 F.2.1 F.2.2.2.2.1 hin F.2.2.2.1 F.2.2.2.2.2.1.1 hP q0 he hcl k hk (F.2.2.2.2.1 _ hlink) (fun _ h => h) hv hdg (kk H locs ls hP hD hS hl)
theorem n_new (F : FN p s m args c cc own Ts nL X A H0) {c2 s2 : Nat} {ws2 : Nat → va_W} {ci N index : Nat} {C : String} {T : u_T} (hin : ∀ w ∈ u_ws C T N, w ∈ Ts) {ty0 : Nat → FieldType} (hty : ∀ k, k < N → parseFieldDescriptor (T k).2.2.1 = some (ty0 k)) (h1 : Cond.classLink own index C ∈ Ts) (h2 : Cond.instantiable C N ∈ Ts) (h3 : Cond.initialized C ∈ Ts) (hcl : vwCl[ci]? = some (C, T, N)) {fs : List Value} (hfs : ∀ j, j < N → defaultValue (ty0 j) = vp_V fs j) (hc2 : cells + 1 = c2) (hs2 : slots + N = s2) (hws : ∀ z, ws ++ [(z, .inr (ci, fs))] = ws2 z) (hcR : c2 ≤ R.cells) (hsR : s2 ≤ R.slots) (hdg : decode cc pc = .ok (.new index, 3)) (hq : pc + 3 = q) (kk : ∀ z : Nat, JN p l e R s m args below meth c c2 s2 Q A H0 X nL (ws2 z) q lv (Value.ref z :: st)) : JN p l e R s m args below meth c cells slots Q A H0 X nL ws pc lv st := by
  subst hq; subst hc2; subst hs2
  intro H locs ls hP hD hS hl
  exact va_new (ci := ci) F.1 F.2.1 F.2.2.2.2.1 hin ty0 hty F.2.2.2.1 (F.2.2.2.2.1 _ h1) (F.2.2.2.2.1 _ h2) (F.2.2.2.2.1 _ h3) F.2.2.2.2.2.1.1 hP hD hS F.2.2.2.2.2.2 hcl hfs hcR hsR hdg (fun z H1 hP hD hS => by rw [hws z] at hP hD; exact kk z H1 locs ls hP hD hS hl)
theorem n_newint (F : FN p s m args c cc own Ts nL X A H0) {c2 s2 : Nat} {ws2 : Nat → va_W} {n : Int} {N : Nat} (h1 : Cond.arrayClass .int ∈ Ts) (hn : 0 ≤ n ∧ n < 100000) (hN : n.toNat = N) (hws : ∀ z, ws ++ [(z, .inl (X.2.2.2.1, N, .inl (fun _ => oI 0)))] = ws2 z) (hc2 : cells + 1 = c2) (hs2 : slots + N = s2) (hcR : c2 ≤ R.cells) (hsR : s2 ≤ R.slots) (hdg : decode cc pc = .ok (.newarray .int, 2)) (hq : pc + 2 = q) (kk : ∀ z : Nat, JN p l e R s m args below meth c c2 s2 Q A H0 X nL (ws2 z) q lv (Value.ref z :: st)) : JN p l e R s m args below meth c cells slots Q A H0 X nL ws pc lv (vI n :: st) := by
  subst hq; subst hc2; subst hs2; subst hN
  intro H locs ls hP hD hS hl
  refine va_newa (atype := .int) (a0 := (n.toNat, .inl (fun _ => oI 0))) F.1 F.2.1 (F.2.2.2.2.1 _ h1) rfl F.2.2.2.2.2.1.1 hP hD hS F.2.2.2.2.2.2 (fun cA => by rw [oI0]; rfl) (fun z => ?_) (oI_clamp hn.1 (by omega)) (by show n.toNat * 4 ≤ _; omega) hcR hsR hdg (fun z cA H1 hK hP hD hS => ?_)
  · rw [← oI0] at z
    have := (oI_lt ⟨by omega, by omega⟩ ⟨by decide, by decide⟩).mp z
    omega
  · have e := same_int F.2.2.2.2.2.1.1 hK
    subst e
    rw [hws z] at hP hD
    exact kk z H1 locs ls hP hD hS hl
theorem n_newpages (F : FN p s m args c cc own Ts nL X A H0) {c2 s2 : Nat} {ws2 : Nat → va_W} {n : Int} {N index : Nat} (h0 : Cond.classLink own index "WhiteRivers$Page" ∈ Ts) (hn : 0 ≤ n ∧ n < 100000) (hN : n.toNat = N) (hws : ∀ z, ws ++ [(z, .inl (X.2.2.2.2.2, N, .inr (.inr (.inr (.inr (fun _ => none))))))] = ws2 z) (hc2 : cells + 1 = c2) (hs2 : slots + N = s2) (hcR : c2 ≤ R.cells) (hsR : s2 ≤ R.slots) (hdg : decode cc pc = .ok (.anewarray index, 3)) (hq : pc + 3 = q) (kk : ∀ z : Nat, JN p l e R s m args below meth c c2 s2 Q A H0 X nL (ws2 z) q lv (Value.ref z :: st)) : JN p l e R s m args below meth c cells slots Q A H0 X nL ws pc lv (vI n :: st) := by
  subst hq; subst hc2; subst hs2; subst hN
  intro H locs ls hP hD hS hl
  refine va_newq (C := "WhiteRivers$Page") F.1 F.2.1 F.2.2.2.1 (F.2.2.2.2.1 _ h0) F.2.2.2.2.2.1.2.1 F.2.2.2.2.2.1.1 hP hD hS F.2.2.2.2.2.2 (fun z => ?_) (oI_clamp hn.1 (by omega)) (by omega) hcR hsR hdg (fun z cA H1 hK hP hD hS => ?_)
  · rw [← oI0] at z
    have := (oI_lt ⟨by omega, by omega⟩ ⟨by decide, by decide⟩).mp z
    omega
  · have e := same_page F.2.2.2.2.2.1.1 hK
    subst e
    rw [hws z] at hP hD
    exact kk z H1 locs ls hP hD hS hl
theorem n_aast (F : FN p s m args c cc own Ts nL X A H0) {a q0 qk z N j : Nat} {i : Int} {f : Nat → Option Nat} {vs : List Value} {ws' : va_W} (ha : ws[q0]? = some (a, .inl (X.2.2.2.2.2, N, .inr (.inr (.inr (.inr f)))))) (hv : ws[qk]? = some (z, .inr (1, vs))) (hi : 0 ≤ i ∧ i < (N : Int)) (hN : N < 100000) (hj : i.toNat = j) (hws : ws.set q0 (a, .inl (X.2.2.2.2.2, N, .inr (.inr (.inr (.inr (va_up f j (some z))))))) = ws') (hdg : decode cc pc = .ok (.aastore, 1)) (hq : pc + 1 = q) (kk : JN p l e R s m args below meth c cells slots Q A H0 X nL ws' q lv st) : JN p l e R s m args below meth c cells slots Q A H0 X nL ws pc lv (Value.ref z :: vI i :: Value.ref a :: st) := by
  subst hq; subst hws; subst hj
  intro H locs ls hP hD hS hl
  refine va_astq (ci := 1) (r := (RX1, TX1, 6)) F.1 F.2.1 F.2.2.2.2.2.1.1 hP hD hS q0 2 qk ha rfl hv rfl (oI_in hi.1 hi.2 (by omega)) hdg (fun H1 locs1 hP hD hS => ?_)
  rw [oI_clamp hi.1 (by omega)] at hP hD
  exact kk H1 locs1 ls hP hD hS hl
theorem n_alen (F : FN p s m args c cc own Ts nL X A H0) {a q0 N : Nat} {f : Nat → Option Nat} {z : Int} (ha : ws[q0]? = some (a, .inl (X.2.2.2.2.2, N, .inr (.inr (.inr (.inr f)))))) (hz : ((N : Nat) : Int) = z) (hdg : decode cc pc = .ok (.arraylength, 1)) (hq : pc + 1 = q) (kk : JN p l e R s m args below meth c cells slots Q A H0 X nL ws q lv (vI z :: st)) : JN p l e R s m args below meth c cells slots Q A H0 X nL ws pc lv (Value.ref a :: st) := by
  subst hq; subst hz
  intro H locs ls hP hD hS hl
  exact va_alen F.1 F.2.1 F.2.2.2.2.2.1.1 hP q0 2 ha rfl (oI_nat N).symm hdg (kk H locs ls hP hD hS hl)
theorem n_iast (F : FN p s m args c cc own Ts nL X A H0) {a q0 N j : Nat} {i v : Int} {f : Nat → Int32} {ws' : va_W} (ha : ws[q0]? = some (a, .inl (X.2.2.2.1, N, .inl f))) (hi : 0 ≤ i ∧ i < (N : Int)) (hN : N < 100000) (hj : i.toNat = j) (hws : ws.set q0 (a, .inl (X.2.2.2.1, N, .inl (upd f j (oI v)))) = ws') (hdg : decode cc pc = .ok (.iastore, 1)) (hq : pc + 1 = q) (kk : JN p l e R s m args below meth c cells slots Q A H0 X nL ws' q lv st) : JN p l e R s m args below meth c cells slots Q A H0 X nL ws pc lv (vI v :: vI i :: Value.ref a :: st) := by
  subst hq; subst hws; subst hj
  intro H locs ls hP hD hS hl
  refine va_iast F.1 F.2.1 F.2.2.2.2.2.1.1 hP hD hS q0 0 ha rfl (oI_in hi.1 hi.2 (by omega)) hdg (fun H1 locs1 hP hD hS => ?_)
  rw [oI_clamp hi.1 (by omega)] at hP hD
  exact kk H1 locs1 ls hP hD hS hl
theorem n_max0 (F : FN p s m args c cc own Ts nL X A H0) {index : Nat} {a : Int} (hw1 : Cond.methodLink own index Lib.Math.max.name ∈ Ts) (hw2 : Cond.static Lib.Math.max.name ∈ Ts) (hw3 : Cond.initialized "java/lang/Math" ∈ Ts) (hw4 : Cond.code Lib.Math.max.name Lib.Math.max.code 2 (some .int) ∈ Ts) (hR : 1 ≤ R.frames ∧ (st.map fun v => v.category).sum + 13 ≤ R.locals ∧ cells ≤ R.cells ∧ slots ≤ R.slots) (ha : 0 ≤ a ∧ a < 100000) (hdg : decode cc pc = .ok (.invokestatic index, 3)) (hq : pc + 3 = q) (kk : JN p l e R s m args below meth c cells slots Q A H0 X nL ws q lv (vI a :: st)) : JN p l e R s m args below meth c cells slots Q A H0 X nL ws pc lv (vI 0 :: vI a :: st) := by
  subst hq
  intro H locs ls hP hD hS hl
  refine va_mmax F.1 F.2.1 (by rw [F.2.2.1]; exact hl.1.symm) F.2.2.2.1 (F.2.2.2.2.1 _ hw1) (F.2.2.2.2.1 _ hw2) (F.2.2.2.2.1 _ hw3) (F.2.2.2.2.1 _ hw4) hR.1 hR.2.1 hR.2.2.1 hR.2.2.2 hdg ?_
  have e : (if oI a < oI 0 then oI 0 else oI a) = oI a := if_neg (fun z => by have := (oI_lt ⟨by omega, by omega⟩ ⟨by decide, by decide⟩).mp z; omega)
  rw [e]
  exact kk H locs ls hP hD hS hl
theorem n_call (F : FN p s m args c cc own Ts nL X A H0) {c2 s2 : Nat} {y : MethodName} {wsC wsT : List Cond} {bytes : ByteArray} {maxL k mc ms index n : Nat} {h : Nat} {e0 : va_E} {w1 : (Nat → Nat) → va_W} {wr : va_W} {ws2 : (Nat → Nat) → va_W} (As : List Value) {stk : List Value} (isC isR : List Nat) (hM : CtN l X y wsC k mc ms (Value.ref h :: As) [(h, e0)] w1) (hG : GoodIn Ts wsC) (hw : wsC = Cond.code y bytes maxL none :: wsT) (hini : Cond.initialized y.cls ∈ Ts) (hlk : Cond.methodLink own index y ∈ Ts) (hins : Cond.instanceMethod y ∈ Ts) (hy : y.name = "<init>") (hd : y.cls ≠ "java/lang/invoke/MethodHandle" ∧ y.cls ≠ "java/lang/invoke/VarHandle" ∧ (parseMethodDescriptor y.desc).map (fun d => d.parameters.length) = some n) (hR : k + 1 ≤ R.frames ∧ 8 + (maxL + 11) + 40 * k ≤ R.locals) (hlen : As.length = n) (hstk : As.reverse ++ Value.ref h :: st = stk) (hst : (st.map fun v => v.category).sum ≤ 8) (hC : isC.map (fun i => ws[i]?) = [(h, e0)].map some) (hRr : isR.map (fun i => ws[i]?) = wr.map some) (hn : va_nd isR = true) (hdis : ∀ i ∈ isR, i ∉ isC) (his : isC.filterMap (fun i => ws[i]?) = [(h, e0)]) (hws : ∀ u, wr ++ w1 u = ws2 u) (hc2 : cells + mc = c2) (hs2 : slots + ms = s2) (hcR : c2 ≤ R.cells) (hsR : s2 ≤ R.slots) (hdg : decode cc pc = .ok (.invokespecial index, 3)) (hq : pc + 3 = q) (kk : ∀ u : Nat → Nat, JN p l e R s m args below meth c c2 s2 Q A H0 X nL (ws2 u) q lv st) : JN p l e R s m args below meth c cells slots Q A H0 X nL ws pc lv stk := by
  subst hq; subst hc2; subst hs2; subst hstk
  intro H locs ls hP hD hS hl
  have hPc := hP.sub (ws' := [(h, e0)]) isC his
  have hFc := va_free (wc := [(h, e0)]) hD hS F.2.2.2.2.2.2 isC hC
  have hK := F.2.2.2.2.2.1
  refine va_callv (va_runI (As := As) (rest := st) ⟨F.1, F.2.1, F.2.2.1, F.2.2.2.1, F.2.2.2.2.1⟩ (hM H.size) (cwI n F.2.2.2.2.1 hG hw rfl rfl (F.2.2.2.2.1 _ hini) (F.2.2.2.2.1 _ hlk) (F.2.2.2.2.1 _ hins) hy hd hR) ⟨fun a U g mk q => by obtain ⟨q0, q1, qP, qK⟩ := q; exact ⟨q0, q1, qP, KN.same (u := U) (U := U.calling g mk a) rfl qK⟩, fun U hU hW => ⟨rfl, by rw [hU], by rw [hU]; exact hPc, KN.warm hW hK⟩⟩ rfl hlen hl.1 rfl (lv_room hst) hdg ⟨hcR, hsR⟩) hS (fun q _ h => hFc q h) hFc (fun u t H1 locs1 ht hvm _ hB hz1 hk1 hS1 => ?_)
  obtain ⟨hP1, hD1⟩ := hB
  rw [ht] at hP1
  obtain ⟨hP2, hD2⟩ := va_join hP hD isC isR hC hRr hn hdis hk1 hFc hP1 hD1
  rw [hws u] at hP2 hD2
  exact kk u H1 locs1 ls hP2 hD2 hS1 hl
theorem n_callN (F : FN p s m args c cc own Ts nL X A H0) {c2 s2 : Nat} {y : MethodName} {wsC wsT : List Cond} {bytes : ByteArray} {maxL k mc ms index n : Nat} {h : Nat} {e0 : va_E} {w1 : (Nat → Nat) → va_W} {wr : va_W} {ws2 : (Nat → Nat) → va_W} (As : List Value) {stk : List Value} (isC isR : List Nat) (hM : CtN l X y wsC k mc ms (Value.ref h :: As) [(h, e0)] w1) (hG : GoodIn Ts wsC) (hw : wsC = Cond.code y bytes maxL none :: wsT) (hini : Cond.initialized y.cls ∈ Ts) (hlk : va_Nw (.methodLinkNest own index y "WhiteRivers") s) (hins : Cond.instanceMethod y ∈ Ts) (hy : y.name = "<init>") (hd : y.cls ≠ "java/lang/invoke/MethodHandle" ∧ y.cls ≠ "java/lang/invoke/VarHandle" ∧ (parseMethodDescriptor y.desc).map (fun d => d.parameters.length) = some n) (hR : k + 1 ≤ R.frames ∧ 8 + (maxL + 11) + 40 * k ≤ R.locals) (hlen : As.length = n) (hstk : As.reverse ++ Value.ref h :: st = stk) (hst : (st.map fun v => v.category).sum ≤ 8) (hC : isC.map (fun i => ws[i]?) = [(h, e0)].map some) (hRr : isR.map (fun i => ws[i]?) = wr.map some) (hn : va_nd isR = true) (hdis : ∀ i ∈ isR, i ∉ isC) (his : isC.filterMap (fun i => ws[i]?) = [(h, e0)]) (hws : ∀ u, wr ++ w1 u = ws2 u) (hc2 : cells + mc = c2) (hs2 : slots + ms = s2) (hcR : c2 ≤ R.cells) (hsR : s2 ≤ R.slots) (hdg : decode cc pc = .ok (.invokespecial index, 3)) (hq : pc + 3 = q) (kk : ∀ u : Nat → Nat, JN p l e R s m args below meth c c2 s2 Q A H0 X nL (ws2 u) q lv st) : JN p l e R s m args below meth c cells slots Q A H0 X nL ws pc lv stk := by
  subst hq; subst hc2; subst hs2; subst hstk
  intro H locs ls hP hD hS hl
  have hPc := hP.sub (ws' := [(h, e0)]) isC his
  have hFc := va_free (wc := [(h, e0)]) hD hS F.2.2.2.2.2.2 isC hC
  have hK := F.2.2.2.2.2.1
  refine va_callv (va_runIN (As := As) (rest := st) ⟨F.1, F.2.1, F.2.2.1, F.2.2.2.1, F.2.2.2.2.1⟩ (hM H.size) ⟨va_cnB n F.2.2.2.2.1 hG hw rfl rfl hlk (F.2.2.2.2.1 _ hini) hd hR, hy, F.2.2.2.2.1 _ hins⟩ ⟨fun a U g mk q => by obtain ⟨q0, q1, qP, qK⟩ := q; exact ⟨q0, q1, qP, KN.same (u := U) (U := U.calling g mk a) rfl qK⟩, fun U hU hW => ⟨rfl, by rw [hU], by rw [hU]; exact hPc, KN.warm hW hK⟩⟩ rfl hlen hl.1 rfl (lv_room hst) hdg ⟨hcR, hsR⟩) hS (fun q _ h => hFc q h) hFc (fun u t H1 locs1 ht hvm _ hB hz1 hk1 hS1 => ?_)
  obtain ⟨hP1, hD1⟩ := hB
  rw [ht] at hP1
  obtain ⟨hP2, hD2⟩ := va_join hP hD isC isR hC hRr hn hdis hk1 hFc hP1 hD1
  rw [hws u] at hP2 hD2
  exact kk u H1 locs1 ls hP2 hD2 hS1 hl
end JNR
theorem CtN_of {l : Launch} {X : Cx} {y : MethodName} {wsC ws' : List Cond} {k mc ms : Nat} {h : Nat} {e0 : va_E} {As : List Value} {w1 : (Nat → Nat) → va_W} {cc : ByteArray} {maxL : Nat} (hy : plainName y.cls = true) (hw : wsC = Cond.code y cc maxL none :: ws') (hlen : (lg_sl (Value.ref h :: As)).length ≤ maxL) (hname : y.name = "<init>") (body : ∀ (p : Program) (e : Env) (s : State) (m : MethodId) (args : Array Value) (below : List Frame) (meth : Method) (c : Code) (Q : State → Prop) (A : Nat → Prop), FN p s m args c cc y.cls wsC maxL X A s.heap → meth.name = "<init>" → (∀ (u : Nat → Nat) (pc : Nat) (lv : List (Nat × Value)) (cells slots : Nat), decode cc pc = .ok (.return_, 1) → cells ≤ mc → slots ≤ ms → JN p l e ({ frames := k, cells := mc, slots := ms, locals := 40 * k } : Room) s m args below meth c cells slots Q A s.heap X maxL (w1 u) pc lv []) → JN p l e ({ frames := k, cells := mc, slots := ms, locals := 40 * k } : Room) s m args below meth c 0 0 Q A s.heap X maxL [(h, e0)] 0 (lv_args 0 (Value.ref h :: As)) []) : CtN l X y wsC k mc ms (Value.ref h :: As) [(h, e0)] w1 := by
  intro sz
  refine Met.ofW hy hw ?_
  intro p e s m args below meth c s₁ B hml hv
  obtain ⟨rfl, hsz, hP, hK⟩ := hv
  subst hsz
  have hr := B.returns
  have hlocks := B.notSynchronized
  have hin : meth.name = "<init>" := (name_of_methodNamed B.named B.method).1.trans hname
  have hD : va_D (va_A [(h, e0)] s.heap.size) [(h, e0)] := vd_one _ _ (va_A.in (k := 0) rfl)
  rw [lg_entry_eq]
  exact body p e s m (Value.ref h :: As).toArray below meth c _ (va_A [(h, e0)] s.heap.size) ⟨B.exec, B.bytes, hml, findClass_of_methodNamed B.named, atoms_spec (ws := wsC) B.pre, hK, fun q h => Or.inr h⟩ hin (fun u pc lv cells slots hd hc hs H locs ls hP1 hD1 hS hl => W.widen (k := mc) (n := ms) hc hs (W.vret B.exec B.bytes hr (fun t ht hW => ⟨⟨u, rfl, trivial, by rw [ht]; exact hP1, hD1⟩, hS.F ht⟩) hS.2.2 hd)) s.heap [] _ hP hD va_S.rf (lv_entry _ hlen)
