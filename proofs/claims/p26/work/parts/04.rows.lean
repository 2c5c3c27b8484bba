/-! ===== a row of J for each instruction ===== -/
section JR
variable {p : Program} {l : Launch} {e : Env} {R : Room} {s : State} {m : MethodId} {args : Array Value} {below : List Frame} {meth : Method} {c : Code} {cells slots : Nat} {Q : State → Prop} {H0 : Heap} {X : Cx} {nL : Nat} {M : Mem} {pc q : Nat} {lv : List (Nat × Value)} {st : List Value} {cc : ByteArray} {own : String} {Ts : List Cond}
theorem j_iconst (F : Fx p s m args c cc own Ts nL X) {n : Int} (hdg : decode cc pc = .ok (.iconst n, 1)) (hq : pc + 1 = q)  (kk : J p l e R s m args below meth c cells slots Q H0 X nL M q lv (vI n :: st)) : J p l e R s m args below meth c cells slots Q H0 X nL M pc lv (st) := by
  subst hq
  intro H locs ls h1 h2 h3
  have K := kk H locs ls h1 h2 h3
  exact lv_iconst F.1 F.2.1 hdg rfl K
theorem j_bipush (F : Fx p s m args c cc own Ts nL X) {n : Int} (hdg : decode cc pc = .ok (.bipush n, 2)) (hq : pc + 2 = q) (hv : (Int8.ofInt n).toInt32 = oI n) (kk : J p l e R s m args below meth c cells slots Q H0 X nL M q lv (vI n :: st)) : J p l e R s m args below meth c cells slots Q H0 X nL M pc lv (st) := by
  subst hq
  intro H locs ls h1 h2 h3
  have K := kk H locs ls h1 h2 h3
  exact lv_bipush F.1 F.2.1 hdg hv K
theorem j_sipush (F : Fx p s m args c cc own Ts nL X) {n : Int} (hdg : decode cc pc = .ok (.sipush n, 3)) (hq : pc + 3 = q) (hv : (Int16.ofInt n).toInt32 = oI n) (kk : J p l e R s m args below meth c cells slots Q H0 X nL M q lv (vI n :: st)) : J p l e R s m args below meth c cells slots Q H0 X nL M pc lv (st) := by
  subst hq
  intro H locs ls h1 h2 h3
  have K := kk H locs ls h1 h2 h3
  exact lv_sipush F.1 F.2.1 hdg hv K
theorem j_ldc (F : Fx p s m args c cc own Ts nL X) {index : Nat} {v : Int32} {n : Int} (hdg : decode cc pc = .ok (.ldc index, 2)) (hq : pc + 2 = q) (hcon : Cond.constant own index v ∈ Ts) (hv : v = oI n) (kk : J p l e R s m args below meth c cells slots Q H0 X nL M q lv (vI n :: st)) : J p l e R s m args below meth c cells slots Q H0 X nL M pc lv (st) := by
  subst hq
  intro H locs ls h1 h2 h3
  have K := kk H locs ls h1 h2 h3
  subst hv; exact lv_ldc F.1 F.2.1 F.2.2.2.1 (F.2.2.2.2.1 _ hcon) hdg K
theorem j_iload_n (F : Fx p s m args c cc own Ts nL X) {k : Fin 4} {i : Nat} {z : Int} (hdg : decode cc pc = .ok (.iload_n k, 1)) (hq : pc + 1 = q) (hi : (k : Nat) = i) (j : Nat) (hk : lv[j]? = some (i, vI z)) (kk : J p l e R s m args below meth c cells slots Q H0 X nL M q lv (vI z :: st)) : J p l e R s m args below meth c cells slots Q H0 X nL M pc lv (st) := by
  subst hq
  intro H locs ls h1 h2 h3
  have K := kk H locs ls h1 h2 h3
  exact lv_iload_n F.1 F.2.1 hdg hi (lv_at h3 j hk) K
theorem j_iload (F : Fx p s m args c cc own Ts nL X) {i : Nat} {z : Int} (hdg : decode cc pc = .ok (.iload i, 2)) (hq : pc + 2 = q) (j : Nat) (hk : lv[j]? = some (i, vI z)) (kk : J p l e R s m args below meth c cells slots Q H0 X nL M q lv (vI z :: st)) : J p l e R s m args below meth c cells slots Q H0 X nL M pc lv (st) := by
  subst hq
  intro H locs ls h1 h2 h3
  have K := kk H locs ls h1 h2 h3
  exact lv_iload F.1 F.2.1 hdg (lv_at h3 j hk) K
theorem j_aload_n (F : Fx p s m args c cc own Ts nL X) {k : Fin 4} {i : Nat} {z : Nat} (hdg : decode cc pc = .ok (.aload_n k, 1)) (hq : pc + 1 = q) (hi : (k : Nat) = i) (j : Nat) (hk : lv[j]? = some (i, vR X z)) (kk : J p l e R s m args below meth c cells slots Q H0 X nL M q lv (vR X z :: st)) : J p l e R s m args below meth c cells slots Q H0 X nL M pc lv (st) := by
  subst hq
  intro H locs ls h1 h2 h3
  have K := kk H locs ls h1 h2 h3
  exact lv_aload_n F.1 F.2.1 hdg hi (lv_at h3 j hk) K
theorem j_aload (F : Fx p s m args c cc own Ts nL X) {i : Nat} {z : Nat} (hdg : decode cc pc = .ok (.aload i, 2)) (hq : pc + 2 = q) (j : Nat) (hk : lv[j]? = some (i, vR X z)) (kk : J p l e R s m args below meth c cells slots Q H0 X nL M q lv (vR X z :: st)) : J p l e R s m args below meth c cells slots Q H0 X nL M pc lv (st) := by
  subst hq
  intro H locs ls h1 h2 h3
  have K := kk H locs ls h1 h2 h3
  exact lv_aload F.1 F.2.1 hdg (lv_at h3 j hk) K
theorem j_istore_n (F : Fx p s m args c cc own Ts nL X) {k : Fin 4} {i : Nat} {z : Int} {lv' : List (Nat × Value)} (hdg : decode cc pc = .ok (.istore_n k, 1)) (hq : pc + 1 = q) (hi : (k : Nat) = i) (hn : i < nL) (hc : lv.all (fun q => q.2.category == 1) = true) (hl : lvset lv i (vI z) = lv') (kk : J p l e R s m args below meth c cells slots Q H0 X nL M q lv' st) : J p l e R s m args below meth c cells slots Q H0 X nL M pc lv (vI z :: st) := by
  subst hq; subst hl
  intro H locs ls h1 h2 h3
  have hc1 : ∀ q ∈ lv, q.2.category = 1 := fun q hq => by simpa using List.all_eq_true.mp hc q hq
  exact lv_istore_n F.1 F.2.1 hdg hi h3 hn rfl (fun ls' h' => kk H locs ls' h1 h2 (lvset_has h' hc1))
theorem j_istore (F : Fx p s m args c cc own Ts nL X) {i : Nat} {z : Int} {lv' : List (Nat × Value)} (hdg : decode cc pc = .ok (.istore i, 2)) (hq : pc + 2 = q)  (hn : i < nL) (hc : lv.all (fun q => q.2.category == 1) = true) (hl : lvset lv i (vI z) = lv') (kk : J p l e R s m args below meth c cells slots Q H0 X nL M q lv' st) : J p l e R s m args below meth c cells slots Q H0 X nL M pc lv (vI z :: st) := by
  subst hq; subst hl
  intro H locs ls h1 h2 h3
  have hc1 : ∀ q ∈ lv, q.2.category = 1 := fun q hq => by simpa using List.all_eq_true.mp hc q hq
  exact lv_istore F.1 F.2.1 hdg  h3 hn rfl (fun ls' h' => kk H locs ls' h1 h2 (lvset_has h' hc1))
theorem j_astore_n (F : Fx p s m args c cc own Ts nL X) {k : Fin 4} {i : Nat} {z : Nat} {lv' : List (Nat × Value)} (hdg : decode cc pc = .ok (.astore_n k, 1)) (hq : pc + 1 = q) (hi : (k : Nat) = i) (hn : i < nL) (hc : lv.all (fun q => q.2.category == 1) = true) (hl : lvset lv i (vR X z) = lv') (kk : J p l e R s m args below meth c cells slots Q H0 X nL M q lv' st) : J p l e R s m args below meth c cells slots Q H0 X nL M pc lv (vR X z :: st) := by
  subst hq; subst hl
  intro H locs ls h1 h2 h3
  have hc1 : ∀ q ∈ lv, q.2.category = 1 := fun q hq => by simpa using List.all_eq_true.mp hc q hq
  exact lv_astore_n F.1 F.2.1 hdg hi h3 hn rfl (fun ls' h' => kk H locs ls' h1 h2 (lvset_has h' hc1))
theorem j_astore (F : Fx p s m args c cc own Ts nL X) {i : Nat} {z : Nat} {lv' : List (Nat × Value)} (hdg : decode cc pc = .ok (.astore i, 2)) (hq : pc + 2 = q)  (hn : i < nL) (hc : lv.all (fun q => q.2.category == 1) = true) (hl : lvset lv i (vR X z) = lv') (kk : J p l e R s m args below meth c cells slots Q H0 X nL M q lv' st) : J p l e R s m args below meth c cells slots Q H0 X nL M pc lv (vR X z :: st) := by
  subst hq; subst hl
  intro H locs ls h1 h2 h3
  have hc1 : ∀ q ∈ lv, q.2.category = 1 := fun q hq => by simpa using List.all_eq_true.mp hc q hq
  exact lv_astore F.1 F.2.1 hdg  h3 hn rfl (fun ls' h' => kk H locs ls' h1 h2 (lvset_has h' hc1))
theorem j_iinc (F : Fx p s m args c cc own Ts nL X) {i : Nat} {n z : Int} {lv' : List (Nat × Value)} (hdg : decode cc pc = .ok (.iinc i n, 3)) (hq : pc + 3 = q) (j : Nat) (hk : lv[j]? = some (i, vI z)) (hn : i < nL) (hc : lv.all (fun q => q.2.category == 1) = true) (hl : lvset lv i (vI (z + n)) = lv') (kk : J p l e R s m args below meth c cells slots Q H0 X nL M q lv' st) : J p l e R s m args below meth c cells slots Q H0 X nL M pc lv st := by
  subst hq; subst hl
  intro H locs ls h1 h2 h3
  have hc1 : ∀ q ∈ lv, q.2.category = 1 := fun q hq => by simpa using List.all_eq_true.mp hc q hq
  exact lv_iinc F.1 F.2.1 hdg h3 hk (oI_add z n) hn rfl (fun ls' h' => kk H locs ls' h1 h2 (lvset_has h' hc1))
theorem j_iadd (F : Fx p s m args c cc own Ts nL X) {a b z : Int} (hdg : decode cc pc = .ok (.iadd, 1)) (hq : pc + 1 = q) (hz : a + b = z) (kk : J p l e R s m args below meth c cells slots Q H0 X nL M q lv (vI z :: st)) : J p l e R s m args below meth c cells slots Q H0 X nL M pc lv (vI b :: vI a :: st) := by
  subst hq
  intro H locs ls h1 h2 h3
  have K := kk H locs ls h1 h2 h3
  subst hz; exact lv_iadd F.1 F.2.1 hdg (by rw [oI_add]; exact K)
theorem j_isub (F : Fx p s m args c cc own Ts nL X) {a b z : Int} (hdg : decode cc pc = .ok (.isub, 1)) (hq : pc + 1 = q) (hz : a - b = z) (kk : J p l e R s m args below meth c cells slots Q H0 X nL M q lv (vI z :: st)) : J p l e R s m args below meth c cells slots Q H0 X nL M pc lv (vI b :: vI a :: st) := by
  subst hq
  intro H locs ls h1 h2 h3
  have K := kk H locs ls h1 h2 h3
  subst hz; exact lv_isub F.1 F.2.1 hdg (by rw [oI_sub]; exact K)
theorem j_imul (F : Fx p s m args c cc own Ts nL X) {a b z : Int} (hdg : decode cc pc = .ok (.imul, 1)) (hq : pc + 1 = q) (hz : a * b = z) (kk : J p l e R s m args below meth c cells slots Q H0 X nL M q lv (vI z :: st)) : J p l e R s m args below meth c cells slots Q H0 X nL M pc lv (vI b :: vI a :: st) := by
  subst hq
  intro H locs ls h1 h2 h3
  have K := kk H locs ls h1 h2 h3
  subst hz; exact lv_imul F.1 F.2.1 hdg (by rw [oI_mul]; exact K)
theorem j_idiv (F : Fx p s m args c cc own Ts nL X) {a b : Int} (hdg : decode cc pc = .ok (.idiv, 1)) (hq : pc + 1 = q) (ha : 0 ≤ a ∧ a < 2147483648) (hb : 0 < b ∧ b < 2147483648) (kk : J p l e R s m args below meth c cells slots Q H0 X nL M q lv (vI (a / b) :: st)) : J p l e R s m args below meth c cells slots Q H0 X nL M pc lv (vI b :: vI a :: st) := by
  subst hq
  intro H locs ls h1 h2 h3
  have K := kk H locs ls h1 h2 h3
  exact lv_idiv F.1 F.2.1 hdg (fun h => by have h0 := (oI_eq (a := b) (b := 0) ⟨by omega, by omega⟩ ⟨by omega, by omega⟩).mp h; omega) (by rw [oI_div ha hb]; exact K)
theorem j_irem (F : Fx p s m args c cc own Ts nL X) {a b : Int} (hdg : decode cc pc = .ok (.irem, 1)) (hq : pc + 1 = q) (ha : 0 ≤ a ∧ a < 2147483648) (hb : 0 < b ∧ b < 2147483648) (kk : J p l e R s m args below meth c cells slots Q H0 X nL M q lv (vI (a % b) :: st)) : J p l e R s m args below meth c cells slots Q H0 X nL M pc lv (vI b :: vI a :: st) := by
  subst hq
  intro H locs ls h1 h2 h3
  have K := kk H locs ls h1 h2 h3
  exact lv_irem F.1 F.2.1 hdg (fun h => by have h0 := (oI_eq (a := b) (b := 0) ⟨by omega, by omega⟩ ⟨by omega, by omega⟩).mp h; omega) (by rw [oI_rem ha hb]; exact K)
theorem j_dup (F : Fx p s m args c cc own Ts nL X) {v : Value} (hdg : decode cc pc = .ok (.dup, 1)) (hq : pc + 1 = q) (hv : v.category = 1) (kk : J p l e R s m args below meth c cells slots Q H0 X nL M q lv (v :: v :: st)) : J p l e R s m args below meth c cells slots Q H0 X nL M pc lv (v :: st) := by
  subst hq
  intro H locs ls h1 h2 h3
  have K := kk H locs ls h1 h2 h3
  exact lv_dup F.1 F.2.1 hdg hv K
theorem j_pop (F : Fx p s m args c cc own Ts nL X) {v : Value} (hdg : decode cc pc = .ok (.pop, 1)) (hq : pc + 1 = q) (hv : v.category = 1) (kk : J p l e R s m args below meth c cells slots Q H0 X nL M q lv (st)) : J p l e R s m args below meth c cells slots Q H0 X nL M pc lv (v :: st) := by
  subst hq
  intro H locs ls h1 h2 h3
  have K := kk H locs ls h1 h2 h3
  exact lv_pop F.1 F.2.1 hdg hv K
theorem j_dup_x1 (F : Fx p s m args c cc own Ts nL X) {v u : Value} (hdg : decode cc pc = .ok (.dup_x1, 1)) (hq : pc + 1 = q) (hv : v.category = 1) (hu : u.category = 1) (kk : J p l e R s m args below meth c cells slots Q H0 X nL M q lv (v :: u :: v :: st)) : J p l e R s m args below meth c cells slots Q H0 X nL M pc lv (v :: u :: st) := by
  subst hq
  intro H locs ls h1 h2 h3
  have K := kk H locs ls h1 h2 h3
  exact lv_dup_x1 F.1 F.2.1 hdg hv hu K
theorem j_dup2 (F : Fx p s m args c cc own Ts nL X) {v u : Value} (hdg : decode cc pc = .ok (.dup2, 1)) (hq : pc + 1 = q) (hv : v.category = 1) (hu : u.category = 1) (kk : J p l e R s m args below meth c cells slots Q H0 X nL M q lv (v :: u :: v :: u :: st)) : J p l e R s m args below meth c cells slots Q H0 X nL M pc lv (v :: u :: st) := by
  subst hq
  intro H locs ls h1 h2 h3
  have K := kk H locs ls h1 h2 h3
  exact lv_dup2_11 F.1 F.2.1 hdg hv hu K
theorem j_goto (F : Fx p s m args c cc own Ts nL X) {off : Int} (hdg : decode cc pc = .ok (.goto off, 3)) (ht : (pc : Int) + off = (q : Int)) (kk : J p l e R s m args below meth c cells slots Q H0 X nL M q lv st) : J p l e R s m args below meth c cells slots Q H0 X nL M pc lv st := by
  intro H locs ls h1 h2 h3
  exact lv_goto F.1 F.2.1 hdg ht (kk H locs ls h1 h2 h3)
theorem j_icmp_lt (F : Fx p s m args c cc own Ts nL X) {a b off : Int} {tgt : Nat} (hdg : decode cc pc = .ok (.if_icmp .lt off, 3)) (ht : (pc : Int) + off = (tgt : Int)) (hq : pc + 3 = q) (ha : inR a) (hb : inR b) (kt : a < b → J p l e R s m args below meth c cells slots Q H0 X nL M tgt lv st) (kf : b ≤ a → J p l e R s m args below meth c cells slots Q H0 X nL M q lv st) : J p l e R s m args below meth c cells slots Q H0 X nL M pc lv (vI b :: vI a :: st) := by
  subst hq
  intro H locs ls h1 h2 h3
  exact lv_icmp_lt F.1 F.2.1 hdg ht (fun h => kt ((oI_lt ha hb).mp h) H locs ls h1 h2 h3) (fun h => kf (Int.not_lt.mp (fun z => h ((oI_lt ha hb).mpr z))) H locs ls h1 h2 h3)
theorem j_if_lt (F : Fx p s m args c cc own Ts nL X) {a off : Int} {tgt : Nat} (hdg : decode cc pc = .ok (.ifCond .lt off, 3)) (ht : (pc : Int) + off = (tgt : Int)) (hq : pc + 3 = q) (ha : inR a) (kt : a < 0 → J p l e R s m args below meth c cells slots Q H0 X nL M tgt lv st) (kf : 0 ≤ a → J p l e R s m args below meth c cells slots Q H0 X nL M q lv st) : J p l e R s m args below meth c cells slots Q H0 X nL M pc lv (vI a :: st) := by
  subst hq
  have hb : inR 0 := ⟨by decide, by decide⟩
  intro H locs ls h1 h2 h3
  exact lv_if_lt F.1 F.2.1 hdg ht (fun h => kt ((oI_lt ha hb).mp h) H locs ls h1 h2 h3) (fun h => kf (Int.not_lt.mp (fun z => h ((oI_lt ha hb).mpr z))) H locs ls h1 h2 h3)
theorem j_icmp_ge (F : Fx p s m args c cc own Ts nL X) {a b off : Int} {tgt : Nat} (hdg : decode cc pc = .ok (.if_icmp .ge off, 3)) (ht : (pc : Int) + off = (tgt : Int)) (hq : pc + 3 = q) (ha : inR a) (hb : inR b) (kt : b ≤ a → J p l e R s m args below meth c cells slots Q H0 X nL M tgt lv st) (kf : a < b → J p l e R s m args below meth c cells slots Q H0 X nL M q lv st) : J p l e R s m args below meth c cells slots Q H0 X nL M pc lv (vI b :: vI a :: st) := by
  subst hq
  intro H locs ls h1 h2 h3
  exact lv_icmp_ge F.1 F.2.1 hdg ht (fun h => kt ((oI_le hb ha).mp h) H locs ls h1 h2 h3) (fun h => kf (Int.not_le.mp (fun z => h ((oI_le hb ha).mpr z))) H locs ls h1 h2 h3)
theorem j_if_ge (F : Fx p s m args c cc own Ts nL X) {a off : Int} {tgt : Nat} (hdg : decode cc pc = .ok (.ifCond .ge off, 3)) (ht : (pc : Int) + off = (tgt : Int)) (hq : pc + 3 = q) (ha : inR a) (kt : 0 ≤ a → J p l e R s m args below meth c cells slots Q H0 X nL M tgt lv st) (kf : a < 0 → J p l e R s m args below meth c cells slots Q H0 X nL M q lv st) : J p l e R s m args below meth c cells slots Q H0 X nL M pc lv (vI a :: st) := by
  subst hq
  have hb : inR 0 := ⟨by decide, by decide⟩
  intro H locs ls h1 h2 h3
  exact lv_if_ge F.1 F.2.1 hdg ht (fun h => kt ((oI_le hb ha).mp h) H locs ls h1 h2 h3) (fun h => kf (Int.not_le.mp (fun z => h ((oI_le hb ha).mpr z))) H locs ls h1 h2 h3)
theorem j_icmp_gt (F : Fx p s m args c cc own Ts nL X) {a b off : Int} {tgt : Nat} (hdg : decode cc pc = .ok (.if_icmp .gt off, 3)) (ht : (pc : Int) + off = (tgt : Int)) (hq : pc + 3 = q) (ha : inR a) (hb : inR b) (kt : b < a → J p l e R s m args below meth c cells slots Q H0 X nL M tgt lv st) (kf : a ≤ b → J p l e R s m args below meth c cells slots Q H0 X nL M q lv st) : J p l e R s m args below meth c cells slots Q H0 X nL M pc lv (vI b :: vI a :: st) := by
  subst hq
  intro H locs ls h1 h2 h3
  exact lv_icmp_gt F.1 F.2.1 hdg ht (fun h => kt ((oI_lt hb ha).mp h) H locs ls h1 h2 h3) (fun h => kf (Int.not_lt.mp (fun z => h ((oI_lt hb ha).mpr z))) H locs ls h1 h2 h3)
theorem j_if_gt (F : Fx p s m args c cc own Ts nL X) {a off : Int} {tgt : Nat} (hdg : decode cc pc = .ok (.ifCond .gt off, 3)) (ht : (pc : Int) + off = (tgt : Int)) (hq : pc + 3 = q) (ha : inR a) (kt : 0 < a → J p l e R s m args below meth c cells slots Q H0 X nL M tgt lv st) (kf : a ≤ 0 → J p l e R s m args below meth c cells slots Q H0 X nL M q lv st) : J p l e R s m args below meth c cells slots Q H0 X nL M pc lv (vI a :: st) := by
  subst hq
  have hb : inR 0 := ⟨by decide, by decide⟩
  intro H locs ls h1 h2 h3
  exact lv_if_gt F.1 F.2.1 hdg ht (fun h => kt ((oI_lt hb ha).mp h) H locs ls h1 h2 h3) (fun h => kf (Int.not_lt.mp (fun z => h ((oI_lt hb ha).mpr z))) H locs ls h1 h2 h3)
theorem j_icmp_le (F : Fx p s m args c cc own Ts nL X) {a b off : Int} {tgt : Nat} (hdg : decode cc pc = .ok (.if_icmp .le off, 3)) (ht : (pc : Int) + off = (tgt : Int)) (hq : pc + 3 = q) (ha : inR a) (hb : inR b) (kt : a ≤ b → J p l e R s m args below meth c cells slots Q H0 X nL M tgt lv st) (kf : b < a → J p l e R s m args below meth c cells slots Q H0 X nL M q lv st) : J p l e R s m args below meth c cells slots Q H0 X nL M pc lv (vI b :: vI a :: st) := by
  subst hq
  intro H locs ls h1 h2 h3
  exact lv_icmp_le F.1 F.2.1 hdg ht (fun h => kt ((oI_le ha hb).mp h) H locs ls h1 h2 h3) (fun h => kf (Int.not_le.mp (fun z => h ((oI_le ha hb).mpr z))) H locs ls h1 h2 h3)
theorem j_if_le (F : Fx p s m args c cc own Ts nL X) {a off : Int} {tgt : Nat} (hdg : decode cc pc = .ok (.ifCond .le off, 3)) (ht : (pc : Int) + off = (tgt : Int)) (hq : pc + 3 = q) (ha : inR a) (kt : a ≤ 0 → J p l e R s m args below meth c cells slots Q H0 X nL M tgt lv st) (kf : 0 < a → J p l e R s m args below meth c cells slots Q H0 X nL M q lv st) : J p l e R s m args below meth c cells slots Q H0 X nL M pc lv (vI a :: st) := by
  subst hq
  have hb : inR 0 := ⟨by decide, by decide⟩
  intro H locs ls h1 h2 h3
  exact lv_if_le F.1 F.2.1 hdg ht (fun h => kt ((oI_le ha hb).mp h) H locs ls h1 h2 h3) (fun h => kf (Int.not_le.mp (fun z => h ((oI_le ha hb).mpr z))) H locs ls h1 h2 h3)
theorem j_icmp_eq (F : Fx p s m args c cc own Ts nL X) {a b off : Int} {tgt : Nat} (hdg : decode cc pc = .ok (.if_icmp .eq off, 3)) (ht : (pc : Int) + off = (tgt : Int)) (hq : pc + 3 = q) (ha : inR a) (hb : inR b) (kt : a = b → J p l e R s m args below meth c cells slots Q H0 X nL M tgt lv st) (kf : a ≠ b → J p l e R s m args below meth c cells slots Q H0 X nL M q lv st) : J p l e R s m args below meth c cells slots Q H0 X nL M pc lv (vI b :: vI a :: st) := by
  subst hq
  intro H locs ls h1 h2 h3
  exact lv_icmp_eq F.1 F.2.1 hdg ht (fun h => kt ((oI_eq ha hb).mp h) H locs ls h1 h2 h3) (fun h => kf (fun z => h ((oI_eq ha hb).mpr z)) H locs ls h1 h2 h3)
theorem j_if_eq (F : Fx p s m args c cc own Ts nL X) {a off : Int} {tgt : Nat} (hdg : decode cc pc = .ok (.ifCond .eq off, 3)) (ht : (pc : Int) + off = (tgt : Int)) (hq : pc + 3 = q) (ha : inR a) (kt : a = 0 → J p l e R s m args below meth c cells slots Q H0 X nL M tgt lv st) (kf : a ≠ 0 → J p l e R s m args below meth c cells slots Q H0 X nL M q lv st) : J p l e R s m args below meth c cells slots Q H0 X nL M pc lv (vI a :: st) := by
  subst hq
  have hb : inR 0 := ⟨by decide, by decide⟩
  intro H locs ls h1 h2 h3
  exact lv_if_eq F.1 F.2.1 hdg ht (fun h => kt ((oI_eq ha hb).mp h) H locs ls h1 h2 h3) (fun h => kf (fun z => h ((oI_eq ha hb).mpr z)) H locs ls h1 h2 h3)
theorem j_icmp_ne (F : Fx p s m args c cc own Ts nL X) {a b off : Int} {tgt : Nat} (hdg : decode cc pc = .ok (.if_icmp .ne off, 3)) (ht : (pc : Int) + off = (tgt : Int)) (hq : pc + 3 = q) (ha : inR a) (hb : inR b) (kt : a ≠ b → J p l e R s m args below meth c cells slots Q H0 X nL M tgt lv st) (kf : a = b → J p l e R s m args below meth c cells slots Q H0 X nL M q lv st) : J p l e R s m args below meth c cells slots Q H0 X nL M pc lv (vI b :: vI a :: st) := by
  subst hq
  intro H locs ls h1 h2 h3
  exact lv_icmp_ne F.1 F.2.1 hdg ht (fun h => kt (fun z => h ((oI_eq ha hb).mpr z)) H locs ls h1 h2 h3) (fun h => kf ((oI_eq ha hb).mp h) H locs ls h1 h2 h3)
theorem j_if_ne (F : Fx p s m args c cc own Ts nL X) {a off : Int} {tgt : Nat} (hdg : decode cc pc = .ok (.ifCond .ne off, 3)) (ht : (pc : Int) + off = (tgt : Int)) (hq : pc + 3 = q) (ha : inR a) (kt : a ≠ 0 → J p l e R s m args below meth c cells slots Q H0 X nL M tgt lv st) (kf : a = 0 → J p l e R s m args below meth c cells slots Q H0 X nL M q lv st) : J p l e R s m args below meth c cells slots Q H0 X nL M pc lv (vI a :: st) := by
  subst hq
  have hb : inR 0 := ⟨by decide, by decide⟩
  intro H locs ls h1 h2 h3
  exact lv_if_ne F.1 F.2.1 hdg ht (fun h => kt (fun z => h ((oI_eq ha hb).mpr z)) H locs ls h1 h2 h3) (fun h => kf ((oI_eq ha hb).mp h) H locs ls h1 h2 h3)
theorem j_ifnull (F : Fx p s m args c cc own Ts nL X) {z : Nat} {off : Int} (hdg : decode cc pc = .ok (.ifnull off, 3)) (hq : pc + 3 = q) (kk : J p l e R s m args below meth c cells slots Q H0 X nL M q lv st) : J p l e R s m args below meth c cells slots Q H0 X nL M pc lv (vR X z :: st) := by
  subst hq
  intro H locs ls h1 h2 h3
  exact lv_ifnull F.1 F.2.1 hdg (kk H locs ls h1 h2 h3)
theorem j_tableIn (F : Fx p s m args c cc own Ts nL X) {dflt lo hi : Int} {offs : Array Int} {len : Nat} {a off : Int} {tgt : Nat} (hdg : decode cc pc = .ok (.tableswitch dflt lo hi offs, len)) (ha : inR a) (h1 : lo ≤ a ∧ a ≤ hi) (ho : offs[(a - lo).toNat]? = some off) (ht : (pc : Int) + off = (tgt : Int)) (kk : J p l e R s m args below meth c cells slots Q H0 X nL M tgt lv st) : J p l e R s m args below meth c cells slots Q H0 X nL M pc lv (vI a :: st) := by
  intro H locs ls g1 g2 g3
  exact lv_tableIn F.1 F.2.1 hdg (by rw [oI_toInt ha]; omega) (by rw [oI_toInt ha]; omega) (by rw [oI_toInt ha]; exact ho) ht (kk H locs ls g1 g2 g3)
theorem j_tableOut (F : Fx p s m args c cc own Ts nL X) {dflt lo hi : Int} {offs : Array Int} {len : Nat} {a : Int} {tgt : Nat} (hdg : decode cc pc = .ok (.tableswitch dflt lo hi offs, len)) (ha : inR a) (h1 : a < lo ∨ hi < a) (ht : (pc : Int) + dflt = (tgt : Int)) (kk : J p l e R s m args below meth c cells slots Q H0 X nL M tgt lv st) : J p l e R s m args below meth c cells slots Q H0 X nL M pc lv (vI a :: st) := by
  intro H locs ls g1 g2 g3
  exact lv_tableOut F.1 F.2.1 hdg (by rw [oI_toInt ha]; exact h1) ht (kk H locs ls g1 g2 g3)
theorem j_getI (F : Fx p s m args c cc own Ts nL X) {ci N index d n0 : Nat} {C : String} {T : u_T} {fs : List (Option Nat)} (hsh : shs[d]? = some (ci + 3, n0, fs)) (hcl : vwCl[ci]? = some (C, T, N)) (hin : ∀ w ∈ u_ws C T N, w ∈ Ts) (k : Nat) (hk : k < N) {i : Int} (hi : ((k : Nat) : Int) = i) (hf : fs[k]? = some none) (hlink : Cond.fieldLink own index (T k).1 (T k).2.1 (T k).2.2.1 ∈ Ts) (hdg : decode cc pc = .ok (.getfield index, 3)) (hq : pc + 3 = q) (kk : J p l e R s m args below meth c cells slots Q H0 X nL M q lv (vI (M d i) :: st)) : J p l e R s m args below meth c cells slots Q H0 X nL M pc lv (vR X d :: st) := by
  subst hq; subst hi
  intro H locs ls h1 h2 h3
  exact va_get (ci := ci) F.1 F.2.1 F.2.2.2.2.1 hin F.2.2.2.1 F.2.2.2.2.2.1 h1 d (wl_at hsh) hcl k hk (F.2.2.2.2.1 _ hlink) (fun _ h => h) (fvs_at hf) hdg (kk H locs ls h1 h2 h3)
theorem j_getR (F : Fx p s m args c cc own Ts nL X) {ci N index d n0 : Nat} {C : String} {T : u_T} {fs : List (Option Nat)} (hsh : shs[d]? = some (ci + 3, n0, fs)) (hcl : vwCl[ci]? = some (C, T, N)) (hin : ∀ w ∈ u_ws C T N, w ∈ Ts) (k : Nat) (hk : k < N) {z : Nat} (hf : fs[k]? = some (some z)) (hlink : Cond.fieldLink own index (T k).1 (T k).2.1 (T k).2.2.1 ∈ Ts) (hdg : decode cc pc = .ok (.getfield index, 3)) (hq : pc + 3 = q) (kk : J p l e R s m args below meth c cells slots Q H0 X nL M q lv (vR X z :: st)) : J p l e R s m args below meth c cells slots Q H0 X nL M pc lv (vR X d :: st) := by
  subst hq
  intro H locs ls h1 h2 h3
  exact va_get (ci := ci) F.1 F.2.1 F.2.2.2.2.1 hin F.2.2.2.1 F.2.2.2.2.2.1 h1 d (wl_at hsh) hcl k hk (F.2.2.2.2.1 _ hlink) (fun _ h => h) (fvs_at hf) hdg (kk H locs ls h1 h2 h3)
theorem j_putI (F : Fx p s m args c cc own Ts nL X) {ci N index d n0 : Nat} {C : String} {T : u_T} {fs : List (Option Nat)} (hsh : shs[d]? = some (ci + 3, n0, fs)) (hcl : vwCl[ci]? = some (C, T, N)) (hin : ∀ w ∈ u_ws C T N, w ∈ Ts) (k : Nat) (hk : k < N) {i a : Int} {ty0 : Nat → FieldType} (hty : ∀ k, k < N → parseFieldDescriptor (T k).2.2.1 = some (ty0 k)) (hnm : ∀ a, a < N → ∀ b, b < N → a ≠ b → (T a).2.1 ≠ (T b).2.1) (hi : ((k : Nat) : Int) = i) (hf : fs[k]? = some none) (hI : (T k).2.2.1 = "I") (hfin : (T k).2.2.2 = false) (hlink : Cond.fieldLink own index (T k).1 (T k).2.1 (T k).2.2.1 ∈ Ts) (hdg : decode cc pc = .ok (.putfield index, 3)) (hq : pc + 3 = q) (kk : J p l e R s m args below meth c cells slots Q H0 X nL (mset M d i a) q lv st) : J p l e R s m args below meth c cells slots Q H0 X nL M pc lv (vI a :: vR X d :: st) := by
  subst hq; subst hi
  intro H locs ls h1 h2 h3
  have hl : k < (fvs X M d fs).length := (List.getElem?_eq_some_iff.mp (fvs_at (X := X) (M := M) (c := d) hf)).1
  have hd : parseFieldDescriptor (T k).2.2.1 = some .int := by rw [hI]; decide +kernel
  refine va_put (ci := ci) F.1 F.2.1 F.2.2.2.2.1 hin ty0 hty hnm F.2.2.2.1 F.2.2.2.2.2.1 h1 (wl_D F.2.2.2.2.2.2 M) h2 d (wl_at hsh) hcl k hk (F.2.2.2.2.1 _ hlink) (fun _ h => h) hfin hd (v := vI a) rfl rfl hl hdg (fun H1 locs1 hP _ hS => kk H1 locs1 ls ?_ hS h3)
  rw [wl_set (i := (k : Int)) (v := a) hsh (by show Sum.inr (ci, fvs X (mset M d k a) d fs) = _; rw [fvs_set hf])] at hP
  exact hP
theorem j_iald (F : Fx p s m args c cc own Ts nL X) {d n : Nat} {fs : List (Option Nat)} (hsh : shs[d]? = some (0, n, fs)) {i : Int} (h0 : 0 ≤ i) (hi : i < (n : Int)) (hn : n < 2147483648) (hdg : decode cc pc = .ok (.iaload, 1)) (hq : pc + 1 = q) (kk : J p l e R s m args below meth c cells slots Q H0 X nL M q lv (vI (M d i) :: st)) : J p l e R s m args below meth c cells slots Q H0 X nL M pc lv (vI i :: vR X d :: st) := by
  subst hq
  intro H locs ls h1 h2 h3
  refine va_iald F.1 F.2.1 F.2.2.2.2.2.1 h1 d 0 (wl_at hsh) rfl (oI_in h0 hi hn) hdg ?_
  have K := kk H locs ls h1 h2 h3
  show W p l e R s m args below meth c H locs cells slots Q (F0 m (pc + 1) ls (vI (M d ((oI i).toNatClampNeg : Int)) :: st))
  rw [oI_clamp h0 (by omega), show ((i.toNat : Nat) : Int) = i from Int.toNat_of_nonneg h0]
  exact K
theorem j_iast (F : Fx p s m args c cc own Ts nL X) {d n : Nat} {fs : List (Option Nat)} (hsh : shs[d]? = some (0, n, fs)) {i a : Int} (h0 : 0 ≤ i) (hi : i < (n : Int)) (hn : n < 2147483648) (hdg : decode cc pc = .ok (.iastore, 1)) (hq : pc + 1 = q) (kk : J p l e R s m args below meth c cells slots Q H0 X nL (mset M d i a) q lv st) : J p l e R s m args below meth c cells slots Q H0 X nL M pc lv (vI a :: vI i :: vR X d :: st) := by
  subst hq
  intro H locs ls h1 h2 h3
  refine va_iast F.1 F.2.1 F.2.2.2.2.2.1 h1 (wl_D F.2.2.2.2.2.2 M) h2 d 0 (wl_at hsh) rfl (oI_in h0 hi hn) hdg (fun H1 locs1 hP _ hS => kk H1 locs1 ls ?_ hS h3)
  rw [wl_set (i := i) (v := a) hsh (by
    show Sum.inl (X.2.2.2.1, n, Sum.inl (fun j : Nat => oI (mset M d i a d j))) = Sum.inl (X.2.2.2.1, n, Sum.inl (upd (fun j : Nat => oI (M d j)) (oI i).toNatClampNeg (oI a)))
    rw [oI_clamp h0 (by omega)]
    refine congrArg (fun g : Nat → Int32 => (Sum.inl (X.2.2.2.1, n, Sum.inl g) : va_E)) (funext fun j => ?_)
    by_cases hj : j = i.toNat
    · have hj2 : ((j : Nat) : Int) = i := by omega
      rw [hj2, mset_at]
      simp [upd, hj]
    · rw [mset_ne2 (by omega)]
      simp [upd, hj])] at hP
  exact hP
theorem j_i2c (F : Fx p s m args c cc own Ts nL X) {a : Int} (hdg : decode cc pc = .ok (.i2c, 1)) (hq : pc + 1 = q) (ha : 0 ≤ a ∧ a < 65536) (kk : J p l e R s m args below meth c cells slots Q H0 X nL M q lv (vI a :: st)) : J p l e R s m args below meth c cells slots Q H0 X nL M pc lv (vI a :: st) := by
  subst hq
  intro H locs ls h1 h2 h3
  have K := kk H locs ls h1 h2 h3
  exact lv_i2c F.1 F.2.1 hdg (oI_i2c ha) K
theorem j_alen (F : Fx p s m args c cc own Ts nL X) {d n kk0 : Nat} {fs : List (Option Nat)} (hsh : shs[d]? = some (kk0, n, fs)) (hkk : kk0 < 3) (hdg : decode cc pc = .ok (.arraylength, 1)) (hq : pc + 1 = q) {z : Int} (hz : ((n : Nat) : Int) = z) (kk : J p l e R s m args below meth c cells slots Q H0 X nL M q lv (vI z :: st)) : J p l e R s m args below meth c cells slots Q H0 X nL M pc lv (vR X d :: st) := by
  subst hq; subst hz
  intro H locs ls h1 h2 h3
  have K := kk H locs ls h1 h2 h3
  match kk0, hkk with
  | 0, _ => exact va_alen F.1 F.2.1 F.2.2.2.2.2.1 h1 d 0 (wl_at hsh) rfl (oI_nat n).symm hdg K
  | 1, _ => exact va_alen F.1 F.2.1 F.2.2.2.2.2.1 h1 d 1 (wl_at hsh) rfl (oI_nat n).symm hdg K
  | 2, _ => exact va_alen F.1 F.2.1 F.2.2.2.2.2.1 h1 d 2 (wl_at hsh) rfl (oI_nat n).symm hdg K
theorem j_aald (F : Fx p s m args c cc own Ts nL X) {d n : Nat} {fs : List (Option Nat)} (hsh : shs[d]? = some (2, n, fs)) {i : Int} {z : Nat} (h0 : 0 ≤ i) (hi : i < (n : Int)) (hn : n < 2147483648) (hz : M d i = (z : Int)) (hdg : decode cc pc = .ok (.aaload, 1)) (hq : pc + 1 = q) (kk : J p l e R s m args below meth c cells slots Q H0 X nL M q lv (vR X z :: st)) : J p l e R s m args below meth c cells slots Q H0 X nL M pc lv (vI i :: vR X d :: st) := by
  subst hq
  intro H locs ls h1 h2 h3
  refine va_aldq F.1 F.2.1 F.2.2.2.2.2.1 h1 d 2 (wl_at hsh) rfl (oI_in h0 hi hn) hdg ?_
  have K := kk H locs ls h1 h2 h3
  show W p l e R s m args below meth c H locs cells slots Q (F0 m (pc + 1) ls (Value.ref (X.1 (M d ((oI i).toNatClampNeg : Int)).toNat) :: st))
  rw [oI_clamp h0 (by omega), show ((i.toNat : Nat) : Int) = i from Int.toNat_of_nonneg h0, hz]
  exact K
theorem j_aast (F : Fx p s m args c cc own Ts nL X) {d n : Nat} {fs : List (Option Nat)} (hsh : shs[d]? = some (2, n, fs)) {i : Int} {z n1 : Nat} {fs1 : List (Option Nat)} (h0 : 0 ≤ i) (hi : i < (n : Int)) (hn : n < 2147483648) (hz : shs[z]? = some (4, n1, fs1)) (hdg : decode cc pc = .ok (.aastore, 1)) (hq : pc + 1 = q) (kk : J p l e R s m args below meth c cells slots Q H0 X nL (mset M d i z) q lv st) : J p l e R s m args below meth c cells slots Q H0 X nL M pc lv (vR X z :: vI i :: vR X d :: st) := by
  subst hq
  intro H locs ls h1 h2 h3
  refine va_astq (ci := 1) (r := (RX1, TX1, 6)) F.1 F.2.1 F.2.2.2.2.2.1 h1 (wl_D F.2.2.2.2.2.2 M) h2 d 2 z (wl_at hsh) rfl (wl_at hz) rfl (oI_in h0 hi hn) hdg (fun H1 locs1 hP _ hS => kk H1 locs1 ls ?_ hS h3)
  rw [wl_set (i := i) (v := (z : Int)) hsh (by
    show Sum.inl (X.2.2.2.2.2, n, Sum.inr (Sum.inr (Sum.inr (Sum.inr (fun j : Nat => some (X.1 (mset M d i z d j).toNat)))))) = Sum.inl (X.2.2.2.2.2, n, Sum.inr (Sum.inr (Sum.inr (Sum.inr (va_up (fun j : Nat => some (X.1 (M d j).toNat)) (oI i).toNatClampNeg (some (X.1 z)))))))
    rw [oI_clamp h0 (by omega)]
    refine congrArg (fun g : Nat → Option Nat => (Sum.inl (X.2.2.2.2.2, n, Sum.inr (Sum.inr (Sum.inr (Sum.inr g)))) : va_E)) (funext fun j => ?_)
    by_cases hj : j = i.toNat
    · have hj2 : ((j : Nat) : Int) = i := by omega
      rw [hj2, mset_at]
      simp [va_up, hj]
    · rw [mset_ne2 (by omega)]
      simp [va_up, hj])] at hP
  exact hP
theorem j_max (F : Fx p s m args c cc own Ts nL X) {index : Nat} {a b : Int} (hw1 : Cond.methodLink own index Lib.Math.max.name ∈ Ts) (hw2 : Cond.static Lib.Math.max.name ∈ Ts) (hw3 : Cond.initialized "java/lang/Math" ∈ Ts) (hw4 : Cond.code Lib.Math.max.name Lib.Math.max.code 2 (some .int) ∈ Ts) (hR : 1 ≤ R.frames ∧ (st.map fun v => v.category).sum + 13 ≤ R.locals ∧ cells ≤ R.cells ∧ slots ≤ R.slots) (ha : inR a) (hb : inR b) (hdg : decode cc pc = .ok (.invokestatic index, 3)) (hq : pc + 3 = q) (kk : J p l e R s m args below meth c cells slots Q H0 X nL M q lv (vI (max a b) :: st)) : J p l e R s m args below meth c cells slots Q H0 X nL M pc lv (vI b :: vI a :: st) := by
  subst hq
  intro H locs ls h1 h2 h3
  have K := kk H locs ls h1 h2 h3
  refine va_mmax F.1 F.2.1 (F.2.2.1.trans h3.1.symm) F.2.2.2.1 (F.2.2.2.2.1 _ hw1) (F.2.2.2.2.1 _ hw2) (F.2.2.2.2.1 _ hw3) (F.2.2.2.2.1 _ hw4) hR.1 hR.2.1 hR.2.2.1 hR.2.2.2 hdg ?_
  rw [show (if oI a < oI b then oI b else oI a) = oI (max a b) from ?_]
  · exact K
  · by_cases h : a < b
    · rw [if_pos ((oI_lt ha hb).mpr h)]; congr 1; omega
    · rw [if_neg (fun z => h ((oI_lt ha hb).mp z))]; congr 1; omega
theorem j_min (F : Fx p s m args c cc own Ts nL X) {index : Nat} {a b : Int} (hw1 : Cond.methodLink own index Lib.Math.min.name ∈ Ts) (hw2 : Cond.static Lib.Math.min.name ∈ Ts) (hw3 : Cond.initialized "java/lang/Math" ∈ Ts) (hw4 : Cond.code Lib.Math.min.name Lib.Math.min.code 2 (some .int) ∈ Ts) (hR : 1 ≤ R.frames ∧ (st.map fun v => v.category).sum + 13 ≤ R.locals ∧ cells ≤ R.cells ∧ slots ≤ R.slots) (ha : inR a) (hb : inR b) (hdg : decode cc pc = .ok (.invokestatic index, 3)) (hq : pc + 3 = q) (kk : J p l e R s m args below meth c cells slots Q H0 X nL M q lv (vI (min a b) :: st)) : J p l e R s m args below meth c cells slots Q H0 X nL M pc lv (vI b :: vI a :: st) := by
  subst hq
  intro H locs ls h1 h2 h3
  have K := kk H locs ls h1 h2 h3
  refine va_mmin F.1 F.2.1 (F.2.2.1.trans h3.1.symm) F.2.2.2.1 (F.2.2.2.2.1 _ hw1) (F.2.2.2.2.1 _ hw2) (F.2.2.2.2.1 _ hw3) (F.2.2.2.2.1 _ hw4) hR.1 hR.2.1 hR.2.2.1 hR.2.2.2 hdg ?_
  rw [show (if oI b < oI a then oI b else oI a) = oI (min a b) from ?_]
  · exact K
  · by_cases h : b < a
    · rw [if_pos ((oI_lt hb ha).mpr h)]; congr 1; omega
    · rw [if_neg (fun z => h ((oI_lt hb ha).mp z))]; congr 1; omega
theorem j_sub {lv' : List (Nat × Value)} (ks : List Nat) (hl : lv_pick lv ks = lv') (kk : J p l e R s m args below meth c cells slots Q H0 X nL M pc lv' st) : J p l e R s m args below meth c cells slots Q H0 X nL M pc lv st := fun H locs ls h1 h2 h3 => kk H locs ls h1 h2 (lv_sub h3 ks hl)
theorem j_mem {M' : Mem} (h : M = M') (kk : J p l e R s m args below meth c cells slots Q H0 X nL M' pc lv st) : J p l e R s m args below meth c cells slots Q H0 X nL M pc lv st := h ▸ kk
end JR
/-! ===== contracts over the memory ===== -/
/-- from memory M, with the arguments as: an int comes back, and a memory, of which post holds; nothing else changes -/
def CtI (l : Launch) (X : Cx) (y : MethodName) (ws : List Cond) (k : Nat) (as : List Value) (M : Mem) (post : Int → Mem → Prop) : Prop :=
  Met l y ws (rm k) (va_Pc as (fun U => Wd X M U.heap ∧ KK X U)) (va_Qi (S := Int × Mem) (fun r u => r = oI u.1 ∧ post u.1 u.2) (fun u t => Wd X u.2 t.heap) (Aw X)) 0 0 (Aw X)
def CtV (l : Launch) (X : Cx) (y : MethodName) (ws : List Cond) (k : Nat) (as : List Value) (M : Mem) (post : Mem → Prop) : Prop :=
  Met l y ws (rm k) (va_Pc as (fun U => Wd X M U.heap ∧ KK X U)) (va_Qv (S := Mem) post (fun u t => Wd X u t.heap) (Aw X)) 0 0 (Aw X)
def CtR (l : Launch) (X : Cx) (y : MethodName) (ws : List Cond) (k : Nat) (as : List Value) (M : Mem) (post : Nat → Mem → Prop) : Prop :=
  Met l y ws (rm k) (va_Pc as (fun U => Wd X M U.heap ∧ KK X U)) (va_Qr (S := Nat × Mem) (fun u => post u.1 u.2) (fun u a t => a = X.1 u.1 ∧ Wd X u.2 t.heap) (Aw X)) 0 0 (Aw X)
theorem ct_blind {X : Cx} {M : Mem} {as : List Value} : FrameBlind (va_Pc as (fun U => Wd X M U.heap ∧ KK X U)) := fun a U g mk q => by
  obtain ⟨q0, qP, qK⟩ := q
  exact ⟨q0, qP, va_K.moved (u := U) (U := U.calling g mk a) (Vm.Alike.refl U.vm) qK⟩
theorem CtI_ex {l : Launch} {X : Cx} {y : MethodName} {ws : List Cond} {k : Nat} {as : List Value} {M : Mem} {post post' : Int → Mem → Prop} (h : CtI l X y ws k as M post) (hp : post = post') : CtI l X y ws k as M post' := hp ▸ h
theorem CtI_of {l : Launch} {X : Cx} {y : MethodName} {ws ws' : List Cond} {k : Nat} {as : List Value} {M : Mem} {post : Int → Mem → Prop} {cc : ByteArray} {maxL : Nat} (hX : Inj X) (hy : plainName y.cls = true) (hw : ws = Cond.code y cc maxL (some .int) :: ws') (hlen : (lg_sl as).length ≤ maxL) (body : ∀ (p : Program) (e : Env) (s : State) (m : MethodId) (args : Array Value) (below : List Frame) (meth : Method) (c : Code) (Q : State → Prop), Fx p s m args c cc y.cls ws maxL X → (∀ (M' : Mem) (pc : Nat) (lv : List (Nat × Value)) (r : Int), decode cc pc = .ok (.ireturn, 1) → post r M' → J p l e (rm k) s m args below meth c 0 0 Q s.heap X maxL M' pc lv [vI r]) → J p l e (rm k) s m args below meth c 0 0 Q s.heap X maxL M 0 (lv_args 0 as) []) : CtI l X y ws k as M post := by
  refine Met.ofW hy hw ?_
  intro p e s m args below meth c s₁ B hml hv
  obtain ⟨rfl, hP, hK⟩ := hv
  have hr := B.returns
  have hlocks := B.notSynchronized
  rw [lg_entry_eq]
  exact body p e s m as.toArray below meth c _ ⟨B.exec, B.bytes, hml, findClass_of_methodNamed B.named, atoms_spec (ws := ws) B.pre, hK, hX⟩ (fun M' pc lv r hd hp H locs ls hW hS hl => W.iret B.exec B.bytes hr (fun t ht hWm => ⟨⟨oI r, (r, M'), rfl, ⟨rfl, hp⟩, by show Wd X M' t.heap; rw [ht]; exact hW⟩, hS.F ht⟩) hS.2.2 hd) s.heap [] _ hP va_S.rf (lv_entry as hlen)
theorem CtI_ofZ {l : Launch} {X : Cx} {y : MethodName} {ws ws' : List Cond} {k : Nat} {as : List Value} {M : Mem} {post : Int → Mem → Prop} {cc : ByteArray} {maxL : Nat} (hX : Inj X) (hy : plainName y.cls = true) (hw : ws = Cond.code y cc maxL (some .boolean) :: ws') (hlen : (lg_sl as).length ≤ maxL) (body : ∀ (p : Program) (e : Env) (s : State) (m : MethodId) (args : Array Value) (below : List Frame) (meth : Method) (c : Code) (Q : State → Prop), Fx p s m args c cc y.cls ws maxL X → (∀ (M' : Mem) (pc : Nat) (lv : List (Nat × Value)) (r : Int), decode cc pc = .ok (.ireturn, 1) → r = 0 ∨ r = 1 → post r M' → J p l e (rm k) s m args below meth c 0 0 Q s.heap X maxL M' pc lv [vI r]) → J p l e (rm k) s m args below meth c 0 0 Q s.heap X maxL M 0 (lv_args 0 as) []) : CtI l X y ws k as M post := by
  refine Met.ofW hy hw ?_
  intro p e s m args below meth c s₁ B hml hv
  obtain ⟨rfl, hP, hK⟩ := hv
  have hr := B.returns
  have hlocks := B.notSynchronized
  rw [lg_entry_eq]
  exact body p e s m as.toArray below meth c _ ⟨B.exec, B.bytes, hml, findClass_of_methodNamed B.named, atoms_spec (ws := ws) B.pre, hK, hX⟩ (fun M' pc lv r hd h01 hp H locs ls hW hS hl => W.zret B.exec B.bytes hr (by rcases h01 with rfl | rfl <;> decide) (fun t ht hWm => ⟨⟨oI r, (r, M'), rfl, ⟨rfl, hp⟩, by show Wd X M' t.heap; rw [ht]; exact hW⟩, hS.F ht⟩) hS.2.2 hd) s.heap [] _ hP va_S.rf (lv_entry as hlen)
theorem CtV_of {l : Launch} {X : Cx} {y : MethodName} {ws ws' : List Cond} {k : Nat} {as : List Value} {M : Mem} {post : Mem → Prop} {cc : ByteArray} {maxL : Nat} (hX : Inj X) (hy : plainName y.cls = true) (hw : ws = Cond.code y cc maxL none :: ws') (hlen : (lg_sl as).length ≤ maxL) (body : ∀ (p : Program) (e : Env) (s : State) (m : MethodId) (args : Array Value) (below : List Frame) (meth : Method) (c : Code) (Q : State → Prop), Fx p s m args c cc y.cls ws maxL X → (∀ (M' : Mem) (pc : Nat) (lv : List (Nat × Value)), decode cc pc = .ok (.return_, 1) → post M' → J p l e (rm k) s m args below meth c 0 0 Q s.heap X maxL M' pc lv []) → J p l e (rm k) s m args below meth c 0 0 Q s.heap X maxL M 0 (lv_args 0 as) []) : CtV l X y ws k as M post := by
  refine Met.ofW hy hw ?_
  intro p e s m args below meth c s₁ B hml hv
  obtain ⟨rfl, hP, hK⟩ := hv
  have hr := B.returns
  have hlocks := B.notSynchronized
  rw [lg_entry_eq]
  exact body p e s m as.toArray below meth c _ ⟨B.exec, B.bytes, hml, findClass_of_methodNamed B.named, atoms_spec (ws := ws) B.pre, hK, hX⟩ (fun M' pc lv hd hp H locs ls hW hS hl => W.vret B.exec B.bytes hr (fun t ht hWm => ⟨⟨M', rfl, hp, by show Wd X M' t.heap; rw [ht]; exact hW⟩, hS.F ht⟩) hS.2.2 hd) s.heap [] _ hP va_S.rf (lv_entry as hlen)
theorem CtR_of {l : Launch} {X : Cx} {y : MethodName} {ws ws' : List Cond} {k : Nat} {as : List Value} {M : Mem} {post : Nat → Mem → Prop} {cc : ByteArray} {maxL : Nat} {rc : String} (hX : Inj X) (hy : plainName y.cls = true) (hw : ws = Cond.code y cc maxL (some (.object rc)) :: ws') (hlen : (lg_sl as).length ≤ maxL) (body : ∀ (p : Program) (e : Env) (s : State) (m : MethodId) (args : Array Value) (below : List Frame) (meth : Method) (c : Code) (Q : State → Prop), Fx p s m args c cc y.cls ws maxL X → (∀ (M' : Mem) (pc : Nat) (lv : List (Nat × Value)) (r : Nat), decode cc pc = .ok (.areturn, 1) → post r M' → J p l e (rm k) s m args below meth c 0 0 Q s.heap X maxL M' pc lv [vR X r]) → J p l e (rm k) s m args below meth c 0 0 Q s.heap X maxL M 0 (lv_args 0 as) []) : CtR l X y ws k as M post := by
  refine Met.ofW hy hw ?_
  intro p e s m args below meth c s₁ B hml hv
  obtain ⟨rfl, hP, hK⟩ := hv
  have hr := B.returns
  have hlocks := B.notSynchronized
  rw [lg_entry_eq]
  exact body p e s m as.toArray below meth c _ ⟨B.exec, B.bytes, hml, findClass_of_methodNamed B.named, atoms_spec (ws := ws) B.pre, hK, hX⟩ (fun M' pc lv r hd hp H locs ls hW hS hl => W.aret B.exec B.bytes hr (Or.inl ⟨_, rfl⟩) (Or.inr ⟨_, rfl⟩) (fun t ht hWm => ⟨⟨(r, M'), X.1 r, rfl, hp, rfl, by show Wd X M' t.heap; rw [ht]; exact hW⟩, hS.F ht⟩) hS.2.2 hd) s.heap [] _ hP va_S.rf (lv_entry as hlen)
section JC
variable {p : Program} {l : Launch} {e : Env} {R : Room} {s : State} {m : MethodId} {args : Array Value} {below : List Frame} {meth : Method} {c : Code} {cells slots : Nat} {Q : State → Prop} {H0 : Heap} {X : Cx} {nL : Nat} {M : Mem} {pc q : Nat} {lv : List (Nat × Value)} {st : List Value} {cc : ByteArray} {own : String} {Ts : List Cond}
theorem j_callVI (F : Fx p s m args c cc own Ts nL X) {y : MethodName} {ws ws' : List Cond} {bytes : ByteArray} {maxL k index n : Nat} {ret : Option FieldType} {post : Int → Mem → Prop} (As : List Value) {stk : List Value} {b ci n0 N : Nat} {C : String} {T : u_T} {fs : List (Option Nat)} (hM : CtI l X y ws k (vR X b :: As) M post) (hG : GoodIn Ts (wsV own index C y ws)) (hw : ws = Cond.code y bytes maxL ret :: ws') (hd : y.cls = C ∧ y.cls ≠ "java/lang/invoke/MethodHandle" ∧ y.cls ≠ "java/lang/invoke/VarHandle" ∧ (parseMethodDescriptor y.desc).map (fun d => d.parameters.length) = some n) (hR : k + 1 ≤ R.frames ∧ 8 + (maxL + 11) + 40 * k ≤ R.locals ∧ cells ≤ R.cells ∧ slots ≤ R.slots) (hsh : shs[b]? = some (ci + 3, n0, fs)) (hcl : vwCl[ci]? = some (C, T, N)) (hlen : As.length = n) (hstk : As.reverse ++ vR X b :: st = stk) (hst : (st.map fun v => v.category).sum ≤ 8) (hdg : decode cc pc = .ok (.invokevirtual index, 3)) (hq : pc + 3 = q) (kk : ∀ (r : Int) (M' : Mem), post r M' → J p l e R s m args below meth c cells slots Q H0 X nL M' q lv (vI r :: st)) : J p l e R s m args below meth c cells slots Q H0 X nL M pc lv stk := by
  subst hq; subst hstk
  intro H locs ls h1 h2 h3
  refine va_calli (A0 := Aw X) (va_runV (As := As) (rest := st) ⟨F.1, F.2.1, F.2.2.1, F.2.2.2.1, F.2.2.2.2.1⟩ hM (cwV n F.2.2.2.2.1 hG hw rfl rfl hd ⟨hR.1, hR.2.1⟩) ⟨ct_blind, va_recv F.2.2.2.2.2.1 h1 hcl (wl_at hsh), fun U hU hWm => ⟨rfl, by rw [hU]; exact h1, va_K.moved hWm.alike F.2.2.2.2.2.1⟩⟩ rfl hlen h3.1 rfl (lv_room hst) hdg ⟨hR.2.2.1, hR.2.2.2⟩) h2 (fun q _ h => h) (fun q h => h) (fun r u t H1 locs1 ht hvm hp hB hz hk1 hS1 => by
    obtain ⟨rfl, hp⟩ := hp
    exact kk u.1 u.2 hp H1 locs1 ls (by rw [← ht]; exact hB) hS1 h3)
theorem j_callSI (F : Fx p s m args c cc own Ts nL X) {y : MethodName} {ws ws' : List Cond} {bytes : ByteArray} {maxL k index n : Nat} {ret : Option FieldType} {post : Int → Mem → Prop} (As : List Value) {stk : List Value} (hM : CtI l X y ws k As M post) (hG : GoodIn Ts (va_wsS own index y ws)) (hw : ws = Cond.code y bytes maxL ret :: ws') (hd : y.cls ≠ "java/lang/invoke/MethodHandle" ∧ y.cls ≠ "java/lang/invoke/VarHandle" ∧ (parseMethodDescriptor y.desc).map (fun d => d.parameters.length) = some n) (hR : k + 1 ≤ R.frames ∧ 8 + (maxL + 11) + 40 * k ≤ R.locals ∧ cells ≤ R.cells ∧ slots ≤ R.slots) (hlen : As.length = n) (hstk : As.reverse ++ st = stk) (hst : (st.map fun v => v.category).sum ≤ 8) (hdg : decode cc pc = .ok (.invokestatic index, 3)) (hq : pc + 3 = q) (kk : ∀ (r : Int) (M' : Mem), post r M' → J p l e R s m args below meth c cells slots Q H0 X nL M' q lv (vI r :: st)) : J p l e R s m args below meth c cells slots Q H0 X nL M pc lv stk := by
  subst hq; subst hstk
  intro H locs ls h1 h2 h3
  refine va_calli (A0 := Aw X) (va_runS (As := As) (rest := st) ⟨F.1, F.2.1, F.2.2.1, F.2.2.2.1, F.2.2.2.2.1⟩ hM (va_cwS n F.2.2.2.2.1 hG hw rfl rfl hd ⟨hR.1, hR.2.1⟩) ⟨ct_blind, fun U hU hWm => ⟨rfl, by rw [hU]; exact h1, va_K.moved hWm.alike F.2.2.2.2.2.1⟩⟩ rfl hlen h3.1 rfl (lv_room hst) hdg ⟨hR.2.2.1, hR.2.2.2⟩) h2 (fun q _ h => h) (fun q h => h) (fun r u t H1 locs1 ht hvm hp hB hz hk1 hS1 => by
    obtain ⟨rfl, hp⟩ := hp
    exact kk u.1 u.2 hp H1 locs1 ls (by rw [← ht]; exact hB) hS1 h3)
theorem j_callVV (F : Fx p s m args c cc own Ts nL X) {y : MethodName} {ws ws' : List Cond} {bytes : ByteArray} {maxL k index n : Nat} {ret : Option FieldType} {post : Mem → Prop} (As : List Value) {stk : List Value} {b ci n0 N : Nat} {C : String} {T : u_T} {fs : List (Option Nat)} (hM : CtV l X y ws k (vR X b :: As) M post) (hG : GoodIn Ts (wsV own index C y ws)) (hw : ws = Cond.code y bytes maxL ret :: ws') (hd : y.cls = C ∧ y.cls ≠ "java/lang/invoke/MethodHandle" ∧ y.cls ≠ "java/lang/invoke/VarHandle" ∧ (parseMethodDescriptor y.desc).map (fun d => d.parameters.length) = some n) (hR : k + 1 ≤ R.frames ∧ 8 + (maxL + 11) + 40 * k ≤ R.locals ∧ cells ≤ R.cells ∧ slots ≤ R.slots) (hsh : shs[b]? = some (ci + 3, n0, fs)) (hcl : vwCl[ci]? = some (C, T, N)) (hlen : As.length = n) (hstk : As.reverse ++ vR X b :: st = stk) (hst : (st.map fun v => v.category).sum ≤ 8) (hdg : decode cc pc = .ok (.invokevirtual index, 3)) (hq : pc + 3 = q) (kk : ∀ (M' : Mem), post M' → J p l e R s m args below meth c cells slots Q H0 X nL M' q lv st) : J p l e R s m args below meth c cells slots Q H0 X nL M pc lv stk := by
  subst hq; subst hstk
  intro H locs ls h1 h2 h3
  refine va_callv (A0 := Aw X) (va_runV (As := As) (rest := st) ⟨F.1, F.2.1, F.2.2.1, F.2.2.2.1, F.2.2.2.2.1⟩ hM (cwV n F.2.2.2.2.1 hG hw rfl rfl hd ⟨hR.1, hR.2.1⟩) ⟨ct_blind, va_recv F.2.2.2.2.2.1 h1 hcl (wl_at hsh), fun U hU hWm => ⟨rfl, by rw [hU]; exact h1, va_K.moved hWm.alike F.2.2.2.2.2.1⟩⟩ rfl hlen h3.1 rfl (lv_room hst) hdg ⟨hR.2.2.1, hR.2.2.2⟩) h2 (fun q _ h => h) (fun q h => h) (fun u t H1 locs1 ht hvm hp hB hz hk1 hS1 => kk u hp H1 locs1 ls (by rw [← ht]; exact hB) hS1 h3)
theorem j_callSV (F : Fx p s m args c cc own Ts nL X) {y : MethodName} {ws ws' : List Cond} {bytes : ByteArray} {maxL k index n : Nat} {ret : Option FieldType} {post : Mem → Prop} (As : List Value) {stk : List Value} (hM : CtV l X y ws k As M post) (hG : GoodIn Ts (va_wsS own index y ws)) (hw : ws = Cond.code y bytes maxL ret :: ws') (hd : y.cls ≠ "java/lang/invoke/MethodHandle" ∧ y.cls ≠ "java/lang/invoke/VarHandle" ∧ (parseMethodDescriptor y.desc).map (fun d => d.parameters.length) = some n) (hR : k + 1 ≤ R.frames ∧ 8 + (maxL + 11) + 40 * k ≤ R.locals ∧ cells ≤ R.cells ∧ slots ≤ R.slots) (hlen : As.length = n) (hstk : As.reverse ++ st = stk) (hst : (st.map fun v => v.category).sum ≤ 8) (hdg : decode cc pc = .ok (.invokestatic index, 3)) (hq : pc + 3 = q) (kk : ∀ (M' : Mem), post M' → J p l e R s m args below meth c cells slots Q H0 X nL M' q lv st) : J p l e R s m args below meth c cells slots Q H0 X nL M pc lv stk := by
  subst hq; subst hstk
  intro H locs ls h1 h2 h3
  refine va_callv (A0 := Aw X) (va_runS (As := As) (rest := st) ⟨F.1, F.2.1, F.2.2.1, F.2.2.2.1, F.2.2.2.2.1⟩ hM (va_cwS n F.2.2.2.2.1 hG hw rfl rfl hd ⟨hR.1, hR.2.1⟩) ⟨ct_blind, fun U hU hWm => ⟨rfl, by rw [hU]; exact h1, va_K.moved hWm.alike F.2.2.2.2.2.1⟩⟩ rfl hlen h3.1 rfl (lv_room hst) hdg ⟨hR.2.2.1, hR.2.2.2⟩) h2 (fun q _ h => h) (fun q h => h) (fun u t H1 locs1 ht hvm hp hB hz hk1 hS1 => kk u hp H1 locs1 ls (by rw [← ht]; exact hB) hS1 h3)
theorem j_callVR (F : Fx p s m args c cc own Ts nL X) {y : MethodName} {ws ws' : List Cond} {bytes : ByteArray} {maxL k index n : Nat} {ret : Option FieldType} {post : Nat → Mem → Prop} (As : List Value) {stk : List Value} {b ci n0 N : Nat} {C : String} {T : u_T} {fs : List (Option Nat)} (hM : CtR l X y ws k (vR X b :: As) M post) (hG : GoodIn Ts (wsV own index C y ws)) (hw : ws = Cond.code y bytes maxL ret :: ws') (hd : y.cls = C ∧ y.cls ≠ "java/lang/invoke/MethodHandle" ∧ y.cls ≠ "java/lang/invoke/VarHandle" ∧ (parseMethodDescriptor y.desc).map (fun d => d.parameters.length) = some n) (hR : k + 1 ≤ R.frames ∧ 8 + (maxL + 11) + 40 * k ≤ R.locals ∧ cells ≤ R.cells ∧ slots ≤ R.slots) (hsh : shs[b]? = some (ci + 3, n0, fs)) (hcl : vwCl[ci]? = some (C, T, N)) (hlen : As.length = n) (hstk : As.reverse ++ vR X b :: st = stk) (hst : (st.map fun v => v.category).sum ≤ 8) (hdg : decode cc pc = .ok (.invokevirtual index, 3)) (hq : pc + 3 = q) (kk : ∀ (r : Nat) (M' : Mem), post r M' → J p l e R s m args below meth c cells slots Q H0 X nL M' q lv (vR X r :: st)) : J p l e R s m args below meth c cells slots Q H0 X nL M pc lv stk := by
  subst hq; subst hstk
  intro H locs ls h1 h2 h3
  refine va_callr (A0 := Aw X) (va_runV (As := As) (rest := st) ⟨F.1, F.2.1, F.2.2.1, F.2.2.2.1, F.2.2.2.2.1⟩ hM (cwV n F.2.2.2.2.1 hG hw rfl rfl hd ⟨hR.1, hR.2.1⟩) ⟨ct_blind, va_recv F.2.2.2.2.2.1 h1 hcl (wl_at hsh), fun U hU hWm => ⟨rfl, by rw [hU]; exact h1, va_K.moved hWm.alike F.2.2.2.2.2.1⟩⟩ rfl hlen h3.1 rfl (lv_room hst) hdg ⟨hR.2.2.1, hR.2.2.2⟩) h2 (fun q _ h => h) (fun q h => h) (fun u ra t H1 locs1 ht hvm hp hB hz hk1 hS1 => by
    obtain ⟨rfl, hB⟩ := hB
    exact kk u.1 u.2 hp H1 locs1 ls (by rw [← ht]; exact hB) hS1 h3)
theorem j_callSR (F : Fx p s m args c cc own Ts nL X) {y : MethodName} {ws ws' : List Cond} {bytes : ByteArray} {maxL k index n : Nat} {ret : Option FieldType} {post : Nat → Mem → Prop} (As : List Value) {stk : List Value} (hM : CtR l X y ws k As M post) (hG : GoodIn Ts (va_wsS own index y ws)) (hw : ws = Cond.code y bytes maxL ret :: ws') (hd : y.cls ≠ "java/lang/invoke/MethodHandle" ∧ y.cls ≠ "java/lang/invoke/VarHandle" ∧ (parseMethodDescriptor y.desc).map (fun d => d.parameters.length) = some n) (hR : k + 1 ≤ R.frames ∧ 8 + (maxL + 11) + 40 * k ≤ R.locals ∧ cells ≤ R.cells ∧ slots ≤ R.slots) (hlen : As.length = n) (hstk : As.reverse ++ st = stk) (hst : (st.map fun v => v.category).sum ≤ 8) (hdg : decode cc pc = .ok (.invokestatic index, 3)) (hq : pc + 3 = q) (kk : ∀ (r : Nat) (M' : Mem), post r M' → J p l e R s m args below meth c cells slots Q H0 X nL M' q lv (vR X r :: st)) : J p l e R s m args below meth c cells slots Q H0 X nL M pc lv stk := by
  subst hq; subst hstk
  intro H locs ls h1 h2 h3
  refine va_callr (A0 := Aw X) (va_runS (As := As) (rest := st) ⟨F.1, F.2.1, F.2.2.1, F.2.2.2.1, F.2.2.2.2.1⟩ hM (va_cwS n F.2.2.2.2.1 hG hw rfl rfl hd ⟨hR.1, hR.2.1⟩) ⟨ct_blind, fun U hU hWm => ⟨rfl, by rw [hU]; exact h1, va_K.moved hWm.alike F.2.2.2.2.2.1⟩⟩ rfl hlen h3.1 rfl (lv_room hst) hdg ⟨hR.2.2.1, hR.2.2.2⟩) h2 (fun q _ h => h) (fun q h => h) (fun u ra t H1 locs1 ht hvm hp hB hz hk1 hS1 => by
    obtain ⟨rfl, hB⟩ := hB
    exact kk u.1 u.2 hp H1 locs1 ls (by rw [← ht]; exact hB) hS1 h3)
theorem j_callVE (F : Fx p s m args c cc own Ts nL X) {y : MethodName} {ws ws' : List Cond} {bytes : ByteArray} {maxL k index n : Nat} {ret : Option FieldType} (As : List Value) {stk : List Value} {v : Int} {b ci n0 N : Nat} {C : String} {T : u_T} {fs : List (Option Nat)} (hM : CtI l X y ws k (vR X b :: As) M (fun x M' => M' = M ∧ x = v)) (hG : GoodIn Ts (wsV own index C y ws)) (hw : ws = Cond.code y bytes maxL ret :: ws') (hd : y.cls = C ∧ y.cls ≠ "java/lang/invoke/MethodHandle" ∧ y.cls ≠ "java/lang/invoke/VarHandle" ∧ (parseMethodDescriptor y.desc).map (fun d => d.parameters.length) = some n) (hR : k + 1 ≤ R.frames ∧ 8 + (maxL + 11) + 40 * k ≤ R.locals ∧ cells ≤ R.cells ∧ slots ≤ R.slots) (hsh : shs[b]? = some (ci + 3, n0, fs)) (hcl : vwCl[ci]? = some (C, T, N)) (hlen : As.length = n) (hstk : As.reverse ++ vR X b :: st = stk) (hst : (st.map fun v => v.category).sum ≤ 8) (hdg : decode cc pc = .ok (.invokevirtual index, 3)) (hq : pc + 3 = q) (kk : J p l e R s m args below meth c cells slots Q H0 X nL M q lv (vI v :: st)) : J p l e R s m args below meth c cells slots Q H0 X nL M pc lv stk := by
  exact j_callVI F As hM hG hw hd hR hsh hcl hlen hstk hst hdg hq (fun r M' h => by rw [h.1, h.2]; exact kk)
theorem j_callVZ (F : Fx p s m args c cc own Ts nL X) {y : MethodName} {ws ws' : List Cond} {bytes : ByteArray} {maxL k index n : Nat} {ret : Option FieldType} (As : List Value) {stk : List Value} {P N1 : Prop} {b ci n0 N : Nat} {C : String} {T : u_T} {fs : List (Option Nat)} (hM : CtI l X y ws k (vR X b :: As) M (fun x M' => M' = M ∧ (x = 1 ∧ P ∨ x = 0 ∧ N1))) (hG : GoodIn Ts (wsV own index C y ws)) (hw : ws = Cond.code y bytes maxL ret :: ws') (hd : y.cls = C ∧ y.cls ≠ "java/lang/invoke/MethodHandle" ∧ y.cls ≠ "java/lang/invoke/VarHandle" ∧ (parseMethodDescriptor y.desc).map (fun d => d.parameters.length) = some n) (hR : k + 1 ≤ R.frames ∧ 8 + (maxL + 11) + 40 * k ≤ R.locals ∧ cells ≤ R.cells ∧ slots ≤ R.slots) (hsh : shs[b]? = some (ci + 3, n0, fs)) (hcl : vwCl[ci]? = some (C, T, N)) (hlen : As.length = n) (hstk : As.reverse ++ vR X b :: st = stk) (hst : (st.map fun v => v.category).sum ≤ 8) (hdg : decode cc pc = .ok (.invokevirtual index, 3)) (hq : pc + 3 = q) (k1 : P → J p l e R s m args below meth c cells slots Q H0 X nL M q lv (vI 1 :: st)) (k0 : N1 → J p l e R s m args below meth c cells slots Q H0 X nL M q lv (vI 0 :: st)) : J p l e R s m args below meth c cells slots Q H0 X nL M pc lv stk := by
  refine j_callVI F As hM hG hw hd hR hsh hcl hlen hstk hst hdg hq (fun r M' h => ?_)
  obtain ⟨h1, h2⟩ := h
  rw [h1]
  rcases h2 with ⟨e, h2⟩ | ⟨e, h2⟩
  · rw [e]; exact k1 h2
  · rw [e]; exact k0 h2
theorem j_callVP (F : Fx p s m args c cc own Ts nL X) {y : MethodName} {ws ws' : List Cond} {bytes : ByteArray} {maxL k index n : Nat} {ret : Option FieldType} (As : List Value) {stk : List Value} {P : Int → Prop} {b ci n0 N : Nat} {C : String} {T : u_T} {fs : List (Option Nat)} (hM : CtI l X y ws k (vR X b :: As) M (fun x M' => M' = M ∧ P x)) (hG : GoodIn Ts (wsV own index C y ws)) (hw : ws = Cond.code y bytes maxL ret :: ws') (hd : y.cls = C ∧ y.cls ≠ "java/lang/invoke/MethodHandle" ∧ y.cls ≠ "java/lang/invoke/VarHandle" ∧ (parseMethodDescriptor y.desc).map (fun d => d.parameters.length) = some n) (hR : k + 1 ≤ R.frames ∧ 8 + (maxL + 11) + 40 * k ≤ R.locals ∧ cells ≤ R.cells ∧ slots ≤ R.slots) (hsh : shs[b]? = some (ci + 3, n0, fs)) (hcl : vwCl[ci]? = some (C, T, N)) (hlen : As.length = n) (hstk : As.reverse ++ vR X b :: st = stk) (hst : (st.map fun v => v.category).sum ≤ 8) (hdg : decode cc pc = .ok (.invokevirtual index, 3)) (hq : pc + 3 = q) (kk : ∀ r, P r → J p l e R s m args below meth c cells slots Q H0 X nL M q lv (vI r :: st)) : J p l e R s m args below meth c cells slots Q H0 X nL M pc lv stk := by
  exact j_callVI F As hM hG hw hd hR hsh hcl hlen hstk hst hdg hq (fun r M' h => by rw [h.1]; exact kk r h.2)
theorem j_callVRE (F : Fx p s m args c cc own Ts nL X) {y : MethodName} {ws ws' : List Cond} {bytes : ByteArray} {maxL k index n : Nat} {ret : Option FieldType} (As : List Value) {stk : List Value} {z : Nat} {b ci n0 N : Nat} {C : String} {T : u_T} {fs : List (Option Nat)} (hM : CtR l X y ws k (vR X b :: As) M (fun x M' => M' = M ∧ x = z)) (hG : GoodIn Ts (wsV own index C y ws)) (hw : ws = Cond.code y bytes maxL ret :: ws') (hd : y.cls = C ∧ y.cls ≠ "java/lang/invoke/MethodHandle" ∧ y.cls ≠ "java/lang/invoke/VarHandle" ∧ (parseMethodDescriptor y.desc).map (fun d => d.parameters.length) = some n) (hR : k + 1 ≤ R.frames ∧ 8 + (maxL + 11) + 40 * k ≤ R.locals ∧ cells ≤ R.cells ∧ slots ≤ R.slots) (hsh : shs[b]? = some (ci + 3, n0, fs)) (hcl : vwCl[ci]? = some (C, T, N)) (hlen : As.length = n) (hstk : As.reverse ++ vR X b :: st = stk) (hst : (st.map fun v => v.category).sum ≤ 8) (hdg : decode cc pc = .ok (.invokevirtual index, 3)) (hq : pc + 3 = q) (kk : J p l e R s m args below meth c cells slots Q H0 X nL M q lv (vR X z :: st)) : J p l e R s m args below meth c cells slots Q H0 X nL M pc lv stk := by
  exact j_callVR F As hM hG hw hd hR hsh hcl hlen hstk hst hdg hq (fun r M' h => by rw [h.1, h.2]; exact kk)
theorem j_callVM (F : Fx p s m args c cc own Ts nL X) {y : MethodName} {ws ws' : List Cond} {bytes : ByteArray} {maxL k index n : Nat} {ret : Option FieldType} (As : List Value) {stk : List Value} {M1 : Mem} {b ci n0 N : Nat} {C : String} {T : u_T} {fs : List (Option Nat)} (hM : CtV l X y ws k (vR X b :: As) M (fun M' => M' = M1)) (hG : GoodIn Ts (wsV own index C y ws)) (hw : ws = Cond.code y bytes maxL ret :: ws') (hd : y.cls = C ∧ y.cls ≠ "java/lang/invoke/MethodHandle" ∧ y.cls ≠ "java/lang/invoke/VarHandle" ∧ (parseMethodDescriptor y.desc).map (fun d => d.parameters.length) = some n) (hR : k + 1 ≤ R.frames ∧ 8 + (maxL + 11) + 40 * k ≤ R.locals ∧ cells ≤ R.cells ∧ slots ≤ R.slots) (hsh : shs[b]? = some (ci + 3, n0, fs)) (hcl : vwCl[ci]? = some (C, T, N)) (hlen : As.length = n) (hstk : As.reverse ++ vR X b :: st = stk) (hst : (st.map fun v => v.category).sum ≤ 8) (hdg : decode cc pc = .ok (.invokevirtual index, 3)) (hq : pc + 3 = q) (kk : J p l e R s m args below meth c cells slots Q H0 X nL M1 q lv st) : J p l e R s m args below meth c cells slots Q H0 X nL M pc lv stk := by
  exact j_callVV F As hM hG hw hd hR hsh hcl hlen hstk hst hdg hq (fun M' h => by rw [h]; exact kk)
theorem j_callSE (F : Fx p s m args c cc own Ts nL X) {y : MethodName} {ws ws' : List Cond} {bytes : ByteArray} {maxL k index n : Nat} {ret : Option FieldType} (As : List Value) {stk : List Value} {v : Int} (hM : CtI l X y ws k As M (fun x M' => M' = M ∧ x = v)) (hG : GoodIn Ts (va_wsS own index y ws)) (hw : ws = Cond.code y bytes maxL ret :: ws') (hd : y.cls ≠ "java/lang/invoke/MethodHandle" ∧ y.cls ≠ "java/lang/invoke/VarHandle" ∧ (parseMethodDescriptor y.desc).map (fun d => d.parameters.length) = some n) (hR : k + 1 ≤ R.frames ∧ 8 + (maxL + 11) + 40 * k ≤ R.locals ∧ cells ≤ R.cells ∧ slots ≤ R.slots) (hlen : As.length = n) (hstk : As.reverse ++ st = stk) (hst : (st.map fun v => v.category).sum ≤ 8) (hdg : decode cc pc = .ok (.invokestatic index, 3)) (hq : pc + 3 = q) (kk : J p l e R s m args below meth c cells slots Q H0 X nL M q lv (vI v :: st)) : J p l e R s m args below meth c cells slots Q H0 X nL M pc lv stk := by
  exact j_callSI F As hM hG hw hd hR hlen hstk hst hdg hq (fun r M' h => by rw [h.1, h.2]; exact kk)
theorem j_callSZ (F : Fx p s m args c cc own Ts nL X) {y : MethodName} {ws ws' : List Cond} {bytes : ByteArray} {maxL k index n : Nat} {ret : Option FieldType} (As : List Value) {stk : List Value} {P N1 : Prop} (hM : CtI l X y ws k As M (fun x M' => M' = M ∧ (x = 1 ∧ P ∨ x = 0 ∧ N1))) (hG : GoodIn Ts (va_wsS own index y ws)) (hw : ws = Cond.code y bytes maxL ret :: ws') (hd : y.cls ≠ "java/lang/invoke/MethodHandle" ∧ y.cls ≠ "java/lang/invoke/VarHandle" ∧ (parseMethodDescriptor y.desc).map (fun d => d.parameters.length) = some n) (hR : k + 1 ≤ R.frames ∧ 8 + (maxL + 11) + 40 * k ≤ R.locals ∧ cells ≤ R.cells ∧ slots ≤ R.slots) (hlen : As.length = n) (hstk : As.reverse ++ st = stk) (hst : (st.map fun v => v.category).sum ≤ 8) (hdg : decode cc pc = .ok (.invokestatic index, 3)) (hq : pc + 3 = q) (k1 : P → J p l e R s m args below meth c cells slots Q H0 X nL M q lv (vI 1 :: st)) (k0 : N1 → J p l e R s m args below meth c cells slots Q H0 X nL M q lv (vI 0 :: st)) : J p l e R s m args below meth c cells slots Q H0 X nL M pc lv stk := by
  refine j_callSI F As hM hG hw hd hR hlen hstk hst hdg hq (fun r M' h => ?_)
  obtain ⟨h1, h2⟩ := h
  rw [h1]
  rcases h2 with ⟨e, h2⟩ | ⟨e, h2⟩
  · rw [e]; exact k1 h2
  · rw [e]; exact k0 h2
theorem j_callSP (F : Fx p s m args c cc own Ts nL X) {y : MethodName} {ws ws' : List Cond} {bytes : ByteArray} {maxL k index n : Nat} {ret : Option FieldType} (As : List Value) {stk : List Value} {P : Int → Prop} (hM : CtI l X y ws k As M (fun x M' => M' = M ∧ P x)) (hG : GoodIn Ts (va_wsS own index y ws)) (hw : ws = Cond.code y bytes maxL ret :: ws') (hd : y.cls ≠ "java/lang/invoke/MethodHandle" ∧ y.cls ≠ "java/lang/invoke/VarHandle" ∧ (parseMethodDescriptor y.desc).map (fun d => d.parameters.length) = some n) (hR : k + 1 ≤ R.frames ∧ 8 + (maxL + 11) + 40 * k ≤ R.locals ∧ cells ≤ R.cells ∧ slots ≤ R.slots) (hlen : As.length = n) (hstk : As.reverse ++ st = stk) (hst : (st.map fun v => v.category).sum ≤ 8) (hdg : decode cc pc = .ok (.invokestatic index, 3)) (hq : pc + 3 = q) (kk : ∀ r, P r → J p l e R s m args below meth c cells slots Q H0 X nL M q lv (vI r :: st)) : J p l e R s m args below meth c cells slots Q H0 X nL M pc lv stk := by
  exact j_callSI F As hM hG hw hd hR hlen hstk hst hdg hq (fun r M' h => by rw [h.1]; exact kk r h.2)
theorem j_callSRE (F : Fx p s m args c cc own Ts nL X) {y : MethodName} {ws ws' : List Cond} {bytes : ByteArray} {maxL k index n : Nat} {ret : Option FieldType} (As : List Value) {stk : List Value} {z : Nat} (hM : CtR l X y ws k As M (fun x M' => M' = M ∧ x = z)) (hG : GoodIn Ts (va_wsS own index y ws)) (hw : ws = Cond.code y bytes maxL ret :: ws') (hd : y.cls ≠ "java/lang/invoke/MethodHandle" ∧ y.cls ≠ "java/lang/invoke/VarHandle" ∧ (parseMethodDescriptor y.desc).map (fun d => d.parameters.length) = some n) (hR : k + 1 ≤ R.frames ∧ 8 + (maxL + 11) + 40 * k ≤ R.locals ∧ cells ≤ R.cells ∧ slots ≤ R.slots) (hlen : As.length = n) (hstk : As.reverse ++ st = stk) (hst : (st.map fun v => v.category).sum ≤ 8) (hdg : decode cc pc = .ok (.invokestatic index, 3)) (hq : pc + 3 = q) (kk : J p l e R s m args below meth c cells slots Q H0 X nL M q lv (vR X z :: st)) : J p l e R s m args below meth c cells slots Q H0 X nL M pc lv stk := by
  exact j_callSR F As hM hG hw hd hR hlen hstk hst hdg hq (fun r M' h => by rw [h.1, h.2]; exact kk)
theorem j_callSM (F : Fx p s m args c cc own Ts nL X) {y : MethodName} {ws ws' : List Cond} {bytes : ByteArray} {maxL k index n : Nat} {ret : Option FieldType} (As : List Value) {stk : List Value} {M1 : Mem} (hM : CtV l X y ws k As M (fun M' => M' = M1)) (hG : GoodIn Ts (va_wsS own index y ws)) (hw : ws = Cond.code y bytes maxL ret :: ws') (hd : y.cls ≠ "java/lang/invoke/MethodHandle" ∧ y.cls ≠ "java/lang/invoke/VarHandle" ∧ (parseMethodDescriptor y.desc).map (fun d => d.parameters.length) = some n) (hR : k + 1 ≤ R.frames ∧ 8 + (maxL + 11) + 40 * k ≤ R.locals ∧ cells ≤ R.cells ∧ slots ≤ R.slots) (hlen : As.length = n) (hstk : As.reverse ++ st = stk) (hst : (st.map fun v => v.category).sum ≤ 8) (hdg : decode cc pc = .ok (.invokestatic index, 3)) (hq : pc + 3 = q) (kk : J p l e R s m args below meth c cells slots Q H0 X nL M1 q lv st) : J p l e R s m args below meth c cells slots Q H0 X nL M pc lv stk := by
  exact j_callSV F As hM hG hw hd hR hlen hstk hst hdg hq (fun M' h => by rw [h]; exact kk)
end JC
