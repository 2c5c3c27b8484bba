/-! ===== p26: rows of the law that read the script, and the call of its 'cell' ===== -/
theorem and_nn (a : Int32) : 0 ≤ (a &&& oI 2147483647).toInt := by
  show 0 ≤ ((a &&& oI 2147483647).toBitVec).toInt
  apply BitVec.toInt_nonneg_of_msb_false
  rw [Int32.toBitVec_and, BitVec.msb_and]
  have h : (oI 2147483647).toBitVec.msb = false := by decide
  rw [h, Bool.and_false]
/-- the script, and where it lies -/
def LScr (s : State) (H0 : Heap) (X : Cx) (b L : Nat) (xs : Nat → Int32) : Prop := va_X b L xs s H0 ∧ b < H0.size ∧ ¬ Aw X b ∧ L ≤ 2048
section JS
variable {p : Program} {l : Launch} {e : Env} {R : Room} {s : State} {m : MethodId} {args : Array Value} {below : List Frame} {meth : Method} {c : Code} {cells slots : Nat} {Q : State → Prop} {H0 : Heap} {X : Cx} {nL : Nat} {M : Mem} {pc q : Nat} {lv : List (Nat × Value)} {st : List Value} {cc : ByteArray} {own : String} {Ts : List Cond} {b L : Nat} {xs : Nat → Int32}
theorem j_aload_s (F : Fx p s m args c cc own Ts nL X) {k : Fin 4} {i : Nat} {z : Nat} (hdg : decode cc pc = .ok (.aload_n k, 1)) (hq : pc + 1 = q) (hi : (k : Nat) = i) (j : Nat) (hk : lv[j]? = some (i, Value.ref z)) (kk : J p l e R s m args below meth c cells slots Q H0 X nL M q lv (Value.ref z :: st)) : J p l e R s m args below meth c cells slots Q H0 X nL M pc lv st := by
  subst hq; subst hi
  intro H locs ls h1 h2 h3
  exact lv_aload_n F.1 F.2.1 hdg rfl (lv_at h3 j hk) (kk H locs ls h1 h2 h3)
theorem j_slen (F : Fx p s m args c cc own Ts nL X) (S : LScr s H0 X b L xs) (hdg : decode cc pc = .ok (.arraylength, 1)) (hq : pc + 1 = q) (kk : J p l e R s m args below meth c cells slots Q H0 X nL M q lv (vI (L : Int) :: st)) : J p l e R s m args below meth c cells slots Q H0 X nL M pc lv (Value.ref b :: st) := by
  subst hq
  intro H locs ls h1 h2 h3
  refine va_slen F.1 F.2.1 S.1 S.2.1 S.2.2.1 h2 hdg ?_
  have K := kk H locs ls h1 h2 h3
  have e : Int32.ofNat L = oI (L : Int) := (oI_nat L).symm
  rw [e]
  exact K
theorem j_sld (F : Fx p s m args c cc own Ts nL X) (S : LScr s H0 X b L xs) {i : Int} (h0 : 0 ≤ i) (hi : i < (L : Int)) (hdg : decode cc pc = .ok (.iaload, 1)) (hq : pc + 1 = q) (kk : J p l e R s m args below meth c cells slots Q H0 X nL M q lv (vI (xs i.toNat).toInt :: st)) : J p l e R s m args below meth c cells slots Q H0 X nL M pc lv (vI i :: Value.ref b :: st) := by
  subst hq
  intro H locs ls h1 h2 h3
  have hL := S.2.2.2
  refine va_sld F.1 F.2.1 S.1 S.2.1 S.2.2.1 h2 (oI_in h0 hi (by omega)) hdg ?_
  have K := kk H locs ls h1 h2 h3
  rw [oI_clamp h0 (by omega)]
  have e : vI (xs i.toNat).toInt = Value.int (xs i.toNat) := by unfold vI; rw [oI_self]
  rw [← e]
  exact K
theorem j_iandn (F : Fx p s m args c cc own Ts nL X) {a : Int} (hdg : decode cc pc = .ok (.iand, 1)) (hq : pc + 1 = q) (kk : ∀ z : Int, 0 ≤ z → z < 2147483648 → J p l e R s m args below meth c cells slots Q H0 X nL M q lv (vI z :: st)) : J p l e R s m args below meth c cells slots Q H0 X nL M pc lv (vI 2147483647 :: vI a :: st) := by
  subst hq
  intro H locs ls h1 h2 h3
  refine lv_iand F.1 F.2.1 hdg ?_
  have K := kk (oI a &&& oI 2147483647).toInt (and_nn _) (inR_self _).2 H locs ls h1 h2 h3
  have e : vI (oI a &&& oI 2147483647).toInt = Value.int (oI a &&& oI 2147483647) := by unfold vI; rw [oI_self]
  rw [← e]
  exact K
end JS
def SCR (X : Cx) (b L : Nat) (xs : Nat → Int32) (U : State) : Prop := va_X b L xs U U.heap ∧ b < U.heap.size ∧ ¬ Aw X b
/-- a call that reads the script too, and changes nothing -/
def CtX (l : Launch) (X : Cx) (y : MethodName) (ws : List Cond) (k : Nat) (as : List Value) (M : Mem) (b L : Nat) (xs : Nat → Int32) (post : Int → Prop) : Prop :=
  Met l y ws (rm k) (va_Pc as (fun U => Wd X M U.heap ∧ KK X U ∧ SCR X b L xs U)) (va_Qi (S := Int) (fun r u => r = oI u ∧ post u) (fun _ t => Wd X M t.heap) (Aw X)) 0 0 (Aw X)
theorem ctx_blind {X : Cx} {M : Mem} {as : List Value} {b L : Nat} {xs : Nat → Int32} : FrameBlind (va_Pc as (fun U => Wd X M U.heap ∧ KK X U ∧ SCR X b L xs U)) := fun a U g mk q => by
  obtain ⟨q0, qP, qK, qX, qb, qA⟩ := q
  exact ⟨q0, qP, va_K.moved (u := U) (U := U.calling g mk a) (Vm.Alike.refl U.vm) qK, va_X.moved (u := U) (U := U.calling g mk a) (Vm.Alike.refl U.vm) qX, qb, qA⟩
theorem CtX_of {l : Launch} {X : Cx} {y : MethodName} {ws ws' : List Cond} {k : Nat} {as : List Value} {M : Mem} {b L : Nat} {xs : Nat → Int32} {post : Int → Prop} {cc : ByteArray} {maxL : Nat} (hX : Inj X) (hL : L ≤ 2048) (hy : plainName y.cls = true) (hw : ws = Cond.code y cc maxL (some .int) :: ws') (hlen : (lg_sl as).length ≤ maxL) (body : ∀ (p : Program) (e : Env) (s : State) (m : MethodId) (args : Array Value) (below : List Frame) (meth : Method) (c : Code) (Q : State → Prop), Fx p s m args c cc y.cls ws maxL X → LScr s s.heap X b L xs → (∀ (pc : Nat) (lv : List (Nat × Value)) (r : Int), decode cc pc = .ok (.ireturn, 1) → post r → J p l e (rm k) s m args below meth c 0 0 Q s.heap X maxL M pc lv [vI r]) → J p l e (rm k) s m args below meth c 0 0 Q s.heap X maxL M 0 (lv_args 0 as) []) : CtX l X y ws k as M b L xs post := by
  refine Met.ofW hy hw ?_
  intro p e s m args below meth c s₁ B hml hv
  obtain ⟨rfl, hP, hK, hS⟩ := hv
  have hr := B.returns
  have hlocks := B.notSynchronized
  rw [lg_entry_eq]
  exact body p e s m as.toArray below meth c _ ⟨B.exec, B.bytes, hml, findClass_of_methodNamed B.named, atoms_spec (ws := ws) B.pre, hK, hX⟩ ⟨hS.1, hS.2.1, hS.2.2, hL⟩ (fun pc lv r hd hp H locs ls hW hSS hl => W.iret B.exec B.bytes hr (fun t ht hWm => ⟨⟨oI r, r, rfl, ⟨rfl, hp⟩, by show Wd X M t.heap; rw [ht]; exact hW⟩, hSS.F ht⟩) hSS.2.2 hd) s.heap [] _ hP va_S.rf (lv_entry as hlen)
theorem j_callSX {p : Program} {l : Launch} {e : Env} {R : Room} {s : State} {m : MethodId} {args : Array Value} {below : List Frame} {meth : Method} {c : Code} {cells slots : Nat} {Q : State → Prop} {H0 : Heap} {X : Cx} {nL : Nat} {M : Mem} {pc q : Nat} {lv : List (Nat × Value)} {st : List Value} {cc : ByteArray} {own : String} {Ts : List Cond} {b L : Nat} {xs : Nat → Int32} (F : Fx p s m args c cc own Ts nL X) (S : LScr s H0 X b L xs) {y : MethodName} {ws ws' : List Cond} {bytes : ByteArray} {maxL k index n : Nat} {ret : Option FieldType} {post : Int → Prop} (As : List Value) {stk : List Value} (hM : CtX l X y ws k As M b L xs post) (hG : GoodIn Ts (va_wsS own index y ws)) (hw : ws = Cond.code y bytes maxL ret :: ws') (hd : y.cls ≠ "java/lang/invoke/MethodHandle" ∧ y.cls ≠ "java/lang/invoke/VarHandle" ∧ (parseMethodDescriptor y.desc).map (fun d => d.parameters.length) = some n) (hR : k + 1 ≤ R.frames ∧ 8 + (maxL + 11) + 40 * k ≤ R.locals ∧ cells ≤ R.cells ∧ slots ≤ R.slots) (hlen : As.length = n) (hstk : As.reverse ++ st = stk) (hst : (st.map fun v => v.category).sum ≤ 8) (hdg : decode cc pc = .ok (.invokestatic index, 3)) (hq : pc + 3 = q) (kk : ∀ (r : Int), post r → J p l e R s m args below meth c cells slots Q H0 X nL M q lv (vI r :: st)) : J p l e R s m args below meth c cells slots Q H0 X nL M pc lv stk := by
  subst hq; subst hstk
  intro H locs ls h1 h2 h3
  have hX1 : va_X b L xs s H := S.1.kept (h2.2.1 b S.2.1 S.2.2.1)
  have hb1 : b < H.size := Nat.lt_of_lt_of_le S.2.1 h2.1
  refine va_calli (A0 := Aw X) (va_runS (As := As) (rest := st) ⟨F.1, F.2.1, F.2.2.1, F.2.2.2.1, F.2.2.2.2.1⟩ hM (va_cwS n F.2.2.2.2.1 hG hw rfl rfl hd ⟨hR.1, hR.2.1⟩) ⟨ctx_blind, fun U hU hWm => ⟨rfl, by rw [hU]; exact h1, va_K.moved hWm.alike F.2.2.2.2.2.1, by rw [hU]; exact hX1.moved hWm.alike, by rw [hU]; exact hb1, S.2.2.1⟩⟩ rfl hlen h3.1 rfl (lv_room hst) hdg ⟨hR.2.2.1, hR.2.2.2⟩) h2 (fun q _ h => h) (fun q h => h) (fun r u t H1 locs1 ht hvm hp hB hz hk1 hS1 => by
    obtain ⟨rfl, hp⟩ := hp
    exact kk u hp H1 locs1 ls (by rw [← ht]; exact hB) hS1 h3)
theorem cn_L_cell_7 : Cond.constant RL 7 15485959 ∈ wsL_cell := by decide +kernel
theorem cn_L_cell_8 : Cond.constant RL 8 2147483647 ∈ wsL_cell := by decide +kernel
theorem ct_L_cell (l : Launch) (X : Cx) (hX : Inj X) (M : Mem) (b L : Nat) (xs : Nat → Int32) (hL : L ≤ 2048) (k : Int) (hk : 0 ≤ k ∧ k < 100000) : CtX l X yL_cell wsL_cell 0 [Value.ref b, vI k] M b L xs (fun r => 0 ≤ r ∧ r < 2147483648) := by
  refine CtX_of (cc := cL_cell) (maxL := 2) hX hL (by decide +kernel) rfl (Nat.le_of_ble_eq_true rfl) ?_
  intro zp ze zs zm zargs zbelow zmeth zc zQ F S hret
  show J zp l ze (rm 0) zs zm zargs zbelow zmeth zc 0 0 zQ zs.heap X 2 M 0 [(0, Value.ref b), (1, vI k)] []
  have hend : ∀ v : Int, J zp l ze (rm 0) zs zm zargs zbelow zmeth zc 0 0 zQ zs.heap X 2 M 19 [(0, Value.ref b), (1, vI k)] [vI v] := by
    intro v
    refine j_ldc (q := 21) (n := 2147483647) F dL_cell_19 rfl cn_L_cell_8 (by decide) ?_
    refine j_iandn (q := 22) F dL_cell_21 rfl (fun z h0 h1 => ?_)
    exact hret _ _ _ dL_cell_22 ⟨h0, h1⟩
  refine j_iload_n (q := 1) F dL_cell_0 rfl rfl 1 rfl ?_
  refine j_aload_s (q := 2) F dL_cell_1 rfl rfl 0 rfl ?_
  refine j_slen (q := 3) F S dL_cell_2 rfl ?_
  refine j_icmp_ge (q := 6) (tgt := 12) F dL_cell_3 (by decide) rfl ⟨by omega, by omega⟩ ⟨by omega, by omega⟩ (fun h => ?_) (fun h => ?_)
  · refine j_ldc (q := 14) (n := 15485959) F dL_cell_12 rfl cn_L_cell_7 (by decide) ?_
    refine j_iload_n (q := 15) F dL_cell_14 rfl rfl 1 rfl ?_
    refine j_imul (q := 16) (z := 15485959 * k) F dL_cell_15 rfl rfl ?_
    refine j_bipush (q := 18) F dL_cell_16 rfl (by decide) ?_
    refine j_iadd (q := 19) (z := 15485959 * k + 109) F dL_cell_18 rfl rfl ?_
    exact hend _
  · refine j_aload_s (q := 7) F dL_cell_6 rfl rfl 0 rfl ?_
    refine j_iload_n (q := 8) F dL_cell_7 rfl rfl 1 rfl ?_
    refine j_sld (q := 9) F S (by omega) (by omega) dL_cell_8 rfl ?_
    refine j_goto (q := 19) F dL_cell_9 (by decide) ?_
    exact hend _
