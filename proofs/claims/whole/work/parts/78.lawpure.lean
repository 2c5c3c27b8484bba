/-! ===== the law: one call of both sides; rows that read the script ===== -/
def hi82 (M : Mem) : Mem := fun q => if 82 ≤ q then M q else fun _ => 0
theorem hi82_eq {M M1 : Mem} (h : ∀ q, 82 ≤ q → M1 q = M q) : hi82 M1 = hi82 M := by
  funext q
  unfold hi82
  by_cases z : 82 ≤ q
  · rw [if_pos z, if_pos z, h q z]
  · rw [if_neg z, if_neg z]
def LInv (M : Mem) : Prop := CRel M M ∧ (M 90 0 = 0 ∧ M 92 0 = 0 ∧ M 93 0 = 0 ∧ M 94 0 = 0)
theorem CRel.lo {M1 M2 N : Mem} (h : CRel M1 N) (hf : ∀ q, q < 82 → M2 q = M1 q) : CRel M2 N := by
  obtain ⟨h1, h2, h3, h4, h5, h6, h7⟩ := h
  refine ⟨h1.congr (hf _ (by decide)) (hf _ (by decide)) (hf _ (by decide)) (hf _ (by decide)), h2, h3.congr (fun q _ q2 => hf q (by omega)), h4.congr (hf _ (by decide)) (hf _ (by decide)), ?_, h6.congr (hf _ (by decide)) (hf _ (by decide)), h7.congr (hf _ (by decide)) (hf _ (by decide))⟩
  unfold SRel BRel
  rw [hf 54 (by decide), hf 78 (by decide)]
  exact h5
theorem law_pair {OP : Mem → Int → Mem → Prop} (hop : ∀ M, OP M = OP (hi82 M)) {M M1 M2 : Mem} {r r' : Int} (hI : LInv M) (h1 : CPO M (OP M) r M1) (h2 : MPO M1 (OP M1) r' M2) : r = r' ∧ LInv M2 := by
  obtain ⟨f1, g1⟩ := h1
  obtain ⟨f2, ⟨z0, z2, z3, z4⟩, ho⟩ := h2
  have e : OP M1 = OP M := by rw [hop M1, hi82_eq f1, ← hop M]
  rw [e] at ho
  obtain ⟨e, hc⟩ := g1 r' M2 ho
  refine ⟨e, hc.lo f2, ?_⟩
  rw [z0, z2, z3, z4, f1 90 (by decide), f1 92 (by decide), f1 93 (by decide), f1 94 (by decide)]
  exact hI.2
theorem lpre {M M1 : Mem} (hI : LInv M) (h : ∀ q, 82 ≤ q → M1 q = M q) : DOK (M1 83) ∧ (0 ≤ M1 82 2 ∧ M1 82 2 ≤ 5) ∧ (0 ≤ M1 82 4 ∧ M1 82 4 ≤ 100) ∧ (∀ j, 0 ≤ j → j < 100 → 0 ≤ M1 85 j ∧ M1 85 j ≤ 126) ∧ (M1 90 0 = 0 ∧ M1 92 0 = 0 ∧ M1 93 0 = 0 ∧ M1 94 0 = 0) := by
  rw [h 83 (by decide), h 82 (by decide), h 85 (by decide), h 90 (by decide), h 92 (by decide), h 93 (by decide), h 94 (by decide)]
  exact ⟨hI.1.2.1, ⟨hI.1.2.2.1.1, hI.1.2.2.1.2.1⟩, ⟨hI.1.2.2.2.1.1, hI.1.2.2.2.1.2.1⟩, hI.1.2.2.2.1.2.2.2.2.2, hI.2⟩
theorem flt_mpo {M M' : Mem} {x : Int} (h : M' = M ∧ FltP (M 85) (M 82 4) x) : MPO M (Ofault M) x M' := by
  obtain ⟨e, h⟩ := h
  subst e
  exact ⟨fun _ _ => rfl, ⟨rfl, rfl, rfl, rfl⟩, SM.rf _, h⟩
/-- the script, and where it lies -/
def LScr (s : State) (H0 : Heap) (X : Cx) (b L : Nat) (xs : Nat → Int32) : Prop := va_X b L xs s H0 ∧ b < H0.size ∧ ¬ Aw X b ∧ L ≤ 2048
section JS
variable {p : Program} {l : Launch} {e : Env} {R : Room} {s : State} {m : MethodId} {args : Array Value} {below : List Frame} {meth : Method} {c : Code} {cells slots : Nat} {Q : State → Prop} {H0 : Heap} {X : Cx} {nL : Nat} {M : Mem} {pc q : Nat} {lv : List (Nat × Value)} {st : List Value} {cc : ByteArray} {own : String} {Ts : List Cond} {b L : Nat} {xs : Nat → Int32}
theorem j_aload_s (F : Fx p s m args c cc own Ts nL X) {k : Fin 4} {i : Nat} {z : Nat} (hdg : decode cc pc = .ok (.aload_n k, 1)) (hq : pc + 1 = q) (hi : (k : Nat) = i) (j : Nat) (hk : lv[j]? = some (i, Value.ref z)) (kk : J p l e R s m args below meth c cells slots Q H0 X nL M q lv (Value.ref z :: st)) : J p l e R s m args below meth c cells slots Q H0 X nL M pc lv st := by
  subst hq; subst hi
  intro H locs ls h1 h2 h3
  exact lv_aload_n F.1 F.2.1 hdg rfl (lv_at h3 j hk) (kk H locs ls h1 h2 h3)
theorem j_slen (F : Fx p s m args c cc own Ts nL X) (S : LScr s H0 X b L xs) (hdg : decode cc pc = .ok (.arraylength, 1)) (hq : pc + 1 = q) (kk : J p l e R s m args below meth c cells slots Q H0 X nL M q lv (vI (L : Int) :: st)) : J p l e R s m args below meth c cells slots Q H0 X nL M pc lv (Value.ref b :: st) := by
  subst hq
  intro H locs ls h1 h2 h3
  refine va_slen F.1 F.2.1 S.1 S.2.1 S.2.2.1 h2 hdg ?_
  have K := kk H locs ls h1 h2 h3
  have e : Int32.ofNat L = oI (L : Int) := (oI_nat L).symm
  rw [e]
  exact K
theorem j_sld (F : Fx p s m args c cc own Ts nL X) (S : LScr s H0 X b L xs) {i : Int} (h0 : 0 ≤ i) (hi : i < (L : Int)) (hdg : decode cc pc = .ok (.iaload, 1)) (hq : pc + 1 = q) (kk : J p l e R s m args below meth c cells slots Q H0 X nL M q lv (vI (xs i.toNat).toInt :: st)) : J p l e R s m args below meth c cells slots Q H0 X nL M pc lv (vI i :: Value.ref b :: st) := by
  subst hq
  intro H locs ls h1 h2 h3
  have hL := S.2.2.2
  refine va_sld F.1 F.2.1 S.1 S.2.1 S.2.2.1 h2 (oI_in h0 hi (by omega)) hdg ?_
  have K := kk H locs ls h1 h2 h3
  rw [oI_clamp h0 (by omega)]
  have e : vI (xs i.toNat).toInt = Value.int (xs i.toNat) := by unfold vI; rw [oI_self]
  rw [← e]
  exact K
theorem j_iand (F : Fx p s m args c cc own Ts nL X) {a b : Int} (hdg : decode cc pc = .ok (.iand, 1)) (hq : pc + 1 = q) (kk : ∀ z : Int, inR z → J p l e R s m args below meth c cells slots Q H0 X nL M q lv (vI z :: st)) : J p l e R s m args below meth c cells slots Q H0 X nL M pc lv (vI b :: vI a :: st) := by
  subst hq
  intro H locs ls h1 h2 h3
  refine lv_iand F.1 F.2.1 hdg ?_
  have K := kk (oI a &&& oI b).toInt (inR_self _) H locs ls h1 h2 h3
  have e : vI (oI a &&& oI b).toInt = Value.int (oI a &&& oI b) := by unfold vI; rw [oI_self]
  rw [← e]
  exact K
theorem j_eqself (F : Fx p s m args c cc own Ts nL X) {a off : Int} {tgt : Nat} (hdg : decode cc pc = .ok (.if_icmp .eq off, 3)) (ht : (pc : Int) + off = (tgt : Int)) (kt : J p l e R s m args below meth c cells slots Q H0 X nL M tgt lv st) : J p l e R s m args below meth c cells slots Q H0 X nL M pc lv (vI a :: vI a :: st) := by
  intro H locs ls h1 h2 h3
  exact lv_icmp_eq F.1 F.2.1 hdg ht (fun _ => kt H locs ls h1 h2 h3) (fun h => absurd rfl h)
end JS
