/-! ===== the law, from its entry ===== -/
theorem k0_int {s : State} {args : Array Value} (h : (Cond.arrayClass .int).before args s = true) : ∃ cA : ClassId, ArrOfT s cA .int ∧ va_RA s cA .int := by
  obtain ⟨cA, kA, comp, h1, h2, h3⟩ := Cond.arrayClass_spec h
  exact ⟨cA, fun n z => ⟨fun k h => (by cases h), kA, h2, comp, h3⟩, h1⟩
theorem k0_page {s : State} {args : Array Value} (h : (Cond.arrayOver (.object "WhiteRivers$Page")).before args s = true) : ∃ cA : ClassId, ArrOfT s cA (.object "WhiteRivers$Page") ∧ va_RA s cA (.object "WhiteRivers$Page") := by
  obtain ⟨comp, cA, kA, f1, -, f2, f3, f4⟩ := Cond.arrayOver_spec h
  exact ⟨cA, fun n z => ⟨fun k h => (by cases h), kA, f2, comp, f3⟩, kA, comp, f2, f3, f1, f4⟩
theorem nw_54 : Cond.methodLinkNest RX6 9 yX1_init "WhiteRivers" ∈ lw_tbl := List.mem_of_getElem? (i := 27) (by decide +kernel)
theorem nw_105 : Cond.methodLinkNest RX0 21 yX1_init "WhiteRivers" ∈ lw_tbl := List.mem_of_getElem? (i := 78) (by decide +kernel)
theorem nw_116 : Cond.methodLinkNest RX6 25 yX4_init "WhiteRivers" ∈ lw_tbl := List.mem_of_getElem? (i := 89) (by decide +kernel)
theorem nw_137 : Cond.methodLinkNest RX6 32 yX3_init "WhiteRivers" ∈ lw_tbl := List.mem_of_getElem? (i := 110) (by decide +kernel)
theorem nw_143 : Cond.methodLinkNest RX3 27 yX1_init "WhiteRivers" ∈ lw_tbl := List.mem_of_getElem? (i := 116) (by decide +kernel)
theorem nw_145 : Cond.methodLinkNest RX3 34 yX4_init "WhiteRivers" ∈ lw_tbl := List.mem_of_getElem? (i := 118) (by decide +kernel)
theorem nw_183 : Cond.methodLinkNest RX6 39 yX5_init "WhiteRivers" ∈ lw_tbl := List.mem_of_getElem? (i := 156) (by decide +kernel)
theorem nw_104 : Cond.arrayOver (.object "WhiteRivers$Page") ∈ lw_tbl := List.mem_of_getElem? (i := 77) (by decide +kernel)
theorem ml_l6 : Cond.classLink RL 10 RX6 ∈ wsL_law := by decide +kernel
theorem ml_m6 : Cond.methodLink RL 36 yX6_init ∈ wsL_law := by decide +kernel
theorem ml_ai : Cond.arrayClass .int ∈ wsL_law := by decide +kernel
theorem ml_n0 : Cond.instantiable RX0 2 ∈ wsL_law := by decide +kernel
theorem ml_n1 : Cond.instantiable RX1 6 ∈ wsL_law := by decide +kernel
theorem ml_n2 : Cond.instantiable RX2 1 ∈ wsL_law := by decide +kernel
theorem ml_n3 : Cond.instantiable RX3 10 ∈ wsL_law := by decide +kernel
theorem ml_n4 : Cond.instantiable RX4 4 ∈ wsL_law := by decide +kernel
theorem ml_n5 : Cond.instantiable RX5 2 ∈ wsL_law := by decide +kernel
theorem ml_n6 : Cond.instantiable RX6 5 ∈ wsL_law := by decide +kernel
theorem ml_i6 : Cond.initialized RX6 ∈ wsL_law := by decide +kernel
theorem ml_j6 : Cond.initialized yX6_init.cls ∈ wsL_law := by decide +kernel
theorem ml_s6 : Cond.instanceMethod yX6_init ∈ wsL_law := by decide +kernel
theorem start_kn {s : State} {args : Array Value} (hts : ∀ w ∈ lw_tbl, w.before args s = true) : ∃ X : Cx, KN X s := by
  obtain ⟨c0, i0, hKn0⟩ := u_known (C := RX0) (T := TX0) (N := 2) (n := 2) hts inX0 (hts _ (wsL_law_in _ ml_n0))
  obtain ⟨c1, i1, hKn1⟩ := u_known (C := RX1) (T := TX1) (N := 6) (n := 6) hts inX1 (hts _ (wsL_law_in _ ml_n1))
  obtain ⟨c2, i2, hKn2⟩ := u_known (C := RX2) (T := TX2) (N := 1) (n := 1) hts inX2 (hts _ (wsL_law_in _ ml_n2))
  obtain ⟨c3, i3, hKn3⟩ := u_known (C := RX3) (T := TX3) (N := 10) (n := 10) hts inX3 (hts _ (wsL_law_in _ ml_n3))
  obtain ⟨c4, i4, hKn4⟩ := u_known (C := RX4) (T := TX4) (N := 4) (n := 4) hts inX4 (hts _ (wsL_law_in _ ml_n4))
  obtain ⟨c5, i5, hKn5⟩ := u_known (C := RX5) (T := TX5) (N := 2) (n := 2) hts inX5 (hts _ (wsL_law_in _ ml_n5))
  obtain ⟨c6, i6, hKn6⟩ := u_known (C := RX6) (T := TX6) (N := 5) (n := 5) hts inX6 (hts _ (wsL_law_in _ ml_n6))
  obtain ⟨cI, hI1, hI2⟩ := k0_int (hts _ (wsL_law_in _ ml_ai))
  obtain ⟨cP, hP1, hP2⟩ := k0_page (hts _ nw_104)
  refine ⟨(fun _ => 0, (fun k => match k with | 0 => c0 | 1 => c1 | 2 => c2 | 3 => c3 | 4 => c4 | 5 => c5 | _ => c6), (fun k => match k with | 0 => i0 | 1 => i1 | 2 => i2 | 3 => i3 | 4 => i4 | 5 => i5 | _ => i6), cI, cI, cP), ⟨fun k q hq => ?_, fun k q hq => ?_⟩, va_AO.of (hts _ nw_104), va_Nw.of rfl (hts _ nw_105), va_Nw.of rfl (hts _ nw_143), va_Nw.of rfl (hts _ nw_145), va_Nw.of rfl (hts _ nw_54), va_Nw.of rfl (hts _ nw_116), va_Nw.of rfl (hts _ nw_137), va_Nw.of rfl (hts _ nw_183)⟩
  · match k, hq with
    | 0, hq => cases hq; exact hKn0
    | 1, hq => cases hq; exact hKn1
    | 2, hq => cases hq; exact hKn2
    | 3, hq => cases hq; exact hKn3
    | 4, hq => cases hq; exact hKn4
    | 5, hq => cases hq; exact hKn5
    | 6, hq => cases hq; exact hKn6
    | k + 7, hq => simp [vwCl] at hq
  · match k, hq with
    | 0, hq => cases hq; exact ⟨hI1, hI2⟩
    | 1, hq => cases hq; exact ⟨hI1, hI2⟩
    | 2, hq => cases hq; exact ⟨hP1, hP2⟩
    | k + 3, hq => simp [tyl] at hq
set_option maxRecDepth 100000 in
set_option maxHeartbeats 4000000 in
theorem whole_start {p : Program} {e : Env} {s : State} {m : MethodId} {below : List Frame} {meth : Method} {c : Code} (l : Launch) (hflags : l.flags = flags0) {b L : Nat} {xs : Nat → Int32} (hL : L ≤ 260) (C0 : lw_At p s m meth c b L xs) : W p l e room_1 s m #[Value.ref b] below meth c s.heap [] 0 0 (lw_Z below #[Value.ref b] s) (entryFrame m ([Value.ref b] : List Value).toArray 16) := by
  obtain ⟨hx, hb, hr, hml, hown, hts, hX, hbl, hlocks, hgv⟩ := id C0
  obtain ⟨X0, hKN⟩ := start_kn hts
  obtain ⟨A, hAe⟩ : ∃ A : Nat → Prop, A = fun q : Nat => s.heap.size ≤ q := ⟨_, rfl⟩
  have hA : ∀ q : Nat, s.heap.size ≤ q → A q := fun q h => by rw [hAe]; exact h
  have hA2 : ∀ q : Nat, A q → s.heap.size ≤ q := fun q h => by rw [hAe] at h; exact h
  have htl : ∀ w ∈ wsL_law, w.before #[Value.ref b] s = true := fun w hw => hts w (wsL_law_in w hw)
  have F : FN p s m #[Value.ref b] c cL_law RL wsL_law 16 X0 A s.heap := ⟨hx, hb, hml, hown, htl, hKN, hA⟩
  have hgo : ∀ (z0 : Nat) (u : Nat → Nat), JN p l e room_1 s m #[Value.ref b] below meth c 82 1553 (lw_Z below #[Value.ref b] s) A s.heap X0 16 (wX6 X0 z0 u) 8 [(1, Value.ref z0), (0, Value.ref b)] [] := by
    intro z0 u H locs ls hP hD hS hl
    have hlen := WW_len X0 z0 u
    have hW : Wd (XW X0 (wX6 X0 z0 u)) M0 H := WW_wl hP
    have hin : Inj (XW X0 (wX6 X0 z0 u)) := XW_inj hlen hD
    have hAX : ∀ q, Aw (XW X0 (wX6 X0 z0 u)) q → s.heap.size ≤ q := fun q h => by
      obtain ⟨k, hk, e⟩ := h
      rw [e]
      exact hA2 _ (XW_A hlen hD hk)
    have a0 : (XW X0 (wX6 X0 z0 u)).1 0 = z0 := rfl
    have hKX : KK (XW X0 (wX6 X0 z0 u)) s := hKN.1
    generalize XW X0 (wX6 X0 z0 u) = X at hW hin hAX a0 hKX
    subst a0
    have hnA : ¬ Aw X b := fun h => by have := hAX b h; omega
    have FL : Fx p s m #[Value.ref b] c cL_law RL wsL_law 16 X := ⟨hx, hb, hml, hown, htl, hKX, hin⟩
    have SL : LScr s H X b L xs := ⟨hX.kept (hS.2.1 b hbl (fun h => by have := hA2 b h; omega)), Nat.lt_of_lt_of_le hbl hS.1, hnA, by omega⟩
    have hfin : ∀ (M : Mem) (lv : List (Nat × Value)), J p l e room_1 s m #[Value.ref b] below meth c 600000 7302250 (lw_Z below #[Value.ref b] s) H X 16 M 632 lv [vI 1] := by
      intro M lv H' locs' ls' h1 h2 h3
      refine va_forget (fun q hq => hAX _ (h2.2.2 q hq)) ?_
      have e1 : vI 1 = Value.int 1 := congrArg Value.int (by decide)
      rw [e1]
      exact lw_ret hx hb hr hlocks dL_law_632
    refine va_forget (fun q hq => hA2 _ (hS.2.2 q hq)) ?_
    refine W.widen (k := 600000) (n := 7302250) (Nat.le_of_ble_eq_true rfl) (Nat.le_of_ble_eq_true rfl) ?_
    have K := law_body FL SL (QI.rf M0_inv) rfl rfl hfin
    exact K H [] ls hW va_S.rf (lv_sub hl [1, 0] rfl)
  have hstart : JN p l e room_1 s m #[Value.ref b] below meth c 0 0 (lw_Z below #[Value.ref b] s) A s.heap X0 16 [] 0 [(0, Value.ref b)] [] := by
    refine n_new (q := 3) (ci := 6) (c2 := 1) (s2 := 5) (index := 10) (ws2 := fun z => [(z, .inr (6, [Value.null, Value.null, Value.null, Value.null, Value.null]))]) F inlX6 tyX6_ok ml_l6 ml_n6 ml_i6 rfl dfX6 rfl rfl (fun _ => rfl) (Nat.le_of_ble_eq_true rfl) (Nat.le_of_ble_eq_true rfl) dL_law_0 rfl (fun z0 => ?_)
    refine n_dup (q := 4) F dL_law_3 rfl ?_
    refine n_call (q := 7) (c2 := 82) (s2 := 1553) (index := 36) (wr := []) (w1 := fun u => wX6 X0 z0 u) (ws2 := fun u => wX6 X0 z0 u) F [] [0] [] (cn_X6 l X0 z0) ggL_law_X6_init rfl ml_j6 ml_m6 ml_s6 rfl (by decide +kernel) ⟨(Nat.le_of_ble_eq_true rfl), (Nat.le_of_ble_eq_true rfl)⟩ rfl rfl (Nat.le_of_ble_eq_true rfl) rfl rfl rfl (by decide) rfl (fun _ => rfl) rfl rfl (Nat.le_of_ble_eq_true rfl) (Nat.le_of_ble_eq_true rfl) dL_law_4 rfl (fun u => ?_)
    refine n_astore (q := 8) (lv' := [(1, Value.ref z0), (0, Value.ref b)]) F dL_law_7 rfl rfl (by decide) rfl ?_
    exact hgo z0 u
  have hl := lv_entry ([Value.ref b]) (n := 16) (Nat.le_of_ble_eq_true rfl)
  rw [lg_entry_eq]
  exact hstart s.heap [] _ vp_nil ⟨fun i j p q h => by simp at h, fun k q h => by simp at h⟩ va_S.rf hl
