set_option maxRecDepth 100000 in
set_option maxHeartbeats 4000000 in
theorem law_loop {zp : Program} {l : Launch} {ze : Env} {zs : State} {zm : MethodId} {zbelow : List Frame} {zmeth : Method} {zc : Code} {zQ : State → Prop} {Hs : Heap} {X : Cx} {b L : Nat} {xs : Nat → Int32} (F : Fx zp zs zm #[Value.ref b] zc cL_law RL wsL_law 4 X) (S : LScr zs Hs X b L xs) (hfin : ∀ M lv, J zp l ze room_1 zs zm #[Value.ref b] zbelow zmeth zc 600000 7302250 zQ Hs X 4 M 696 lv [vI 1]) : ∀ (nn : Nat) (i : Int) (M : Mem), LInv M → 0 ≤ i → i ≤ (L : Int) + 4 → ((L : Int) + 8 - i).toNat < nn → J zp l ze room_1 zs zm #[Value.ref b] zbelow zmeth zc 600000 7302250 zQ Hs X 4 M 18 [(0, Value.ref b), (1, vR X 0), (2, vR X 82), (3, vI i)] [] := by
  have hL := S.2.2.2
  intro nn
  induction nn with
  | zero => intro i M _ _ _ h; exact absurd h (Nat.not_lt_zero _)
  | succ nn ih =>
    intro i M hI hi0 hi1 hm
    refine j_iload_n (q := 19) F dL_law_18 rfl rfl 3 rfl ?_
    refine j_aload_s (q := 20) F dL_law_19 rfl rfl 0 rfl ?_
    refine j_slen (q := 21) F S dL_law_20 rfl ?_
    refine j_iconst (q := 22) F dL_law_21 rfl ?_
    refine j_isub (q := 23) (z := (L : Int) - 4) F dL_law_22 rfl rfl ?_
    refine j_icmp_gt (q := 26) (tgt := 695) F dL_law_23 (by decide) rfl ⟨by omega, by omega⟩ ⟨by omega, by omega⟩ (fun h => ?_) (fun h => ?_)
    · refine j_iconst (q := 696) F dL_law_695 rfl ?_
      exact hfin _ _
    · have kk : ∀ Mn, LInv Mn → J zp l ze room_1 zs zm #[Value.ref b] zbelow zmeth zc 600000 7302250 zQ Hs X 4 Mn 689 [(0, Value.ref b), (1, vR X 0), (2, vR X 82), (3, vI i)] [] := by
        intro Mn hn
        refine j_iinc (q := 692) (lv' := [(0, Value.ref b), (1, vR X 0), (2, vR X 82), (3, vI (i + 4))]) F dL_law_689 rfl 3 rfl (by decide) rfl rfl ?_
        refine j_goto (q := 18) F dL_law_692 (by decide) ?_
        exact ih (i + 4) Mn hn (by omega) (by omega) (by omega)
      refine j_aload_s (q := 27) F dL_law_26 rfl rfl 0 rfl ?_
      refine j_iload_n (q := 28) F dL_law_27 rfl rfl 3 rfl ?_
      refine j_sld (q := 29) F S (by omega) (by omega) dL_law_28 rfl ?_
      refine j_bipush (q := 31) F dL_law_29 rfl (by decide) ?_
      refine j_iand (q := 32) F dL_law_31 rfl (fun z hz => ?_)
      obtain ⟨hz1, hz2⟩ := hz
      rcases (show z = 0 ∨ z = 1 ∨ z = 2 ∨ z = 3 ∨ z = 4 ∨ z = 5 ∨ z = 6 ∨ z = 7 ∨ z = 8 ∨ z = 9 ∨ z = 10 ∨ z = 11 ∨ z = 12 ∨ z = 13 ∨ z = 14 ∨ z = 15 ∨ z = 16 ∨ z = 17 ∨ z = 18 ∨ z = 19 ∨ z = 20 ∨ z = 21 ∨ z = 22 ∨ (z < 0 ∨ 22 < z) by omega) with h9 | h9 | h9 | h9 | h9 | h9 | h9 | h9 | h9 | h9 | h9 | h9 | h9 | h9 | h9 | h9 | h9 | h9 | h9 | h9 | h9 | h9 | h9 | h9
      · subst h9
        refine j_tableIn (tgt := 140) F dL_law_32 ⟨by decide, by decide⟩ ⟨by decide, by decide⟩ rfl (by decide) ?_
        exact lawc_0 F S hI i hi0 (by omega) kk
      · subst h9
        refine j_tableIn (tgt := 163) F dL_law_32 ⟨by decide, by decide⟩ ⟨by decide, by decide⟩ rfl (by decide) ?_
        exact lawc_1 F S hI i hi0 (by omega) kk
      · subst h9
        refine j_tableIn (tgt := 186) F dL_law_32 ⟨by decide, by decide⟩ ⟨by decide, by decide⟩ rfl (by decide) ?_
        exact lawc_2 F S hI i hi0 (by omega) kk
      · subst h9
        refine j_tableIn (tgt := 209) F dL_law_32 ⟨by decide, by decide⟩ ⟨by decide, by decide⟩ rfl (by decide) ?_
        exact lawc_3 F S hI i hi0 (by omega) kk
      · subst h9
        refine j_tableIn (tgt := 222) F dL_law_32 ⟨by decide, by decide⟩ ⟨by decide, by decide⟩ rfl (by decide) ?_
        exact lawc_4 F S hI i hi0 (by omega) kk
      · subst h9
        refine j_tableIn (tgt := 245) F dL_law_32 ⟨by decide, by decide⟩ ⟨by decide, by decide⟩ rfl (by decide) ?_
        exact lawc_5 F S hI i hi0 (by omega) kk
      · subst h9
        refine j_tableIn (tgt := 268) F dL_law_32 ⟨by decide, by decide⟩ ⟨by decide, by decide⟩ rfl (by decide) ?_
        exact lawc_6 F S hI i hi0 (by omega) kk
      · subst h9
        refine j_tableIn (tgt := 301) F dL_law_32 ⟨by decide, by decide⟩ ⟨by decide, by decide⟩ rfl (by decide) ?_
        exact lawc_7 F S hI i hi0 (by omega) kk
      · subst h9
        refine j_tableIn (tgt := 314) F dL_law_32 ⟨by decide, by decide⟩ ⟨by decide, by decide⟩ rfl (by decide) ?_
        exact lawc_8 F S hI i hi0 (by omega) kk
      · subst h9
        refine j_tableIn (tgt := 337) F dL_law_32 ⟨by decide, by decide⟩ ⟨by decide, by decide⟩ rfl (by decide) ?_
        exact lawc_9 F S hI i hi0 (by omega) kk
      · subst h9
        refine j_tableIn (tgt := 370) F dL_law_32 ⟨by decide, by decide⟩ ⟨by decide, by decide⟩ rfl (by decide) ?_
        exact lawc_10 F S hI i hi0 (by omega) kk
      · subst h9
        refine j_tableIn (tgt := 403) F dL_law_32 ⟨by decide, by decide⟩ ⟨by decide, by decide⟩ rfl (by decide) ?_
        exact lawc_11 F S hI i hi0 (by omega) kk
      · subst h9
        refine j_tableIn (tgt := 416) F dL_law_32 ⟨by decide, by decide⟩ ⟨by decide, by decide⟩ rfl (by decide) ?_
        exact lawc_12 F S hI i hi0 (by omega) kk
      · subst h9
        refine j_tableIn (tgt := 459) F dL_law_32 ⟨by decide, by decide⟩ ⟨by decide, by decide⟩ rfl (by decide) ?_
        exact lawc_13 F S hI i hi0 (by omega) kk
      · subst h9
        refine j_tableIn (tgt := 492) F dL_law_32 ⟨by decide, by decide⟩ ⟨by decide, by decide⟩ rfl (by decide) ?_
        exact lawc_14 F S hI i hi0 (by omega) kk
      · subst h9
        refine j_tableIn (tgt := 525) F dL_law_32 ⟨by decide, by decide⟩ ⟨by decide, by decide⟩ rfl (by decide) ?_
        exact lawc_15 F S hI i hi0 (by omega) kk
      · subst h9
        refine j_tableIn (tgt := 558) F dL_law_32 ⟨by decide, by decide⟩ ⟨by decide, by decide⟩ rfl (by decide) ?_
        exact lawc_16 F S hI i hi0 (by omega) kk
      · subst h9
        refine j_tableIn (tgt := 591) F dL_law_32 ⟨by decide, by decide⟩ ⟨by decide, by decide⟩ rfl (by decide) ?_
        exact lawc_17 F S hI i hi0 (by omega) kk
      · subst h9
        refine j_tableIn (tgt := 614) F dL_law_32 ⟨by decide, by decide⟩ ⟨by decide, by decide⟩ rfl (by decide) ?_
        exact lawc_18 F S hI i hi0 (by omega) kk
      · subst h9
        refine j_tableIn (tgt := 627) F dL_law_32 ⟨by decide, by decide⟩ ⟨by decide, by decide⟩ rfl (by decide) ?_
        exact lawc_19 F S hI i hi0 (by omega) kk
      · subst h9
        refine j_tableIn (tgt := 650) F dL_law_32 ⟨by decide, by decide⟩ ⟨by decide, by decide⟩ rfl (by decide) ?_
        exact lawc_20 F S hI i hi0 (by omega) kk
      · subst h9
        refine j_tableIn (tgt := 663) F dL_law_32 ⟨by decide, by decide⟩ ⟨by decide, by decide⟩ rfl (by decide) ?_
        exact lawc_21 F S hI i hi0 (by omega) kk
      · subst h9
        refine j_tableIn (tgt := 676) F dL_law_32 ⟨by decide, by decide⟩ ⟨by decide, by decide⟩ rfl (by decide) ?_
        exact lawc_22 F S hI i hi0 (by omega) kk
      · exact j_tableOut (tgt := 689) F dL_law_32 ⟨by omega, by omega⟩ h9 (by decide) (kk M hI)
