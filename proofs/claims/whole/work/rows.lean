section
-- ===== PART A: goes FIRST, ahead of the names: the tables' words, and 'selects' of the private methods out of them =====
/-- a private method of a class that the tables say can be made, by its rows of tables_1 -/
def lw_okq (q : MethodName × Nat) : Prop := (q.1.cls ≠ "java/lang/invoke/MethodHandle" ∧ q.1.cls ≠ "java/lang/invoke/VarHandle") ∧ Cond.instantiable q.1.cls q.2 ∈ tables_1 ∧ Cond.privateMethod q.1 ∈ tables_1 ∧ Cond.instanceMethod q.1 ∈ tables_1
theorem lw_p0 : lw_okq (⟨"WhiteRivers", "beginChange", "()V"⟩, 5) := ⟨⟨by decide +kernel, by decide +kernel⟩, List.mem_of_getElem? (i := 11) (by decide +kernel), List.mem_of_getElem? (i := 195) (by decide +kernel), List.mem_of_getElem? (i := 196) (by decide +kernel)⟩
theorem lw_p1 : lw_okq (⟨"WhiteRivers$History", "dropOldest", "()V"⟩, 2) := ⟨⟨by decide +kernel, by decide +kernel⟩, List.mem_of_getElem? (i := 64) (by decide +kernel), List.mem_of_getElem? (i := 203) (by decide +kernel), List.mem_of_getElem? (i := 204) (by decide +kernel)⟩
theorem lw_p2 : lw_okq (⟨"WhiteRivers$History", "pageAt", "(I)LWhiteRivers$Page;"⟩, 2) := ⟨⟨by decide +kernel, by decide +kernel⟩, List.mem_of_getElem? (i := 64) (by decide +kernel), List.mem_of_getElem? (i := 207) (by decide +kernel), List.mem_of_getElem? (i := 208) (by decide +kernel)⟩
theorem lw_p3 : lw_okq (⟨"WhiteRivers$Sheet", "placeWords", "(LWhiteRivers$Page;II)V"⟩, 4) := ⟨⟨by decide +kernel, by decide +kernel⟩, List.mem_of_getElem? (i := 81) (by decide +kernel), List.mem_of_getElem? (i := 332) (by decide +kernel), List.mem_of_getElem? (i := 333) (by decide +kernel)⟩
theorem lw_p4 : lw_okq (⟨"WhiteRivers$Sheet", "reachAbove", "(III)I"⟩, 4) := ⟨⟨by decide +kernel, by decide +kernel⟩, List.mem_of_getElem? (i := 81) (by decide +kernel), List.mem_of_getElem? (i := 342) (by decide +kernel), List.mem_of_getElem? (i := 343) (by decide +kernel)⟩
theorem lw_p5 : lw_okq (⟨"WhiteRivers", "gapAbove", "(I)I"⟩, 5) := ⟨⟨by decide +kernel, by decide +kernel⟩, List.mem_of_getElem? (i := 11) (by decide +kernel), List.mem_of_getElem? (i := 435) (by decide +kernel), List.mem_of_getElem? (i := 436) (by decide +kernel)⟩
theorem lw_p6 : lw_okq (⟨"WhiteRivers$Search", "setPrices", "()V"⟩, 10) := ⟨⟨by decide +kernel, by decide +kernel⟩, List.mem_of_getElem? (i := 102) (by decide +kernel), List.mem_of_getElem? (i := 453) (by decide +kernel), List.mem_of_getElem? (i := 454) (by decide +kernel)⟩
theorem lw_p7 : lw_okq (⟨"WhiteRivers$Search", "priceOf", "(II)I"⟩, 10) := ⟨⟨by decide +kernel, by decide +kernel⟩, List.mem_of_getElem? (i := 102) (by decide +kernel), List.mem_of_getElem? (i := 458) (by decide +kernel), List.mem_of_getElem? (i := 459) (by decide +kernel)⟩
theorem lw_p8 : lw_okq (⟨"WhiteRivers$Search", "keepTried", "(III)V"⟩, 10) := ⟨⟨by decide +kernel, by decide +kernel⟩, List.mem_of_getElem? (i := 102) (by decide +kernel), List.mem_of_getElem? (i := 483) (by decide +kernel), List.mem_of_getElem? (i := 484) (by decide +kernel)⟩
theorem lw_p9 : lw_okq (⟨"WhiteRiversModel", "frozen", "()I"⟩, 19) := ⟨⟨by decide +kernel, by decide +kernel⟩, List.mem_of_getElem? (i := 559) (by decide +kernel), List.mem_of_getElem? (i := 631) (by decide +kernel), List.mem_of_getElem? (i := 632) (by decide +kernel)⟩
theorem lw_p10 : lw_okq (⟨"WhiteRiversModel", "records", "()V"⟩, 19) := ⟨⟨by decide +kernel, by decide +kernel⟩, List.mem_of_getElem? (i := 559) (by decide +kernel), List.mem_of_getElem? (i := 635) (by decide +kernel), List.mem_of_getElem? (i := 636) (by decide +kernel)⟩
theorem lw_p11 : lw_okq (⟨"WhiteRiversModel", "fills", "()V"⟩, 19) := ⟨⟨by decide +kernel, by decide +kernel⟩, List.mem_of_getElem? (i := 559) (by decide +kernel), List.mem_of_getElem? (i := 639) (by decide +kernel), List.mem_of_getElem? (i := 640) (by decide +kernel)⟩
theorem lw_p12 : lw_okq (⟨"WhiteRiversModel", "mostFrom", "(I)I"⟩, 19) := ⟨⟨by decide +kernel, by decide +kernel⟩, List.mem_of_getElem? (i := 559) (by decide +kernel), List.mem_of_getElem? (i := 643) (by decide +kernel), List.mem_of_getElem? (i := 644) (by decide +kernel)⟩
theorem lw_p13 : lw_okq (⟨"WhiteRiversModel", "fits", "(II)Z"⟩, 19) := ⟨⟨by decide +kernel, by decide +kernel⟩, List.mem_of_getElem? (i := 559) (by decide +kernel), List.mem_of_getElem? (i := 647) (by decide +kernel), List.mem_of_getElem? (i := 648) (by decide +kernel)⟩
theorem lw_p14 : lw_okq (⟨"WhiteRiversModel", "needs", "(II)I"⟩, 19) := ⟨⟨by decide +kernel, by decide +kernel⟩, List.mem_of_getElem? (i := 559) (by decide +kernel), List.mem_of_getElem? (i := 651) (by decide +kernel), List.mem_of_getElem? (i := 652) (by decide +kernel)⟩
theorem lw_p15 : lw_okq (⟨"WhiteRiversModel", "first", "(I)I"⟩, 19) := ⟨⟨by decide +kernel, by decide +kernel⟩, List.mem_of_getElem? (i := 559) (by decide +kernel), List.mem_of_getElem? (i := 663) (by decide +kernel), List.mem_of_getElem? (i := 664) (by decide +kernel)⟩
def lw_privs_1 : List (MethodName × Nat) := [(⟨"WhiteRivers", "beginChange", "()V"⟩, 5), (⟨"WhiteRivers$History", "dropOldest", "()V"⟩, 2), (⟨"WhiteRivers$History", "pageAt", "(I)LWhiteRivers$Page;"⟩, 2), (⟨"WhiteRivers$Sheet", "placeWords", "(LWhiteRivers$Page;II)V"⟩, 4), (⟨"WhiteRivers$Sheet", "reachAbove", "(III)I"⟩, 4), (⟨"WhiteRivers", "gapAbove", "(I)I"⟩, 5), (⟨"WhiteRivers$Search", "setPrices", "()V"⟩, 10), (⟨"WhiteRivers$Search", "priceOf", "(II)I"⟩, 10), (⟨"WhiteRivers$Search", "keepTried", "(III)V"⟩, 10), (⟨"WhiteRiversModel", "frozen", "()I"⟩, 19), (⟨"WhiteRiversModel", "records", "()V"⟩, 19), (⟨"WhiteRiversModel", "fills", "()V"⟩, 19), (⟨"WhiteRiversModel", "mostFrom", "(I)I"⟩, 19), (⟨"WhiteRiversModel", "fits", "(II)Z"⟩, 19), (⟨"WhiteRiversModel", "needs", "(II)I"⟩, 19), (⟨"WhiteRiversModel", "first", "(I)I"⟩, 19)]
theorem lw_r1 : ∀ q ∈ lw_privs_1, lw_okq q := List.forall_mem_cons.mpr ⟨lw_p0, List.forall_mem_cons.mpr ⟨lw_p1, List.forall_mem_cons.mpr ⟨lw_p2, List.forall_mem_cons.mpr ⟨lw_p3, List.forall_mem_cons.mpr ⟨lw_p4, List.forall_mem_cons.mpr ⟨lw_p5, List.forall_mem_cons.mpr ⟨lw_p6, List.forall_mem_cons.mpr ⟨lw_p7, List.forall_mem_cons.mpr ⟨lw_p8, List.forall_mem_cons.mpr ⟨lw_p9, List.forall_mem_cons.mpr ⟨lw_p10, List.forall_mem_cons.mpr ⟨lw_p11, List.forall_mem_cons.mpr ⟨lw_p12, List.forall_mem_cons.mpr ⟨lw_p13, List.forall_mem_cons.mpr ⟨lw_p14, List.forall_mem_cons.mpr ⟨lw_p15, fun _ h => absurd h List.not_mem_nil⟩⟩⟩⟩⟩⟩⟩⟩⟩⟩⟩⟩⟩⟩⟩⟩
theorem lw_p16 : lw_okq (⟨"WhiteRiversModel", "isLine", "(I)Z"⟩, 19) := ⟨⟨by decide +kernel, by decide +kernel⟩, List.mem_of_getElem? (i := 559) (by decide +kernel), List.mem_of_getElem? (i := 675) (by decide +kernel), List.mem_of_getElem? (i := 676) (by decide +kernel)⟩
theorem lw_p17 : lw_okq (⟨"WhiteRiversModel", "behind", "(I)I"⟩, 19) := ⟨⟨by decide +kernel, by decide +kernel⟩, List.mem_of_getElem? (i := 559) (by decide +kernel), List.mem_of_getElem? (i := 679) (by decide +kernel), List.mem_of_getElem? (i := 680) (by decide +kernel)⟩
theorem lw_p18 : lw_okq (⟨"WhiteRiversModel", "badness", "()I"⟩, 19) := ⟨⟨by decide +kernel, by decide +kernel⟩, List.mem_of_getElem? (i := 559) (by decide +kernel), List.mem_of_getElem? (i := 699) (by decide +kernel), List.mem_of_getElem? (i := 700) (by decide +kernel)⟩
theorem lw_p19 : lw_okq (⟨"WhiteRiversModel", "badOf", "(I)I"⟩, 19) := ⟨⟨by decide +kernel, by decide +kernel⟩, List.mem_of_getElem? (i := 559) (by decide +kernel), List.mem_of_getElem? (i := 703) (by decide +kernel), List.mem_of_getElem? (i := 704) (by decide +kernel)⟩
theorem lw_p20 : lw_okq (⟨"WhiteRiversModel", "extraOf", "(I)I"⟩, 19) := ⟨⟨by decide +kernel, by decide +kernel⟩, List.mem_of_getElem? (i := 559) (by decide +kernel), List.mem_of_getElem? (i := 707) (by decide +kernel), List.mem_of_getElem? (i := 708) (by decide +kernel)⟩
theorem lw_p21 : lw_okq (⟨"WhiteRiversModel", "laysAll", "()I"⟩, 19) := ⟨⟨by decide +kernel, by decide +kernel⟩, List.mem_of_getElem? (i := 559) (by decide +kernel), List.mem_of_getElem? (i := 711) (by decide +kernel), List.mem_of_getElem? (i := 712) (by decide +kernel)⟩
theorem lw_p22 : lw_okq (⟨"WhiteRiversModel", "lays", "(III)I"⟩, 19) := ⟨⟨by decide +kernel, by decide +kernel⟩, List.mem_of_getElem? (i := 559) (by decide +kernel), List.mem_of_getElem? (i := 715) (by decide +kernel), List.mem_of_getElem? (i := 716) (by decide +kernel)⟩
theorem lw_p23 : lw_okq (⟨"WhiteRiversModel", "meets", "(II)Z"⟩, 19) := ⟨⟨by decide +kernel, by decide +kernel⟩, List.mem_of_getElem? (i := 559) (by decide +kernel), List.mem_of_getElem? (i := 719) (by decide +kernel), List.mem_of_getElem? (i := 720) (by decide +kernel)⟩
theorem lw_p24 : lw_okq (⟨"WhiteRiversModel", "gapsWith", "(I)I"⟩, 19) := ⟨⟨by decide +kernel, by decide +kernel⟩, List.mem_of_getElem? (i := 559) (by decide +kernel), List.mem_of_getElem? (i := 723) (by decide +kernel), List.mem_of_getElem? (i := 724) (by decide +kernel)⟩
theorem lw_p25 : lw_okq (⟨"WhiteRiversModel", "above", "(II)I"⟩, 19) := ⟨⟨by decide +kernel, by decide +kernel⟩, List.mem_of_getElem? (i := 559) (by decide +kernel), List.mem_of_getElem? (i := 727) (by decide +kernel), List.mem_of_getElem? (i := 728) (by decide +kernel)⟩
theorem lw_p26 : lw_okq (⟨"WhiteRiversModel", "meetsOf", "(II)I"⟩, 19) := ⟨⟨by decide +kernel, by decide +kernel⟩, List.mem_of_getElem? (i := 559) (by decide +kernel), List.mem_of_getElem? (i := 731) (by decide +kernel), List.mem_of_getElem? (i := 732) (by decide +kernel)⟩
theorem lw_p27 : lw_okq (⟨"WhiteRiversModel", "lineOf", "(I)I"⟩, 19) := ⟨⟨by decide +kernel, by decide +kernel⟩, List.mem_of_getElem? (i := 559) (by decide +kernel), List.mem_of_getElem? (i := 739) (by decide +kernel), List.mem_of_getElem? (i := 740) (by decide +kernel)⟩
theorem lw_p28 : lw_okq (⟨"WhiteRiversModel", "below", "(II)I"⟩, 19) := ⟨⟨by decide +kernel, by decide +kernel⟩, List.mem_of_getElem? (i := 559) (by decide +kernel), List.mem_of_getElem? (i := 755) (by decide +kernel), List.mem_of_getElem? (i := 756) (by decide +kernel)⟩
theorem lw_p29 : lw_okq (⟨"WhiteRiversModel", "columnIn", "(II)Z"⟩, 19) := ⟨⟨by decide +kernel, by decide +kernel⟩, List.mem_of_getElem? (i := 559) (by decide +kernel), List.mem_of_getElem? (i := 767) (by decide +kernel), List.mem_of_getElem? (i := 768) (by decide +kernel)⟩
theorem lw_p30 : lw_okq (⟨"WhiteRiversModel", "plans", "(I)Z"⟩, 19) := ⟨⟨by decide +kernel, by decide +kernel⟩, List.mem_of_getElem? (i := 559) (by decide +kernel), List.mem_of_getElem? (i := 778) (by decide +kernel), List.mem_of_getElem? (i := 779) (by decide +kernel)⟩
theorem lw_p31 : lw_okq (⟨"WhiteRiversModel", "takes", "(I)V"⟩, 19) := ⟨⟨by decide +kernel, by decide +kernel⟩, List.mem_of_getElem? (i := 559) (by decide +kernel), List.mem_of_getElem? (i := 782) (by decide +kernel), List.mem_of_getElem? (i := 783) (by decide +kernel)⟩
def lw_privs_2 : List (MethodName × Nat) := [(⟨"WhiteRiversModel", "isLine", "(I)Z"⟩, 19), (⟨"WhiteRiversModel", "behind", "(I)I"⟩, 19), (⟨"WhiteRiversModel", "badness", "()I"⟩, 19), (⟨"WhiteRiversModel", "badOf", "(I)I"⟩, 19), (⟨"WhiteRiversModel", "extraOf", "(I)I"⟩, 19), (⟨"WhiteRiversModel", "laysAll", "()I"⟩, 19), (⟨"WhiteRiversModel", "lays", "(III)I"⟩, 19), (⟨"WhiteRiversModel", "meets", "(II)Z"⟩, 19), (⟨"WhiteRiversModel", "gapsWith", "(I)I"⟩, 19), (⟨"WhiteRiversModel", "above", "(II)I"⟩, 19), (⟨"WhiteRiversModel", "meetsOf", "(II)I"⟩, 19), (⟨"WhiteRiversModel", "lineOf", "(I)I"⟩, 19), (⟨"WhiteRiversModel", "below", "(II)I"⟩, 19), (⟨"WhiteRiversModel", "columnIn", "(II)Z"⟩, 19), (⟨"WhiteRiversModel", "plans", "(I)Z"⟩, 19), (⟨"WhiteRiversModel", "takes", "(I)V"⟩, 19)]
theorem lw_r2 : ∀ q ∈ lw_privs_2, lw_okq q := List.forall_mem_cons.mpr ⟨lw_p16, List.forall_mem_cons.mpr ⟨lw_p17, List.forall_mem_cons.mpr ⟨lw_p18, List.forall_mem_cons.mpr ⟨lw_p19, List.forall_mem_cons.mpr ⟨lw_p20, List.forall_mem_cons.mpr ⟨lw_p21, List.forall_mem_cons.mpr ⟨lw_p22, List.forall_mem_cons.mpr ⟨lw_p23, List.forall_mem_cons.mpr ⟨lw_p24, List.forall_mem_cons.mpr ⟨lw_p25, List.forall_mem_cons.mpr ⟨lw_p26, List.forall_mem_cons.mpr ⟨lw_p27, List.forall_mem_cons.mpr ⟨lw_p28, List.forall_mem_cons.mpr ⟨lw_p29, List.forall_mem_cons.mpr ⟨lw_p30, List.forall_mem_cons.mpr ⟨lw_p31, fun _ h => absurd h List.not_mem_nil⟩⟩⟩⟩⟩⟩⟩⟩⟩⟩⟩⟩⟩⟩⟩⟩
theorem lw_p32 : lw_okq (⟨"WhiteRiversModel", "may", "(II)Z"⟩, 19) := ⟨⟨by decide +kernel, by decide +kernel⟩, List.mem_of_getElem? (i := 559) (by decide +kernel), List.mem_of_getElem? (i := 786) (by decide +kernel), List.mem_of_getElem? (i := 787) (by decide +kernel)⟩
theorem lw_p33 : lw_okq (⟨"WhiteRiversModel", "nowLine", "(II)I"⟩, 19) := ⟨⟨by decide +kernel, by decide +kernel⟩, List.mem_of_getElem? (i := 559) (by decide +kernel), List.mem_of_getElem? (i := 790) (by decide +kernel), List.mem_of_getElem? (i := 791) (by decide +kernel)⟩
def lw_privs_3 : List (MethodName × Nat) := [(⟨"WhiteRiversModel", "may", "(II)Z"⟩, 19), (⟨"WhiteRiversModel", "nowLine", "(II)I"⟩, 19)]
theorem lw_r3 : ∀ q ∈ lw_privs_3, lw_okq q := List.forall_mem_cons.mpr ⟨lw_p32, List.forall_mem_cons.mpr ⟨lw_p33, fun _ h => absurd h List.not_mem_nil⟩⟩
def lw_privs : List (MethodName × Nat) := lw_privs_1 ++ (lw_privs_2 ++ (lw_privs_3))
def lw_tbl : List Cond := k2_sels lw_privs ++ tables_1
theorem lw_privs_ok : ∀ q ∈ lw_privs, lw_okq q := by
  show ∀ q ∈ lw_privs_1 ++ (lw_privs_2 ++ (lw_privs_3)), lw_okq q
  exact List.forall_mem_append.mpr ⟨lw_r1, List.forall_mem_append.mpr ⟨lw_r2, lw_r3⟩⟩
-- ===== end of PART A; then your names; then what follows =====
end
section
/-! ===== BEGIN words of one list among another's, by their places ===== -/
theorem goodIn_r {big : List Cond} (ws : List Cond) (ps : List Nat) (hp : ws = ps.filterMap (fun i => big[i]?)) (h : ws.all goodWord = true) : GoodIn big ws := by
  intro w hw
  have h1 := List.all_eq_true.mp h w hw
  rw [hp] at hw
  obtain ⟨i, -, hi⟩ := List.mem_filterMap.mp hw
  have hm : w ∈ big := by first | exact List.mem_of_getElem? hi | exact List.getElem?_mem hi
  exact ⟨hm, good_of_word h1⟩
theorem goodIn_app {big a b : List Cond} (ha : GoodIn big a) (hb : GoodIn big b) : GoodIn big (a ++ b) := fun w h => (List.mem_append.mp h).elim (ha w) (hb w)
theorem goodIn_ca {big a b : List Cond} {c : Cond} (ha : GoodIn big (c :: a)) (hb : GoodIn big b) : GoodIn big (c :: (a ++ b)) := fun w h => (List.mem_cons.mp h).elim (fun e => ha w (List.mem_cons.mpr (Or.inl e))) (fun h => (List.mem_append.mp h).elim (fun h => ha w (List.mem_cons.mpr (Or.inr h))) (hb w))
theorem goodIn_sub {big ws : List Cond} (hm : ∀ w ∈ ws, w ∈ big) (h : ws.all goodWord = true) : GoodIn big ws := fun w hw => ⟨hm w hw, good_of_word (List.all_eq_true.mp h w hw)⟩
/-! ===== END ===== -/

/-! ===== BEGIN printed: names, fields, word lists, decode rows ===== -/
def RX0 : String := "WhiteRivers$History"
def TX0 : u_T := fun k => match k with
  | 0 => ("WhiteRivers$History", "states", "I", false)
  | _ => ("WhiteRivers$History", "pages", "[LWhiteRivers$Page;", true)
def tyX0 : Nat → FieldType := fun k => match k with
  | 0 => .int
  | _ => .array (.object "WhiteRivers$Page")
abbrev wsX00 : List Cond := u_ws RX0 TX0 2
theorem nmX0 : ∀ a, a < 2 → ∀ b, b < 2 → a ≠ b → (TX0 a).2.1 ≠ (TX0 b).2.1 := by decide +kernel
theorem tyX0_ok : ∀ k, k < 2 → parseFieldDescriptor (TX0 k).2.2.1 = some (tyX0 k) := by decide +kernel
abbrev cX0_init : ByteArray := prog_2_method_1_code
def yX0_init : MethodName := ⟨RX0, "<init>", "()V"⟩
abbrev cX0_keep : ByteArray := prog_2_method_2_code
def yX0_keep : MethodName := ⟨RX0, "keep", "(LWhiteRivers$Page;)V"⟩
abbrev cX0_restoreLatest : ByteArray := prog_2_method_3_code
def yX0_restoreLatest : MethodName := ⟨RX0, "restoreLatest", "(LWhiteRivers$Page;)V"⟩
abbrev cX0_dropOldest : ByteArray := prog_2_method_4_code
def yX0_dropOldest : MethodName := ⟨RX0, "dropOldest", "()V"⟩
abbrev cX0_pageAt : ByteArray := prog_2_method_5_code
def yX0_pageAt : MethodName := ⟨RX0, "pageAt", "(I)LWhiteRivers$Page;"⟩
def RX1 : String := "WhiteRivers$Page"
def TX1 : u_T := fun k => match k with
  | 0 => ("WhiteRivers$Page", "width", "I", false)
  | 1 => ("WhiteRivers$Page", "slack", "I", false)
  | 2 => ("WhiteRivers$Page", "words", "I", false)
  | 3 => ("WhiteRivers$Page", "lengths", "LWhiteRivers$Row;", true)
  | 4 => ("WhiteRivers$Page", "begins", "LWhiteRivers$Row;", true)
  | _ => ("WhiteRivers$Page", "frozen", "LWhiteRivers$Row;", true)
def tyX1 : Nat → FieldType := fun k => match k with
  | 0 => .int
  | 1 => .int
  | 2 => .int
  | 3 => .object "WhiteRivers$Row"
  | 4 => .object "WhiteRivers$Row"
  | _ => .object "WhiteRivers$Row"
abbrev wsX10 : List Cond := u_ws RX1 TX1 6
theorem nmX1 : ∀ a, a < 6 → ∀ b, b < 6 → a ≠ b → (TX1 a).2.1 ≠ (TX1 b).2.1 := by decide +kernel
theorem tyX1_ok : ∀ k, k < 6 → parseFieldDescriptor (TX1 k).2.2.1 = some (tyX1 k) := by decide +kernel
abbrev cX1_init : ByteArray := prog_3_method_1_code
def yX1_init : MethodName := ⟨RX1, "<init>", "()V"⟩
abbrev cX1_copyFrom : ByteArray := prog_3_method_2_code
def yX1_copyFrom : MethodName := ⟨RX1, "copyFrom", "(LWhiteRivers$Page;)V"⟩
abbrev cX1_removeAll : ByteArray := prog_3_method_3_code
def yX1_removeAll : MethodName := ⟨RX1, "removeAll", "()V"⟩
abbrev cX1_append : ByteArray := prog_3_method_4_code
def yX1_append : MethodName := ⟨RX1, "append", "(I)V"⟩
abbrev cX1_dropLast : ByteArray := prog_3_method_5_code
def yX1_dropLast : MethodName := ⟨RX1, "dropLast", "()V"⟩
abbrev cX1_begin : ByteArray := prog_3_method_6_code
def yX1_begin : MethodName := ⟨RX1, "begin", "(I)V"⟩
abbrev cX1_join : ByteArray := prog_3_method_7_code
def yX1_join : MethodName := ⟨RX1, "join", "(I)V"⟩
abbrev cX1_joinAll : ByteArray := prog_3_method_8_code
def yX1_joinAll : MethodName := ⟨RX1, "joinAll", "()V"⟩
abbrev cX1_setFrozen : ByteArray := prog_3_method_9_code
def yX1_setFrozen : MethodName := ⟨RX1, "setFrozen", "(II)V"⟩
abbrev cX1_isFrozen : ByteArray := prog_3_method_10_code
def yX1_isFrozen : MethodName := ⟨RX1, "isFrozen", "(I)Z"⟩
abbrev cX1_lengthOf : ByteArray := prog_3_method_11_code
def yX1_lengthOf : MethodName := ⟨RX1, "lengthOf", "(I)I"⟩
abbrev cX1_lines : ByteArray := prog_3_method_12_code
def yX1_lines : MethodName := ⟨RX1, "lines", "()I"⟩
abbrev cX1_frozenLines : ByteArray := prog_3_method_13_code
def yX1_frozenLines : MethodName := ⟨RX1, "frozenLines", "()I"⟩
abbrev cX1_hasLine : ByteArray := prog_3_method_14_code
def yX1_hasLine : MethodName := ⟨RX1, "hasLine", "(I)Z"⟩
abbrev cX1_firstOf : ByteArray := prog_3_method_15_code
def yX1_firstOf : MethodName := ⟨RX1, "firstOf", "(I)I"⟩
abbrev cX1_endOf : ByteArray := prog_3_method_16_code
def yX1_endOf : MethodName := ⟨RX1, "endOf", "(I)I"⟩
abbrev cX1_lineOf : ByteArray := prog_3_method_17_code
def yX1_lineOf : MethodName := ⟨RX1, "lineOf", "(I)I"⟩
abbrev cX1_isLine : ByteArray := prog_3_method_18_code
def yX1_isLine : MethodName := ⟨RX1, "isLine", "(II)Z"⟩
abbrev cX1_hasFrozen : ByteArray := prog_3_method_19_code
def yX1_hasFrozen : MethodName := ⟨RX1, "hasFrozen", "(II)Z"⟩
abbrev cX1_extra : ByteArray := prog_3_method_20_code
def yX1_extra : MethodName := ⟨RX1, "extra", "(II)I"⟩
abbrev cX1_fits : ByteArray := prog_3_method_21_code
def yX1_fits : MethodName := ⟨RX1, "fits", "(II)Z"⟩
abbrev cX1_badness : ByteArray := prog_3_method_22_code
def yX1_badness : MethodName := ⟨RX1, "badness", "(II)I"⟩
abbrev cX1_badnessOfAll : ByteArray := prog_3_method_23_code
def yX1_badnessOfAll : MethodName := ⟨RX1, "badnessOfAll", "()I"⟩
abbrev cX1_fill : ByteArray := prog_3_method_24_code
def yX1_fill : MethodName := ⟨RX1, "fill", "()V"⟩
def RX2 : String := "WhiteRivers$Row"
def TX2 : u_T := fun k => match k with
  | _ => ("WhiteRivers$Row", "cells", "[I", true)
def tyX2 : Nat → FieldType := fun k => match k with
  | _ => .array .int
abbrev wsX20 : List Cond := u_ws RX2 TX2 1
theorem nmX2 : ∀ a, a < 1 → ∀ b, b < 1 → a ≠ b → (TX2 a).2.1 ≠ (TX2 b).2.1 := by decide +kernel
theorem tyX2_ok : ∀ k, k < 1 → parseFieldDescriptor (TX2 k).2.2.1 = some (tyX2 k) := by decide +kernel
abbrev cX2_init : ByteArray := prog_4_method_1_code
def yX2_init : MethodName := ⟨RX2, "<init>", "(I)V"⟩
abbrev cX2_get : ByteArray := prog_4_method_2_code
def yX2_get : MethodName := ⟨RX2, "get", "(I)I"⟩
abbrev cX2_set : ByteArray := prog_4_method_3_code
def yX2_set : MethodName := ⟨RX2, "set", "(II)V"⟩
abbrev cX2_clear : ByteArray := prog_4_method_4_code
def yX2_clear : MethodName := ⟨RX2, "clear", "()V"⟩
abbrev cX2_copyFrom : ByteArray := prog_4_method_5_code
def yX2_copyFrom : MethodName := ⟨RX2, "copyFrom", "(LWhiteRivers$Row;)V"⟩
def RX3 : String := "WhiteRivers$Search"
def TX3 : u_T := fun k => match k with
  | 0 => ("WhiteRivers$Search", "bestLines", "I", false)
  | 1 => ("WhiteRivers$Search", "bestRiver", "I", false)
  | 2 => ("WhiteRivers$Search", "bestPrice", "I", false)
  | 3 => ("WhiteRivers$Search", "limit", "I", false)
  | 4 => ("WhiteRivers$Search", "page", "LWhiteRivers$Page;", true)
  | 5 => ("WhiteRivers$Search", "sheet", "LWhiteRivers$Sheet;", true)
  | 6 => ("WhiteRivers$Search", "prices", "LWhiteRivers$Row;", true)
  | 7 => ("WhiteRivers$Search", "leastPrices", "LWhiteRivers$Row;", true)
  | 8 => ("WhiteRivers$Search", "tried", "LWhiteRivers$Row;", true)
  | _ => ("WhiteRivers$Search", "best", "LWhiteRivers$Row;", true)
def tyX3 : Nat → FieldType := fun k => match k with
  | 0 => .int
  | 1 => .int
  | 2 => .int
  | 3 => .int
  | 4 => .object "WhiteRivers$Page"
  | 5 => .object "WhiteRivers$Sheet"
  | 6 => .object "WhiteRivers$Row"
  | 7 => .object "WhiteRivers$Row"
  | 8 => .object "WhiteRivers$Row"
  | _ => .object "WhiteRivers$Row"
abbrev wsX30 : List Cond := u_ws RX3 TX3 10
theorem nmX3 : ∀ a, a < 10 → ∀ b, b < 10 → a ≠ b → (TX3 a).2.1 ≠ (TX3 b).2.1 := by decide +kernel
theorem tyX3_ok : ∀ k, k < 10 → parseFieldDescriptor (TX3 k).2.2.1 = some (tyX3 k) := by decide +kernel
abbrev cX3_init : ByteArray := prog_5_method_1_code
def yX3_init : MethodName := ⟨RX3, "<init>", "()V"⟩
abbrev cX3_forget : ByteArray := prog_5_method_2_code
def yX3_forget : MethodName := ⟨RX3, "forget", "()V"⟩
abbrev cX3_solve : ByteArray := prog_5_method_3_code
def yX3_solve : MethodName := ⟨RX3, "solve", "(LWhiteRivers$Page;I)V"⟩
abbrev cX3_hasFound : ByteArray := prog_5_method_4_code
def yX3_hasFound : MethodName := ⟨RX3, "hasFound", "()Z"⟩
abbrev cX3_bestChanged : ByteArray := prog_5_method_5_code
def yX3_bestChanged : MethodName := ⟨RX3, "bestChanged", "()I"⟩
abbrev cX3_bestBadness : ByteArray := prog_5_method_6_code
def yX3_bestBadness : MethodName := ⟨RX3, "bestBadness", "()I"⟩
abbrev cX3_bestWords : ByteArray := prog_5_method_7_code
def yX3_bestWords : MethodName := ⟨RX3, "bestWords", "(I)I"⟩
abbrev cX3_divide : ByteArray := prog_5_method_8_code
def yX3_divide : MethodName := ⟨RX3, "divide", "(LWhiteRivers$Page;)V"⟩
abbrev cX3_setPrices : ByteArray := prog_5_method_9_code
def yX3_setPrices : MethodName := ⟨RX3, "setPrices", "()V"⟩
abbrev cX3_priceOf : ByteArray := prog_5_method_10_code
def yX3_priceOf : MethodName := ⟨RX3, "priceOf", "(II)I"⟩
abbrev cX3_cellOf : ByteArray := prog_5_method_11_code
def yX3_cellOf : MethodName := ⟨RX3, "cellOf", "(II)I"⟩
abbrev cX3_keepTried : ByteArray := prog_5_method_12_code
def yX3_keepTried : MethodName := ⟨RX3, "keepTried", "(III)V"⟩
abbrev cX3_tryLines : ByteArray := prog_5_method_13_code
def yX3_tryLines : MethodName := ⟨RX3, "tryLines", "(LWhiteRivers$Search;IIIII)V"⟩
def RX4 : String := "WhiteRivers$Sheet"
def TX4 : u_T := fun k => match k with
  | 0 => ("WhiteRivers$Sheet", "columns", "LWhiteRivers$Row;", true)
  | 1 => ("WhiteRivers$Sheet", "gapColumns", "LWhiteRivers$Row;", true)
  | 2 => ("WhiteRivers$Sheet", "gapWidths", "LWhiteRivers$Row;", true)
  | _ => ("WhiteRivers$Sheet", "reaches", "LWhiteRivers$Row;", true)
def tyX4 : Nat → FieldType := fun k => match k with
  | 0 => .object "WhiteRivers$Row"
  | 1 => .object "WhiteRivers$Row"
  | 2 => .object "WhiteRivers$Row"
  | _ => .object "WhiteRivers$Row"
abbrev wsX40 : List Cond := u_ws RX4 TX4 4
theorem nmX4 : ∀ a, a < 4 → ∀ b, b < 4 → a ≠ b → (TX4 a).2.1 ≠ (TX4 b).2.1 := by decide +kernel
theorem tyX4_ok : ∀ k, k < 4 → parseFieldDescriptor (TX4 k).2.2.1 = some (tyX4 k) := by decide +kernel
abbrev cX4_init : ByteArray := prog_6_method_1_code
def yX4_init : MethodName := ⟨RX4, "<init>", "()V"⟩
abbrev cX4_columnOf : ByteArray := prog_6_method_2_code
def yX4_columnOf : MethodName := ⟨RX4, "columnOf", "(I)I"⟩
abbrev cX4_gapColumn : ByteArray := prog_6_method_3_code
def yX4_gapColumn : MethodName := ⟨RX4, "gapColumn", "(I)I"⟩
abbrev cX4_gapWidth : ByteArray := prog_6_method_4_code
def yX4_gapWidth : MethodName := ⟨RX4, "gapWidth", "(I)I"⟩
abbrev cX4_reachOf : ByteArray := prog_6_method_5_code
def yX4_reachOf : MethodName := ⟨RX4, "reachOf", "(I)I"⟩
abbrev cX4_layAll : ByteArray := prog_6_method_6_code
def yX4_layAll : MethodName := ⟨RX4, "layAll", "(LWhiteRivers$Page;)V"⟩
abbrev cX4_layLine : ByteArray := prog_6_method_7_code
def yX4_layLine : MethodName := ⟨RX4, "layLine", "(LWhiteRivers$Page;III)I"⟩
abbrev cX4_placeWords : ByteArray := prog_6_method_8_code
def yX4_placeWords : MethodName := ⟨RX4, "placeWords", "(LWhiteRivers$Page;II)V"⟩
abbrev cX4_reachAbove : ByteArray := prog_6_method_9_code
def yX4_reachAbove : MethodName := ⟨RX4, "reachAbove", "(III)I"⟩
abbrev cX4_meet : ByteArray := prog_6_method_10_code
def yX4_meet : MethodName := ⟨RX4, "meet", "(II)Z"⟩
abbrev cX4_gapsThatMeet : ByteArray := prog_6_method_11_code
def yX4_gapsThatMeet : MethodName := ⟨RX4, "gapsThatMeet", "(III)I"⟩
abbrev cX4_greatestReach : ByteArray := prog_6_method_12_code
def yX4_greatestReach : MethodName := ⟨RX4, "greatestReach", "(II)I"⟩
abbrev cX4_gapsOfGreatestReach : ByteArray := prog_6_method_13_code
def yX4_gapsOfGreatestReach : MethodName := ⟨RX4, "gapsOfGreatestReach", "(I)I"⟩
abbrev cX4_firstOfReach : ByteArray := prog_6_method_14_code
def yX4_firstOfReach : MethodName := ⟨RX4, "firstOfReach", "(III)I"⟩
abbrev cX4_joints : ByteArray := prog_6_method_15_code
def yX4_joints : MethodName := ⟨RX4, "joints", "(LWhiteRivers$Page;)I"⟩
def RX5 : String := "WhiteRivers$Text"
def TX5 : u_T := fun k => match k with
  | 0 => ("WhiteRivers$Text", "length", "I", false)
  | _ => ("WhiteRivers$Text", "characters", "LWhiteRivers$Row;", true)
def tyX5 : Nat → FieldType := fun k => match k with
  | 0 => .int
  | _ => .object "WhiteRivers$Row"
abbrev wsX50 : List Cond := u_ws RX5 TX5 2
theorem nmX5 : ∀ a, a < 2 → ∀ b, b < 2 → a ≠ b → (TX5 a).2.1 ≠ (TX5 b).2.1 := by decide +kernel
theorem tyX5_ok : ∀ k, k < 2 → parseFieldDescriptor (TX5 k).2.2.1 = some (tyX5 k) := by decide +kernel
abbrev cX5_init : ByteArray := prog_7_method_1_code
def yX5_init : MethodName := ⟨RX5, "<init>", "()V"⟩
abbrev cX5_append : ByteArray := prog_7_method_2_code
def yX5_append : MethodName := ⟨RX5, "append", "(I)V"⟩
abbrev cX5_firstFault : ByteArray := prog_7_method_3_code
def yX5_firstFault : MethodName := ⟨RX5, "firstFault", "()I"⟩
abbrev cX5_giveWords : ByteArray := prog_7_method_4_code
def yX5_giveWords : MethodName := ⟨RX5, "giveWords", "(LWhiteRivers$Page;)V"⟩
def RX6 : String := "WhiteRivers"
def TX6 : u_T := fun k => match k with
  | 0 => ("WhiteRivers", "page", "LWhiteRivers$Page;", true)
  | 1 => ("WhiteRivers", "history", "LWhiteRivers$History;", true)
  | 2 => ("WhiteRivers", "sheet", "LWhiteRivers$Sheet;", true)
  | 3 => ("WhiteRivers", "search", "LWhiteRivers$Search;", true)
  | _ => ("WhiteRivers", "text", "LWhiteRivers$Text;", true)
def tyX6 : Nat → FieldType := fun k => match k with
  | 0 => .object "WhiteRivers$Page"
  | 1 => .object "WhiteRivers$History"
  | 2 => .object "WhiteRivers$Sheet"
  | 3 => .object "WhiteRivers$Search"
  | _ => .object "WhiteRivers$Text"
abbrev wsX60 : List Cond := u_ws RX6 TX6 5
theorem nmX6 : ∀ a, a < 5 → ∀ b, b < 5 → a ≠ b → (TX6 a).2.1 ≠ (TX6 b).2.1 := by decide +kernel
theorem tyX6_ok : ∀ k, k < 5 → parseFieldDescriptor (TX6 k).2.2.1 = some (tyX6 k) := by decide +kernel
abbrev cX6_init : ByteArray := prog_1_method_1_code
def yX6_init : MethodName := ⟨RX6, "<init>", "()V"⟩
abbrev cX6_setWidth : ByteArray := prog_1_method_2_code
def yX6_setWidth : MethodName := ⟨RX6, "setWidth", "(I)I"⟩
abbrev cX6_setSlack : ByteArray := prog_1_method_3_code
def yX6_setSlack : MethodName := ⟨RX6, "setSlack", "(I)I"⟩
abbrev cX6_add : ByteArray := prog_1_method_4_code
def yX6_add : MethodName := ⟨RX6, "add", "(I)I"⟩
abbrev cX6_remove : ByteArray := prog_1_method_5_code
def yX6_remove : MethodName := ⟨RX6, "remove", "()I"⟩
abbrev cX6_pull : ByteArray := prog_1_method_6_code
def yX6_pull : MethodName := ⟨RX6, "pull", "(I)I"⟩
abbrev cX6_push : ByteArray := prog_1_method_7_code
def yX6_push : MethodName := ⟨RX6, "push", "(I)I"⟩
abbrev cX6_freeze : ByteArray := prog_1_method_8_code
def yX6_freeze : MethodName := ⟨RX6, "freeze", "(II)I"⟩
abbrev cX6_reflow : ByteArray := prog_1_method_9_code
def yX6_reflow : MethodName := ⟨RX6, "reflow", "()I"⟩
abbrev cX6_count : ByteArray := prog_1_method_10_code
def yX6_count : MethodName := ⟨RX6, "count", "(I)I"⟩
abbrev cX6_word : ByteArray := prog_1_method_11_code
def yX6_word : MethodName := ⟨RX6, "word", "(II)I"⟩
abbrev cX6_line : ByteArray := prog_1_method_12_code
def yX6_line : MethodName := ⟨RX6, "line", "(II)I"⟩
abbrev cX6_undo : ByteArray := prog_1_method_13_code
def yX6_undo : MethodName := ⟨RX6, "undo", "()I"⟩
abbrev cX6_gap : ByteArray := prog_1_method_14_code
def yX6_gap : MethodName := ⟨RX6, "gap", "(III)I"⟩
abbrev cX6_river : ByteArray := prog_1_method_15_code
def yX6_river : MethodName := ⟨RX6, "river", "(II)I"⟩
abbrev cX6_at : ByteArray := prog_1_method_16_code
def yX6_at : MethodName := ⟨RX6, "at", "(II)I"⟩
abbrev cX6_plan : ByteArray := prog_1_method_17_code
def yX6_plan : MethodName := ⟨RX6, "plan", "(II)I"⟩
abbrev cX6_planned : ByteArray := prog_1_method_18_code
def yX6_planned : MethodName := ⟨RX6, "planned", "(II)I"⟩
abbrev cX6_dam : ByteArray := prog_1_method_19_code
def yX6_dam : MethodName := ⟨RX6, "dam", "(I)I"⟩
abbrev cX6_leastRiver : ByteArray := prog_1_method_20_code
def yX6_leastRiver : MethodName := ⟨RX6, "leastRiver", "()I"⟩
abbrev cX6_type : ByteArray := prog_1_method_21_code
def yX6_type : MethodName := ⟨RX6, "type", "(I)I"⟩
abbrev cX6_clearText : ByteArray := prog_1_method_22_code
def yX6_clearText : MethodName := ⟨RX6, "clearText", "()I"⟩
abbrev cX6_fault : ByteArray := prog_1_method_23_code
def yX6_fault : MethodName := ⟨RX6, "fault", "()I"⟩
abbrev cX6_read : ByteArray := prog_1_method_24_code
def yX6_read : MethodName := ⟨RX6, "read", "()I"⟩
abbrev cX6_beginChange : ByteArray := prog_1_method_25_code
def yX6_beginChange : MethodName := ⟨RX6, "beginChange", "()V"⟩
abbrev cX6_gapAbove : ByteArray := prog_1_method_26_code
def yX6_gapAbove : MethodName := ⟨RX6, "gapAbove", "(I)I"⟩
abbrev cX6_isWithin : ByteArray := prog_1_method_27_code
def yX6_isWithin : MethodName := ⟨RX6, "isWithin", "(III)Z"⟩
def RX7 : String := "WhiteRiversModel"
def TX7 : u_T := fun k => match k with
  | 0 => ("WhiteRiversModel", "d", "[I", true)
  | 1 => ("WhiteRiversModel", "was", "[I", true)
  | 2 => ("WhiteRiversModel", "states", "I", false)
  | 3 => ("WhiteRiversModel", "text", "[C", true)
  | 4 => ("WhiteRiversModel", "typed", "I", false)
  | 5 => ("WhiteRiversModel", "column", "[I", true)
  | 6 => ("WhiteRiversModel", "gapAt", "[I", true)
  | 7 => ("WhiteRiversModel", "wide", "[I", true)
  | 8 => ("WhiteRiversModel", "reach", "[I", true)
  | 9 => ("WhiteRiversModel", "at", "[I", true)
  | 10 => ("WhiteRiversModel", "next", "[I", true)
  | 11 => ("WhiteRiversModel", "changed", "[I", true)
  | 12 => ("WhiteRiversModel", "bad", "[I", true)
  | 13 => ("WhiteRiversModel", "longest", "[I", true)
  | 14 => ("WhiteRiversModel", "best", "[I", true)
  | 15 => ("WhiteRiversModel", "bestLines", "I", false)
  | 16 => ("WhiteRiversModel", "bestChanged", "I", false)
  | 17 => ("WhiteRiversModel", "bestBad", "I", false)
  | _ => ("WhiteRiversModel", "bestRiver", "I", false)
def tyX7 : Nat → FieldType := fun k => match k with
  | 0 => .array .int
  | 1 => .array .int
  | 2 => .int
  | 3 => .array .char
  | 4 => .int
  | 5 => .array .int
  | 6 => .array .int
  | 7 => .array .int
  | 8 => .array .int
  | 9 => .array .int
  | 10 => .array .int
  | 11 => .array .int
  | 12 => .array .int
  | 13 => .array .int
  | 14 => .array .int
  | 15 => .int
  | 16 => .int
  | 17 => .int
  | _ => .int
abbrev wsX70 : List Cond := u_ws RX7 TX7 19
theorem nmX7 : ∀ a, a < 19 → ∀ b, b < 19 → a ≠ b → (TX7 a).2.1 ≠ (TX7 b).2.1 := by decide +kernel
theorem tyX7_ok : ∀ k, k < 19 → parseFieldDescriptor (TX7 k).2.2.1 = some (tyX7 k) := by decide +kernel
abbrev cX7_init : ByteArray := prog_9_method_1_code
def yX7_init : MethodName := ⟨RX7, "<init>", "()V"⟩
abbrev cX7_in : ByteArray := prog_9_method_2_code
def yX7_in : MethodName := ⟨RX7, "in", "(III)Z"⟩
abbrev cX7_isLine : ByteArray := prog_9_method_3_code
def yX7_isLine : MethodName := ⟨RX7, "isLine", "(I)Z"⟩
abbrev cX7_records : ByteArray := prog_9_method_4_code
def yX7_records : MethodName := ⟨RX7, "records", "()V"⟩
abbrev cX7_first : ByteArray := prog_9_method_5_code
def yX7_first : MethodName := ⟨RX7, "first", "(I)I"⟩
abbrev cX7_behind : ByteArray := prog_9_method_6_code
def yX7_behind : MethodName := ⟨RX7, "behind", "(I)I"⟩
abbrev cX7_needs : ByteArray := prog_9_method_7_code
def yX7_needs : MethodName := ⟨RX7, "needs", "(II)I"⟩
abbrev cX7_fits : ByteArray := prog_9_method_8_code
def yX7_fits : MethodName := ⟨RX7, "fits", "(II)Z"⟩
abbrev cX7_mostFrom : ByteArray := prog_9_method_9_code
def yX7_mostFrom : MethodName := ⟨RX7, "mostFrom", "(I)I"⟩
abbrev cX7_fills : ByteArray := prog_9_method_10_code
def yX7_fills : MethodName := ⟨RX7, "fills", "()V"⟩
abbrev cX7_frozen : ByteArray := prog_9_method_11_code
def yX7_frozen : MethodName := ⟨RX7, "frozen", "()I"⟩
abbrev cX7_meets : ByteArray := prog_9_method_12_code
def yX7_meets : MethodName := ⟨RX7, "meets", "(II)Z"⟩
abbrev cX7_lays : ByteArray := prog_9_method_13_code
def yX7_lays : MethodName := ⟨RX7, "lays", "(III)I"⟩
abbrev cX7_laysAll : ByteArray := prog_9_method_14_code
def yX7_laysAll : MethodName := ⟨RX7, "laysAll", "()I"⟩
abbrev cX7_lineOf : ByteArray := prog_9_method_15_code
def yX7_lineOf : MethodName := ⟨RX7, "lineOf", "(I)I"⟩
abbrev cX7_meetsOf : ByteArray := prog_9_method_16_code
def yX7_meetsOf : MethodName := ⟨RX7, "meetsOf", "(II)I"⟩
abbrev cX7_above : ByteArray := prog_9_method_17_code
def yX7_above : MethodName := ⟨RX7, "above", "(II)I"⟩
abbrev cX7_below : ByteArray := prog_9_method_18_code
def yX7_below : MethodName := ⟨RX7, "below", "(II)I"⟩
abbrev cX7_setWidth : ByteArray := prog_9_method_19_code
def yX7_setWidth : MethodName := ⟨RX7, "setWidth", "(I)I"⟩
abbrev cX7_setSlack : ByteArray := prog_9_method_20_code
def yX7_setSlack : MethodName := ⟨RX7, "setSlack", "(I)I"⟩
abbrev cX7_add : ByteArray := prog_9_method_21_code
def yX7_add : MethodName := ⟨RX7, "add", "(I)I"⟩
abbrev cX7_remove : ByteArray := prog_9_method_22_code
def yX7_remove : MethodName := ⟨RX7, "remove", "()I"⟩
abbrev cX7_pull : ByteArray := prog_9_method_23_code
def yX7_pull : MethodName := ⟨RX7, "pull", "(I)I"⟩
abbrev cX7_push : ByteArray := prog_9_method_24_code
def yX7_push : MethodName := ⟨RX7, "push", "(I)I"⟩
abbrev cX7_freeze : ByteArray := prog_9_method_25_code
def yX7_freeze : MethodName := ⟨RX7, "freeze", "(II)I"⟩
abbrev cX7_reflow : ByteArray := prog_9_method_26_code
def yX7_reflow : MethodName := ⟨RX7, "reflow", "()I"⟩
abbrev cX7_extraOf : ByteArray := prog_9_method_27_code
def yX7_extraOf : MethodName := ⟨RX7, "extraOf", "(I)I"⟩
abbrev cX7_badOf : ByteArray := prog_9_method_28_code
def yX7_badOf : MethodName := ⟨RX7, "badOf", "(I)I"⟩
abbrev cX7_badness : ByteArray := prog_9_method_29_code
def yX7_badness : MethodName := ⟨RX7, "badness", "()I"⟩
abbrev cX7_gapsWith : ByteArray := prog_9_method_30_code
def yX7_gapsWith : MethodName := ⟨RX7, "gapsWith", "(I)I"⟩
abbrev cX7_count : ByteArray := prog_9_method_31_code
def yX7_count : MethodName := ⟨RX7, "count", "(I)I"⟩
abbrev cX7_word : ByteArray := prog_9_method_32_code
def yX7_word : MethodName := ⟨RX7, "word", "(II)I"⟩
abbrev cX7_line : ByteArray := prog_9_method_33_code
def yX7_line : MethodName := ⟨RX7, "line", "(II)I"⟩
abbrev cX7_undo : ByteArray := prog_9_method_34_code
def yX7_undo : MethodName := ⟨RX7, "undo", "()I"⟩
abbrev cX7_gap : ByteArray := prog_9_method_35_code
def yX7_gap : MethodName := ⟨RX7, "gap", "(III)I"⟩
abbrev cX7_river : ByteArray := prog_9_method_36_code
def yX7_river : MethodName := ⟨RX7, "river", "(II)I"⟩
abbrev cX7_at : ByteArray := prog_9_method_37_code
def yX7_at : MethodName := ⟨RX7, "at", "(II)I"⟩
abbrev cX7_columnIn : ByteArray := prog_9_method_38_code
def yX7_columnIn : MethodName := ⟨RX7, "columnIn", "(II)Z"⟩
abbrev cX7_nowLine : ByteArray := prog_9_method_39_code
def yX7_nowLine : MethodName := ⟨RX7, "nowLine", "(II)I"⟩
abbrev cX7_may : ByteArray := prog_9_method_40_code
def yX7_may : MethodName := ⟨RX7, "may", "(II)Z"⟩
abbrev cX7_takes : ByteArray := prog_9_method_41_code
def yX7_takes : MethodName := ⟨RX7, "takes", "(I)V"⟩
abbrev cX7_plans : ByteArray := prog_9_method_42_code
def yX7_plans : MethodName := ⟨RX7, "plans", "(I)Z"⟩
abbrev cX7_isLength : ByteArray := prog_9_method_43_code
def yX7_isLength : MethodName := ⟨RX7, "isLength", "(I)Z"⟩
abbrev cX7_plan : ByteArray := prog_9_method_44_code
def yX7_plan : MethodName := ⟨RX7, "plan", "(II)I"⟩
abbrev cX7_planned : ByteArray := prog_9_method_45_code
def yX7_planned : MethodName := ⟨RX7, "planned", "(II)I"⟩
abbrev cX7_dam : ByteArray := prog_9_method_46_code
def yX7_dam : MethodName := ⟨RX7, "dam", "(I)I"⟩
abbrev cX7_leastRiver : ByteArray := prog_9_method_47_code
def yX7_leastRiver : MethodName := ⟨RX7, "leastRiver", "()I"⟩
abbrev cX7_type : ByteArray := prog_9_method_48_code
def yX7_type : MethodName := ⟨RX7, "type", "(I)I"⟩
abbrev cX7_clearText : ByteArray := prog_9_method_49_code
def yX7_clearText : MethodName := ⟨RX7, "clearText", "()I"⟩
abbrev cX7_fault : ByteArray := prog_9_method_50_code
def yX7_fault : MethodName := ⟨RX7, "fault", "()I"⟩
abbrev cX7_read : ByteArray := prog_9_method_51_code
def yX7_read : MethodName := ⟨RX7, "read", "()I"⟩
def RJ9 : String := "java/lang/Math"
def TJ9 : u_T := fun k => match k with
  | _ => ("", "", "", false)
def tyJ9 : Nat → FieldType := fun k => match k with
  | _ => .int
abbrev wsJ90 : List Cond := u_ws RJ9 TJ9 0
theorem nmJ9 : ∀ a, a < 0 → ∀ b, b < 0 → a ≠ b → (TJ9 a).2.1 ≠ (TJ9 b).2.1 := by decide +kernel
theorem tyJ9_ok : ∀ k, k < 0 → parseFieldDescriptor (TJ9 k).2.2.1 = some (tyJ9 k) := by decide +kernel
abbrev cJ9_max_7cf53 : ByteArray := prog_10_method_65_code
def yJ9_max_7cf53 : MethodName := ⟨RJ9, "max", "(II)I"⟩
abbrev cJ9_min_7cf53 : ByteArray := prog_10_method_69_code
def yJ9_min_7cf53 : MethodName := ⟨RJ9, "min", "(II)I"⟩
def RL : String := "WhiteRiversLaw"
abbrev cL_law : ByteArray := code
def yL_law : MethodName := ⟨RL, "law", "([I)Z"⟩
def wsX2_init : List Cond := .code yX2_init cX2_init 2 none :: ([.methodLink RX2 1 objectInit, .instanceMethod objectInit, .code objectInit ⟨#[0xb1]⟩ 1 none, .methodLink RX2 7 Lib.Math.max.name, .static Lib.Math.max.name, .initialized "java/lang/Math", .code Lib.Math.max.name Lib.Math.max.code 2 (some .int), .arrayClass .int, .fieldLink RX2 13 "WhiteRivers$Row" "cells" "[I"] ++ wsX20)
def wsX1_init : List Cond := .code yX1_init cX1_init 1 none :: ([.methodLink RX1 3 objectInit, .instanceMethod objectInit, .code objectInit ⟨#[0xb1]⟩ 1 none, .fieldLink RX1 9 "WhiteRivers$Page" "width" "I", .fieldLink RX1 15 "WhiteRivers$Page" "slack" "I", .fieldLink RX1 18 "WhiteRivers$Page" "words" "I", .classLink RX1 21 RX2, .instantiable RX2 1, .initialized RX2, .fieldLink RX1 26 "WhiteRivers$Page" "lengths" "LWhiteRivers$Row;", .fieldLink RX1 30 "WhiteRivers$Page" "begins" "LWhiteRivers$Row;", .fieldLink RX1 33 "WhiteRivers$Page" "frozen" "LWhiteRivers$Row;", .methodLink RX1 23 yX2_init, .instanceMethod yX2_init, .code yX2_init cX2_init 2 none, .methodLink RX2 1 objectInit, .methodLink RX2 7 Lib.Math.max.name, .static Lib.Math.max.name, .initialized "java/lang/Math", .code Lib.Math.max.name Lib.Math.max.code 2 (some .int), .arrayClass .int, .fieldLink RX2 13 "WhiteRivers$Row" "cells" "[I"] ++ wsX10 ++ wsX20)
def wsX0_init_r1 : List Cond := [Cond.methodLink RX0 3 objectInit, Cond.instanceMethod objectInit, Cond.code objectInit ⟨#[0xb1]⟩ 1 none, Cond.fieldLink RX0 9 "WhiteRivers$History" "states" "I", Cond.classLink RX0 15 RX1, Cond.fieldLink RX0 17 "WhiteRivers$History" "pages" "[LWhiteRivers$Page;", Cond.instantiable RX1 6, Cond.initialized RX1, Cond.instanceMethod yX1_init, Cond.code yX1_init cX1_init 1 none, Cond.methodLink RX1 3 objectInit, Cond.fieldLink RX1 9 "WhiteRivers$Page" "width" "I", Cond.fieldLink RX1 15 "WhiteRivers$Page" "slack" "I", Cond.fieldLink RX1 18 "WhiteRivers$Page" "words" "I", Cond.classLink RX1 21 RX2, Cond.instantiable RX2 1, Cond.initialized RX2, Cond.fieldLink RX1 26 "WhiteRivers$Page" "lengths" "LWhiteRivers$Row;", Cond.fieldLink RX1 30 "WhiteRivers$Page" "begins" "LWhiteRivers$Row;", Cond.fieldLink RX1 33 "WhiteRivers$Page" "frozen" "LWhiteRivers$Row;", Cond.methodLink RX1 23 yX2_init, Cond.instanceMethod yX2_init, Cond.code yX2_init cX2_init 2 none, Cond.methodLink RX2 1 objectInit]
def wsX0_init_r2 : List Cond := [Cond.methodLink RX2 7 Lib.Math.max.name, Cond.static Lib.Math.max.name, Cond.initialized "java/lang/Math", Cond.code Lib.Math.max.name Lib.Math.max.code 2 (some .int), Cond.arrayClass .int, Cond.fieldLink RX2 13 "WhiteRivers$Row" "cells" "[I"]
def wsX0_init : List Cond := .code yX0_init cX0_init 2 none :: ((wsX0_init_r1 ++ wsX0_init_r2) ++ wsX00 ++ wsX10 ++ wsX20)
def wsX0_pageAt : List Cond := .code yX0_pageAt cX0_pageAt 2 (some (.object "WhiteRivers$Page")) :: ([.fieldLink RX0 17 "WhiteRivers$History" "pages" "[LWhiteRivers$Page;"] ++ wsX00)
def wsX0_dropOldest : List Cond := .code yX0_dropOldest cX0_dropOldest 3 none :: ([.fieldLink RX0 17 "WhiteRivers$History" "pages" "[LWhiteRivers$Page;", .fieldLink RX0 9 "WhiteRivers$History" "states" "I", .methodLink RX0 25 yX0_pageAt, .instanceMethod yX0_pageAt, .selects RX0 yX0_pageAt yX0_pageAt, .initialized RX0, .code yX0_pageAt cX0_pageAt 2 (some (.object "WhiteRivers$Page"))] ++ wsX00)
def wsX2_get : List Cond := .code yX2_get cX2_get 2 (some .int) :: ([.fieldLink RX2 13 "WhiteRivers$Row" "cells" "[I"] ++ wsX20)
def wsX2_copyFrom : List Cond := .code yX2_copyFrom cX2_copyFrom 3 none :: ([.fieldLink RX2 13 "WhiteRivers$Row" "cells" "[I", .methodLink RX2 19 yX2_get, .instanceMethod yX2_get, .selects RX2 yX2_get yX2_get, .initialized RX2, .code yX2_get cX2_get 2 (some .int)] ++ wsX20)
def wsX1_copyFrom : List Cond := .code yX1_copyFrom cX1_copyFrom 2 none :: ([.fieldLink RX1 9 "WhiteRivers$Page" "width" "I", .fieldLink RX1 15 "WhiteRivers$Page" "slack" "I", .fieldLink RX1 18 "WhiteRivers$Page" "words" "I", .fieldLink RX1 26 "WhiteRivers$Page" "lengths" "LWhiteRivers$Row;", .fieldLink RX1 30 "WhiteRivers$Page" "begins" "LWhiteRivers$Row;", .fieldLink RX1 33 "WhiteRivers$Page" "frozen" "LWhiteRivers$Row;", .methodLink RX1 36 yX2_copyFrom, .instanceMethod yX2_copyFrom, .selects RX2 yX2_copyFrom yX2_copyFrom, .initialized RX2, .code yX2_copyFrom cX2_copyFrom 3 none, .fieldLink RX2 13 "WhiteRivers$Row" "cells" "[I", .methodLink RX2 19 yX2_get, .instanceMethod yX2_get, .selects RX2 yX2_get yX2_get, .code yX2_get cX2_get 2 (some .int)] ++ wsX10 ++ wsX20)
def wsX0_keep_r1 : List Cond := [Cond.fieldLink RX0 9 "WhiteRivers$History" "states" "I", Cond.fieldLink RX0 17 "WhiteRivers$History" "pages" "[LWhiteRivers$Page;", Cond.methodLink RX0 22 yX0_dropOldest, Cond.instanceMethod yX0_dropOldest, Cond.selects RX0 yX0_dropOldest yX0_dropOldest, Cond.initialized RX0, Cond.code yX0_dropOldest cX0_dropOldest 3 none, Cond.methodLink RX0 25 yX0_pageAt, Cond.instanceMethod yX0_pageAt, Cond.selects RX0 yX0_pageAt yX0_pageAt, Cond.code yX0_pageAt cX0_pageAt 2 (some (.object "WhiteRivers$Page")), Cond.methodLink RX0 29 yX1_copyFrom, Cond.instanceMethod yX1_copyFrom, Cond.selects RX1 yX1_copyFrom yX1_copyFrom, Cond.initialized RX1, Cond.code yX1_copyFrom cX1_copyFrom 2 none, Cond.fieldLink RX1 9 "WhiteRivers$Page" "width" "I", Cond.fieldLink RX1 15 "WhiteRivers$Page" "slack" "I", Cond.fieldLink RX1 18 "WhiteRivers$Page" "words" "I", Cond.fieldLink RX1 26 "WhiteRivers$Page" "lengths" "LWhiteRivers$Row;", Cond.fieldLink RX1 30 "WhiteRivers$Page" "begins" "LWhiteRivers$Row;", Cond.fieldLink RX1 33 "WhiteRivers$Page" "frozen" "LWhiteRivers$Row;", Cond.methodLink RX1 36 yX2_copyFrom, Cond.instanceMethod yX2_copyFrom]
def wsX0_keep_r2 : List Cond := [Cond.selects RX2 yX2_copyFrom yX2_copyFrom, Cond.initialized RX2, Cond.code yX2_copyFrom cX2_copyFrom 3 none, Cond.fieldLink RX2 13 "WhiteRivers$Row" "cells" "[I", Cond.methodLink RX2 19 yX2_get, Cond.instanceMethod yX2_get, Cond.selects RX2 yX2_get yX2_get, Cond.code yX2_get cX2_get 2 (some .int)]
def wsX0_keep : List Cond := .code yX0_keep cX0_keep 3 none :: ((wsX0_keep_r1 ++ wsX0_keep_r2) ++ wsX00 ++ wsX10 ++ wsX20)
def wsX0_restoreLatest_r1 : List Cond := [Cond.fieldLink RX0 9 "WhiteRivers$History" "states" "I", Cond.methodLink RX0 25 yX0_pageAt, Cond.instanceMethod yX0_pageAt, Cond.selects RX0 yX0_pageAt yX0_pageAt, Cond.initialized RX0, Cond.code yX0_pageAt cX0_pageAt 2 (some (.object "WhiteRivers$Page")), Cond.fieldLink RX0 17 "WhiteRivers$History" "pages" "[LWhiteRivers$Page;", Cond.methodLink RX0 29 yX1_copyFrom, Cond.instanceMethod yX1_copyFrom, Cond.selects RX1 yX1_copyFrom yX1_copyFrom, Cond.initialized RX1, Cond.code yX1_copyFrom cX1_copyFrom 2 none, Cond.fieldLink RX1 9 "WhiteRivers$Page" "width" "I", Cond.fieldLink RX1 15 "WhiteRivers$Page" "slack" "I", Cond.fieldLink RX1 18 "WhiteRivers$Page" "words" "I", Cond.fieldLink RX1 26 "WhiteRivers$Page" "lengths" "LWhiteRivers$Row;", Cond.fieldLink RX1 30 "WhiteRivers$Page" "begins" "LWhiteRivers$Row;", Cond.fieldLink RX1 33 "WhiteRivers$Page" "frozen" "LWhiteRivers$Row;", Cond.methodLink RX1 36 yX2_copyFrom, Cond.instanceMethod yX2_copyFrom, Cond.selects RX2 yX2_copyFrom yX2_copyFrom, Cond.initialized RX2, Cond.code yX2_copyFrom cX2_copyFrom 3 none, Cond.fieldLink RX2 13 "WhiteRivers$Row" "cells" "[I"]
def wsX0_restoreLatest_r2 : List Cond := [Cond.methodLink RX2 19 yX2_get, Cond.instanceMethod yX2_get, Cond.selects RX2 yX2_get yX2_get, Cond.code yX2_get cX2_get 2 (some .int)]
def wsX0_restoreLatest : List Cond := .code yX0_restoreLatest cX0_restoreLatest 3 none :: ((wsX0_restoreLatest_r1 ++ wsX0_restoreLatest_r2) ++ wsX00 ++ wsX10 ++ wsX20)
def wsX2_clear : List Cond := .code yX2_clear cX2_clear 2 none :: ([.fieldLink RX2 13 "WhiteRivers$Row" "cells" "[I"] ++ wsX20)
def wsX1_removeAll : List Cond := .code yX1_removeAll cX1_removeAll 1 none :: ([.fieldLink RX1 18 "WhiteRivers$Page" "words" "I", .fieldLink RX1 30 "WhiteRivers$Page" "begins" "LWhiteRivers$Row;", .fieldLink RX1 33 "WhiteRivers$Page" "frozen" "LWhiteRivers$Row;", .methodLink RX1 40 yX2_clear, .instanceMethod yX2_clear, .selects RX2 yX2_clear yX2_clear, .initialized RX2, .code yX2_clear cX2_clear 2 none, .fieldLink RX2 13 "WhiteRivers$Row" "cells" "[I"] ++ wsX10 ++ wsX20)
def wsX2_set : List Cond := .code yX2_set cX2_set 3 none :: ([.fieldLink RX2 13 "WhiteRivers$Row" "cells" "[I"] ++ wsX20)
def wsX1_append : List Cond := .code yX1_append cX1_append 2 none :: ([.fieldLink RX1 26 "WhiteRivers$Page" "lengths" "LWhiteRivers$Row;", .fieldLink RX1 18 "WhiteRivers$Page" "words" "I", .methodLink RX1 43 yX2_set, .instanceMethod yX2_set, .selects RX2 yX2_set yX2_set, .initialized RX2, .code yX2_set cX2_set 3 none, .fieldLink RX2 13 "WhiteRivers$Row" "cells" "[I"] ++ wsX10 ++ wsX20)
def wsX1_dropLast : List Cond := .code yX1_dropLast cX1_dropLast 1 none :: ([.fieldLink RX1 18 "WhiteRivers$Page" "words" "I", .fieldLink RX1 30 "WhiteRivers$Page" "begins" "LWhiteRivers$Row;", .methodLink RX1 43 yX2_set, .instanceMethod yX2_set, .selects RX2 yX2_set yX2_set, .initialized RX2, .code yX2_set cX2_set 3 none, .fieldLink RX2 13 "WhiteRivers$Row" "cells" "[I"] ++ wsX10 ++ wsX20)
def wsX1_begin : List Cond := .code yX1_begin cX1_begin 2 none :: ([.fieldLink RX1 18 "WhiteRivers$Page" "words" "I", .fieldLink RX1 30 "WhiteRivers$Page" "begins" "LWhiteRivers$Row;", .methodLink RX1 43 yX2_set, .instanceMethod yX2_set, .selects RX2 yX2_set yX2_set, .initialized RX2, .code yX2_set cX2_set 3 none, .fieldLink RX2 13 "WhiteRivers$Row" "cells" "[I"] ++ wsX10 ++ wsX20)
def wsX1_join : List Cond := .code yX1_join cX1_join 2 none :: ([.fieldLink RX1 30 "WhiteRivers$Page" "begins" "LWhiteRivers$Row;", .methodLink RX1 43 yX2_set, .instanceMethod yX2_set, .selects RX2 yX2_set yX2_set, .initialized RX2, .code yX2_set cX2_set 3 none, .fieldLink RX2 13 "WhiteRivers$Row" "cells" "[I"] ++ wsX10 ++ wsX20)
def wsX1_joinAll : List Cond := .code yX1_joinAll cX1_joinAll 1 none :: ([.fieldLink RX1 30 "WhiteRivers$Page" "begins" "LWhiteRivers$Row;", .methodLink RX1 40 yX2_clear, .instanceMethod yX2_clear, .selects RX2 yX2_clear yX2_clear, .initialized RX2, .code yX2_clear cX2_clear 2 none, .fieldLink RX2 13 "WhiteRivers$Row" "cells" "[I"] ++ wsX10 ++ wsX20)
def wsX1_setFrozen : List Cond := .code yX1_setFrozen cX1_setFrozen 3 none :: ([.fieldLink RX1 33 "WhiteRivers$Page" "frozen" "LWhiteRivers$Row;", .methodLink RX1 43 yX2_set, .instanceMethod yX2_set, .selects RX2 yX2_set yX2_set, .initialized RX2, .code yX2_set cX2_set 3 none, .fieldLink RX2 13 "WhiteRivers$Row" "cells" "[I"] ++ wsX10 ++ wsX20)
def wsX1_isFrozen : List Cond := .code yX1_isFrozen cX1_isFrozen 2 (some .boolean) :: ([.fieldLink RX1 33 "WhiteRivers$Page" "frozen" "LWhiteRivers$Row;", .methodLink RX1 47 yX2_get, .instanceMethod yX2_get, .selects RX2 yX2_get yX2_get, .initialized RX2, .code yX2_get cX2_get 2 (some .int), .fieldLink RX2 13 "WhiteRivers$Row" "cells" "[I"] ++ wsX10 ++ wsX20)
def wsX1_lengthOf : List Cond := .code yX1_lengthOf cX1_lengthOf 2 (some .int) :: ([.fieldLink RX1 26 "WhiteRivers$Page" "lengths" "LWhiteRivers$Row;", .methodLink RX1 47 yX2_get, .instanceMethod yX2_get, .selects RX2 yX2_get yX2_get, .initialized RX2, .code yX2_get cX2_get 2 (some .int), .fieldLink RX2 13 "WhiteRivers$Row" "cells" "[I"] ++ wsX10 ++ wsX20)
def wsX1_lines : List Cond := .code yX1_lines cX1_lines 3 (some .int) :: ([.fieldLink RX1 18 "WhiteRivers$Page" "words" "I", .fieldLink RX1 30 "WhiteRivers$Page" "begins" "LWhiteRivers$Row;", .methodLink RX1 47 yX2_get, .instanceMethod yX2_get, .selects RX2 yX2_get yX2_get, .initialized RX2, .code yX2_get cX2_get 2 (some .int), .fieldLink RX2 13 "WhiteRivers$Row" "cells" "[I"] ++ wsX10 ++ wsX20)
def wsX1_frozenLines : List Cond := .code yX1_frozenLines cX1_frozenLines 3 (some .int) :: ([.fieldLink RX1 18 "WhiteRivers$Page" "words" "I", .fieldLink RX1 33 "WhiteRivers$Page" "frozen" "LWhiteRivers$Row;", .methodLink RX1 47 yX2_get, .instanceMethod yX2_get, .selects RX2 yX2_get yX2_get, .initialized RX2, .code yX2_get cX2_get 2 (some .int), .fieldLink RX2 13 "WhiteRivers$Row" "cells" "[I"] ++ wsX10 ++ wsX20)
def wsX1_hasLine : List Cond := .code yX1_hasLine cX1_hasLine 2 (some .boolean) :: ([.methodLink RX1 51 yX1_lines, .instanceMethod yX1_lines, .selects RX1 yX1_lines yX1_lines, .initialized RX1, .code yX1_lines cX1_lines 3 (some .int), .fieldLink RX1 18 "WhiteRivers$Page" "words" "I", .fieldLink RX1 30 "WhiteRivers$Page" "begins" "LWhiteRivers$Row;", .methodLink RX1 47 yX2_get, .instanceMethod yX2_get, .selects RX2 yX2_get yX2_get, .initialized RX2, .code yX2_get cX2_get 2 (some .int), .fieldLink RX2 13 "WhiteRivers$Row" "cells" "[I"] ++ wsX10 ++ wsX20)
def wsX1_firstOf : List Cond := .code yX1_firstOf cX1_firstOf 4 (some .int) :: ([.fieldLink RX1 18 "WhiteRivers$Page" "words" "I", .fieldLink RX1 30 "WhiteRivers$Page" "begins" "LWhiteRivers$Row;", .methodLink RX1 47 yX2_get, .instanceMethod yX2_get, .selects RX2 yX2_get yX2_get, .initialized RX2, .code yX2_get cX2_get 2 (some .int), .fieldLink RX2 13 "WhiteRivers$Row" "cells" "[I"] ++ wsX10 ++ wsX20)
def wsX1_endOf : List Cond := .code yX1_endOf cX1_endOf 3 (some .int) :: ([.fieldLink RX1 18 "WhiteRivers$Page" "words" "I", .fieldLink RX1 30 "WhiteRivers$Page" "begins" "LWhiteRivers$Row;", .methodLink RX1 47 yX2_get, .instanceMethod yX2_get, .selects RX2 yX2_get yX2_get, .initialized RX2, .code yX2_get cX2_get 2 (some .int), .fieldLink RX2 13 "WhiteRivers$Row" "cells" "[I"] ++ wsX10 ++ wsX20)
def wsX1_lineOf : List Cond := .code yX1_lineOf cX1_lineOf 4 (some .int) :: ([.fieldLink RX1 18 "WhiteRivers$Page" "words" "I", .fieldLink RX1 30 "WhiteRivers$Page" "begins" "LWhiteRivers$Row;", .methodLink RX1 47 yX2_get, .instanceMethod yX2_get, .selects RX2 yX2_get yX2_get, .initialized RX2, .code yX2_get cX2_get 2 (some .int), .fieldLink RX2 13 "WhiteRivers$Row" "cells" "[I"] ++ wsX10 ++ wsX20)
def wsX1_isLine : List Cond := .code yX1_isLine cX1_isLine 3 (some .boolean) :: ([.fieldLink RX1 30 "WhiteRivers$Page" "begins" "LWhiteRivers$Row;", .methodLink RX1 47 yX2_get, .instanceMethod yX2_get, .selects RX2 yX2_get yX2_get, .initialized RX2, .code yX2_get cX2_get 2 (some .int), .fieldLink RX2 13 "WhiteRivers$Row" "cells" "[I", .methodLink RX1 55 yX1_endOf, .instanceMethod yX1_endOf, .selects RX1 yX1_endOf yX1_endOf, .initialized RX1, .code yX1_endOf cX1_endOf 3 (some .int), .fieldLink RX1 18 "WhiteRivers$Page" "words" "I"] ++ wsX10 ++ wsX20)
def wsX1_hasFrozen : List Cond := .code yX1_hasFrozen cX1_hasFrozen 4 (some .boolean) :: ([.methodLink RX1 58 yX1_isFrozen, .instanceMethod yX1_isFrozen, .selects RX1 yX1_isFrozen yX1_isFrozen, .initialized RX1, .code yX1_isFrozen cX1_isFrozen 2 (some .boolean), .fieldLink RX1 33 "WhiteRivers$Page" "frozen" "LWhiteRivers$Row;", .methodLink RX1 47 yX2_get, .instanceMethod yX2_get, .selects RX2 yX2_get yX2_get, .initialized RX2, .code yX2_get cX2_get 2 (some .int), .fieldLink RX2 13 "WhiteRivers$Row" "cells" "[I"] ++ wsX10 ++ wsX20)
def wsX1_extra : List Cond := .code yX1_extra cX1_extra 5 (some .int) :: ([.fieldLink RX1 9 "WhiteRivers$Page" "width" "I", .fieldLink RX1 26 "WhiteRivers$Page" "lengths" "LWhiteRivers$Row;", .methodLink RX1 47 yX2_get, .instanceMethod yX2_get, .selects RX2 yX2_get yX2_get, .initialized RX2, .code yX2_get cX2_get 2 (some .int), .fieldLink RX2 13 "WhiteRivers$Row" "cells" "[I"] ++ wsX10 ++ wsX20)
def wsX1_fits : List Cond := .code yX1_fits cX1_fits 3 (some .boolean) :: ([.methodLink RX1 62 yX1_extra, .instanceMethod yX1_extra, .selects RX1 yX1_extra yX1_extra, .initialized RX1, .code yX1_extra cX1_extra 5 (some .int), .fieldLink RX1 9 "WhiteRivers$Page" "width" "I", .fieldLink RX1 26 "WhiteRivers$Page" "lengths" "LWhiteRivers$Row;", .methodLink RX1 47 yX2_get, .instanceMethod yX2_get, .selects RX2 yX2_get yX2_get, .initialized RX2, .code yX2_get cX2_get 2 (some .int), .fieldLink RX2 13 "WhiteRivers$Row" "cells" "[I"] ++ wsX10 ++ wsX20)
def wsX1_badness : List Cond := .code yX1_badness cX1_badness 4 (some .int) :: ([.fieldLink RX1 18 "WhiteRivers$Page" "words" "I", .methodLink RX1 62 yX1_extra, .instanceMethod yX1_extra, .selects RX1 yX1_extra yX1_extra, .initialized RX1, .code yX1_extra cX1_extra 5 (some .int), .fieldLink RX1 9 "WhiteRivers$Page" "width" "I", .fieldLink RX1 26 "WhiteRivers$Page" "lengths" "LWhiteRivers$Row;", .methodLink RX1 47 yX2_get, .instanceMethod yX2_get, .selects RX2 yX2_get yX2_get, .initialized RX2, .code yX2_get cX2_get 2 (some .int), .fieldLink RX2 13 "WhiteRivers$Row" "cells" "[I"] ++ wsX10 ++ wsX20)
def wsX1_badnessOfAll : List Cond := .code yX1_badnessOfAll cX1_badnessOfAll 3 (some .int) :: ([.fieldLink RX1 18 "WhiteRivers$Page" "words" "I", .fieldLink RX1 30 "WhiteRivers$Page" "begins" "LWhiteRivers$Row;", .methodLink RX1 47 yX2_get, .instanceMethod yX2_get, .selects RX2 yX2_get yX2_get, .initialized RX2, .code yX2_get cX2_get 2 (some .int), .fieldLink RX2 13 "WhiteRivers$Row" "cells" "[I", .methodLink RX1 55 yX1_endOf, .instanceMethod yX1_endOf, .selects RX1 yX1_endOf yX1_endOf, .initialized RX1, .code yX1_endOf cX1_endOf 3 (some .int), .methodLink RX1 66 yX1_badness, .instanceMethod yX1_badness, .selects RX1 yX1_badness yX1_badness, .code yX1_badness cX1_badness 4 (some .int), .methodLink RX1 62 yX1_extra, .instanceMethod yX1_extra, .selects RX1 yX1_extra yX1_extra, .code yX1_extra cX1_extra 5 (some .int), .fieldLink RX1 9 "WhiteRivers$Page" "width" "I", .fieldLink RX1 26 "WhiteRivers$Page" "lengths" "LWhiteRivers$Row;"] ++ wsX10 ++ wsX20)
def wsX1_fill_r1 : List Cond := [Cond.fieldLink RX1 18 "WhiteRivers$Page" "words" "I", Cond.methodLink RX1 69 yX1_joinAll, Cond.instanceMethod yX1_joinAll, Cond.selects RX1 yX1_joinAll yX1_joinAll, Cond.initialized RX1, Cond.code yX1_joinAll cX1_joinAll 1 none, Cond.fieldLink RX1 30 "WhiteRivers$Page" "begins" "LWhiteRivers$Row;", Cond.methodLink RX1 40 yX2_clear, Cond.instanceMethod yX2_clear, Cond.selects RX2 yX2_clear yX2_clear, Cond.initialized RX2, Cond.code yX2_clear cX2_clear 2 none, Cond.fieldLink RX2 13 "WhiteRivers$Row" "cells" "[I", Cond.methodLink RX1 72 yX1_fits, Cond.instanceMethod yX1_fits, Cond.selects RX1 yX1_fits yX1_fits, Cond.code yX1_fits cX1_fits 3 (some .boolean), Cond.methodLink RX1 62 yX1_extra, Cond.instanceMethod yX1_extra, Cond.selects RX1 yX1_extra yX1_extra, Cond.code yX1_extra cX1_extra 5 (some .int), Cond.fieldLink RX1 9 "WhiteRivers$Page" "width" "I", Cond.fieldLink RX1 26 "WhiteRivers$Page" "lengths" "LWhiteRivers$Row;", Cond.methodLink RX1 47 yX2_get]
def wsX1_fill_r2 : List Cond := [Cond.instanceMethod yX2_get, Cond.selects RX2 yX2_get yX2_get, Cond.code yX2_get cX2_get 2 (some .int), Cond.methodLink RX1 76 yX1_begin, Cond.instanceMethod yX1_begin, Cond.selects RX1 yX1_begin yX1_begin, Cond.code yX1_begin cX1_begin 2 none, Cond.methodLink RX1 43 yX2_set, Cond.instanceMethod yX2_set, Cond.selects RX2 yX2_set yX2_set, Cond.code yX2_set cX2_set 3 none]
def wsX1_fill : List Cond := .code yX1_fill cX1_fill 3 none :: ((wsX1_fill_r1 ++ wsX1_fill_r2) ++ wsX10 ++ wsX20)
def wsX4_init : List Cond := .code yX4_init cX4_init 1 none :: ([.methodLink RX4 3 objectInit, .instanceMethod objectInit, .code objectInit ⟨#[0xb1]⟩ 1 none, .classLink RX4 9 RX2, .instantiable RX2 1, .initialized RX2, .fieldLink RX4 14 "WhiteRivers$Sheet" "columns" "LWhiteRivers$Row;", .fieldLink RX4 20 "WhiteRivers$Sheet" "gapColumns" "LWhiteRivers$Row;", .fieldLink RX4 23 "WhiteRivers$Sheet" "gapWidths" "LWhiteRivers$Row;", .fieldLink RX4 26 "WhiteRivers$Sheet" "reaches" "LWhiteRivers$Row;", .methodLink RX4 11 yX2_init, .instanceMethod yX2_init, .code yX2_init cX2_init 2 none, .methodLink RX2 1 objectInit, .methodLink RX2 7 Lib.Math.max.name, .static Lib.Math.max.name, .initialized "java/lang/Math", .code Lib.Math.max.name Lib.Math.max.code 2 (some .int), .arrayClass .int, .fieldLink RX2 13 "WhiteRivers$Row" "cells" "[I"] ++ wsX20 ++ wsX40)
def wsX3_init_r1 : List Cond := [Cond.methodLink RX3 3 objectInit, Cond.instanceMethod objectInit, Cond.code objectInit ⟨#[0xb1]⟩ 1 none, Cond.fieldLink RX3 9 "WhiteRivers$Search" "bestLines" "I", Cond.fieldLink RX3 15 "WhiteRivers$Search" "bestRiver" "I", Cond.constant RX3 18 (1000000000), Cond.fieldLink RX3 19 "WhiteRivers$Search" "bestPrice" "I", Cond.fieldLink RX3 22 "WhiteRivers$Search" "limit" "I", Cond.classLink RX3 25 RX1, Cond.instantiable RX1 6, Cond.initialized RX1, Cond.fieldLink RX3 28 "WhiteRivers$Search" "page" "LWhiteRivers$Page;", Cond.classLink RX3 32 RX4, Cond.instantiable RX4 4, Cond.initialized RX4, Cond.fieldLink RX3 35 "WhiteRivers$Search" "sheet" "LWhiteRivers$Sheet;", Cond.classLink RX3 39 RX2, Cond.instantiable RX2 1, Cond.initialized RX2, Cond.fieldLink RX3 44 "WhiteRivers$Search" "prices" "LWhiteRivers$Row;", Cond.fieldLink RX3 48 "WhiteRivers$Search" "leastPrices" "LWhiteRivers$Row;", Cond.fieldLink RX3 51 "WhiteRivers$Search" "tried" "LWhiteRivers$Row;", Cond.fieldLink RX3 54 "WhiteRivers$Search" "best" "LWhiteRivers$Row;", Cond.instanceMethod yX1_init]
def wsX3_init_r2 : List Cond := [Cond.code yX1_init cX1_init 1 none, Cond.methodLink RX1 3 objectInit, Cond.fieldLink RX1 9 "WhiteRivers$Page" "width" "I", Cond.fieldLink RX1 15 "WhiteRivers$Page" "slack" "I", Cond.fieldLink RX1 18 "WhiteRivers$Page" "words" "I", Cond.classLink RX1 21 RX2, Cond.fieldLink RX1 26 "WhiteRivers$Page" "lengths" "LWhiteRivers$Row;", Cond.fieldLink RX1 30 "WhiteRivers$Page" "begins" "LWhiteRivers$Row;", Cond.fieldLink RX1 33 "WhiteRivers$Page" "frozen" "LWhiteRivers$Row;", Cond.methodLink RX1 23 yX2_init, Cond.instanceMethod yX2_init, Cond.code yX2_init cX2_init 2 none, Cond.methodLink RX2 1 objectInit, Cond.methodLink RX2 7 Lib.Math.max.name, Cond.static Lib.Math.max.name, Cond.initialized "java/lang/Math", Cond.code Lib.Math.max.name Lib.Math.max.code 2 (some .int), Cond.arrayClass .int, Cond.fieldLink RX2 13 "WhiteRivers$Row" "cells" "[I", Cond.instanceMethod yX4_init, Cond.code yX4_init cX4_init 1 none, Cond.methodLink RX4 3 objectInit, Cond.classLink RX4 9 RX2, Cond.fieldLink RX4 14 "WhiteRivers$Sheet" "columns" "LWhiteRivers$Row;"]
def wsX3_init_r3 : List Cond := [Cond.fieldLink RX4 20 "WhiteRivers$Sheet" "gapColumns" "LWhiteRivers$Row;", Cond.fieldLink RX4 23 "WhiteRivers$Sheet" "gapWidths" "LWhiteRivers$Row;", Cond.fieldLink RX4 26 "WhiteRivers$Sheet" "reaches" "LWhiteRivers$Row;", Cond.methodLink RX4 11 yX2_init, Cond.methodLink RX3 41 yX2_init]
def wsX3_init : List Cond := .code yX3_init cX3_init 1 none :: ((wsX3_init_r1 ++ (wsX3_init_r2 ++ wsX3_init_r3)) ++ wsX30 ++ wsX10 ++ wsX40 ++ wsX20)
def wsX3_forget : List Cond := .code yX3_forget cX3_forget 1 none :: ([.fieldLink RX3 22 "WhiteRivers$Search" "limit" "I"] ++ wsX30)
def wsX3_priceOf_r1 : List Cond := [Cond.fieldLink RX3 28 "WhiteRivers$Search" "page" "LWhiteRivers$Page;", Cond.constant RX3 18 (1000000000), Cond.fieldLink RX3 79 "WhiteRivers$Page" "words" "I", Cond.fieldLink RX3 112 "WhiteRivers$Page" "slack" "I", Cond.constant RX3 68 (100000), Cond.methodLink RX3 98 yX1_isLine, Cond.instanceMethod yX1_isLine, Cond.selects RX1 yX1_isLine yX1_isLine, Cond.initialized RX1, Cond.code yX1_isLine cX1_isLine 3 (some .boolean), Cond.fieldLink RX1 30 "WhiteRivers$Page" "begins" "LWhiteRivers$Row;", Cond.methodLink RX1 47 yX2_get, Cond.instanceMethod yX2_get, Cond.selects RX2 yX2_get yX2_get, Cond.initialized RX2, Cond.code yX2_get cX2_get 2 (some .int), Cond.fieldLink RX2 13 "WhiteRivers$Row" "cells" "[I", Cond.methodLink RX1 55 yX1_endOf, Cond.instanceMethod yX1_endOf, Cond.selects RX1 yX1_endOf yX1_endOf, Cond.code yX1_endOf cX1_endOf 3 (some .int), Cond.fieldLink RX1 18 "WhiteRivers$Page" "words" "I", Cond.methodLink RX3 102 yX1_extra, Cond.instanceMethod yX1_extra]
def wsX3_priceOf_r2 : List Cond := [Cond.selects RX1 yX1_extra yX1_extra, Cond.code yX1_extra cX1_extra 5 (some .int), Cond.fieldLink RX1 9 "WhiteRivers$Page" "width" "I", Cond.fieldLink RX1 26 "WhiteRivers$Page" "lengths" "LWhiteRivers$Row;", Cond.methodLink RX3 105 yX1_hasFrozen, Cond.instanceMethod yX1_hasFrozen, Cond.selects RX1 yX1_hasFrozen yX1_hasFrozen, Cond.code yX1_hasFrozen cX1_hasFrozen 4 (some .boolean), Cond.methodLink RX1 58 yX1_isFrozen, Cond.instanceMethod yX1_isFrozen, Cond.selects RX1 yX1_isFrozen yX1_isFrozen, Cond.code yX1_isFrozen cX1_isFrozen 2 (some .boolean), Cond.fieldLink RX1 33 "WhiteRivers$Page" "frozen" "LWhiteRivers$Row;", Cond.methodLink RX3 108 yX1_isFrozen, Cond.methodLink RX3 115 yX1_badness, Cond.instanceMethod yX1_badness, Cond.selects RX1 yX1_badness yX1_badness, Cond.code yX1_badness cX1_badness 4 (some .int), Cond.methodLink RX1 62 yX1_extra]
def wsX3_priceOf : List Cond := .code yX3_priceOf cX3_priceOf 5 (some .int) :: ((wsX3_priceOf_r1 ++ wsX3_priceOf_r2) ++ wsX30 ++ wsX10 ++ wsX20)
def wsX3_cellOf : List Cond := .code yX3_cellOf cX3_cellOf 2 (some .int) :: ([])
def wsX3_setPrices_r1 : List Cond := [Cond.fieldLink RX3 48 "WhiteRivers$Search" "leastPrices" "LWhiteRivers$Row;", Cond.fieldLink RX3 28 "WhiteRivers$Search" "page" "LWhiteRivers$Page;", Cond.fieldLink RX3 79 "WhiteRivers$Page" "words" "I", Cond.constant RX3 18 (1000000000), Cond.fieldLink RX3 44 "WhiteRivers$Search" "prices" "LWhiteRivers$Row;", Cond.methodLink RX3 93 Lib.Math.min.name, Cond.static Lib.Math.min.name, Cond.initialized "java/lang/Math", Cond.code Lib.Math.min.name Lib.Math.min.code 2 (some .int), Cond.methodLink RX3 82 yX2_set, Cond.instanceMethod yX2_set, Cond.selects RX2 yX2_set yX2_set, Cond.initialized RX2, Cond.code yX2_set cX2_set 3 none, Cond.fieldLink RX2 13 "WhiteRivers$Row" "cells" "[I", Cond.methodLink RX3 86 yX3_priceOf, Cond.instanceMethod yX3_priceOf, Cond.selects RX3 yX3_priceOf yX3_priceOf, Cond.initialized RX3, Cond.code yX3_priceOf cX3_priceOf 5 (some .int), Cond.fieldLink RX3 112 "WhiteRivers$Page" "slack" "I", Cond.constant RX3 68 (100000), Cond.methodLink RX3 98 yX1_isLine, Cond.instanceMethod yX1_isLine]
def wsX3_setPrices_r2 : List Cond := [Cond.selects RX1 yX1_isLine yX1_isLine, Cond.initialized RX1, Cond.code yX1_isLine cX1_isLine 3 (some .boolean), Cond.fieldLink RX1 30 "WhiteRivers$Page" "begins" "LWhiteRivers$Row;", Cond.methodLink RX1 47 yX2_get, Cond.instanceMethod yX2_get, Cond.selects RX2 yX2_get yX2_get, Cond.code yX2_get cX2_get 2 (some .int), Cond.methodLink RX1 55 yX1_endOf, Cond.instanceMethod yX1_endOf, Cond.selects RX1 yX1_endOf yX1_endOf, Cond.code yX1_endOf cX1_endOf 3 (some .int), Cond.fieldLink RX1 18 "WhiteRivers$Page" "words" "I", Cond.methodLink RX3 102 yX1_extra, Cond.instanceMethod yX1_extra, Cond.selects RX1 yX1_extra yX1_extra, Cond.code yX1_extra cX1_extra 5 (some .int), Cond.fieldLink RX1 9 "WhiteRivers$Page" "width" "I", Cond.fieldLink RX1 26 "WhiteRivers$Page" "lengths" "LWhiteRivers$Row;", Cond.methodLink RX3 105 yX1_hasFrozen, Cond.instanceMethod yX1_hasFrozen, Cond.selects RX1 yX1_hasFrozen yX1_hasFrozen, Cond.code yX1_hasFrozen cX1_hasFrozen 4 (some .boolean), Cond.methodLink RX1 58 yX1_isFrozen]
def wsX3_setPrices_r3 : List Cond := [Cond.instanceMethod yX1_isFrozen, Cond.selects RX1 yX1_isFrozen yX1_isFrozen, Cond.code yX1_isFrozen cX1_isFrozen 2 (some .boolean), Cond.fieldLink RX1 33 "WhiteRivers$Page" "frozen" "LWhiteRivers$Row;", Cond.methodLink RX3 108 yX1_isFrozen, Cond.methodLink RX3 115 yX1_badness, Cond.instanceMethod yX1_badness, Cond.selects RX1 yX1_badness yX1_badness, Cond.code yX1_badness cX1_badness 4 (some .int), Cond.methodLink RX1 62 yX1_extra, Cond.methodLink RX3 90 yX3_cellOf, Cond.static yX3_cellOf, Cond.code yX3_cellOf cX3_cellOf 2 (some .int), Cond.methodLink RX3 69 yX2_get]
def wsX3_setPrices : List Cond := .code yX3_setPrices cX3_setPrices 5 none :: ((wsX3_setPrices_r1 ++ (wsX3_setPrices_r2 ++ wsX3_setPrices_r3)) ++ wsX30 ++ wsX10 ++ wsX20)
def wsX3_keepTried : List Cond := .code yX3_keepTried cX3_keepTried 4 none :: ([.fieldLink RX3 19 "WhiteRivers$Search" "bestPrice" "I", .fieldLink RX3 9 "WhiteRivers$Search" "bestLines" "I", .fieldLink RX3 15 "WhiteRivers$Search" "bestRiver" "I", .fieldLink RX3 54 "WhiteRivers$Search" "best" "LWhiteRivers$Row;", .fieldLink RX3 51 "WhiteRivers$Search" "tried" "LWhiteRivers$Row;", .methodLink RX3 118 yX2_copyFrom, .instanceMethod yX2_copyFrom, .selects RX2 yX2_copyFrom yX2_copyFrom, .initialized RX2, .code yX2_copyFrom cX2_copyFrom 3 none, .fieldLink RX2 13 "WhiteRivers$Row" "cells" "[I", .methodLink RX2 19 yX2_get, .instanceMethod yX2_get, .selects RX2 yX2_get yX2_get, .code yX2_get cX2_get 2 (some .int)] ++ wsX30 ++ wsX20)
def wsX4_placeWords_r1 : List Cond := [Cond.fieldLink RX4 33 "WhiteRivers$Page" "words" "I", Cond.fieldLink RX4 14 "WhiteRivers$Sheet" "columns" "LWhiteRivers$Row;", Cond.fieldLink RX4 20 "WhiteRivers$Sheet" "gapColumns" "LWhiteRivers$Row;", Cond.fieldLink RX4 23 "WhiteRivers$Sheet" "gapWidths" "LWhiteRivers$Row;", Cond.methodLink RX4 64 yX1_extra, Cond.instanceMethod yX1_extra, Cond.selects RX1 yX1_extra yX1_extra, Cond.initialized RX1, Cond.code yX1_extra cX1_extra 5 (some .int), Cond.fieldLink RX1 9 "WhiteRivers$Page" "width" "I", Cond.fieldLink RX1 26 "WhiteRivers$Page" "lengths" "LWhiteRivers$Row;", Cond.methodLink RX1 47 yX2_get, Cond.instanceMethod yX2_get, Cond.selects RX2 yX2_get yX2_get, Cond.initialized RX2, Cond.code yX2_get cX2_get 2 (some .int), Cond.fieldLink RX2 13 "WhiteRivers$Row" "cells" "[I", Cond.methodLink RX4 54 yX2_set, Cond.instanceMethod yX2_set, Cond.selects RX2 yX2_set yX2_set, Cond.code yX2_set cX2_set 3 none, Cond.methodLink RX4 67 yX1_lengthOf, Cond.instanceMethod yX1_lengthOf, Cond.selects RX1 yX1_lengthOf yX1_lengthOf]
def wsX4_placeWords_r2 : List Cond := [Cond.code yX1_lengthOf cX1_lengthOf 2 (some .int)]
def wsX4_placeWords : List Cond := .code yX4_placeWords cX4_placeWords 11 none :: ((wsX4_placeWords_r1 ++ wsX4_placeWords_r2) ++ wsX10 ++ wsX40 ++ wsX20)
def wsX4_meet : List Cond := .code yX4_meet cX4_meet 7 (some .boolean) :: ([.fieldLink RX4 20 "WhiteRivers$Sheet" "gapColumns" "LWhiteRivers$Row;", .fieldLink RX4 23 "WhiteRivers$Sheet" "gapWidths" "LWhiteRivers$Row;", .methodLink RX4 58 Lib.Math.max.name, .static Lib.Math.max.name, .initialized "java/lang/Math", .code Lib.Math.max.name Lib.Math.max.code 2 (some .int), .methodLink RX4 74 Lib.Math.min.name, .static Lib.Math.min.name, .code Lib.Math.min.name Lib.Math.min.code 2 (some .int), .methodLink RX4 29 yX2_get, .instanceMethod yX2_get, .selects RX2 yX2_get yX2_get, .initialized RX2, .code yX2_get cX2_get 2 (some .int), .fieldLink RX2 13 "WhiteRivers$Row" "cells" "[I"] ++ wsX40 ++ wsX20)
def wsX4_reachAbove : List Cond := .code yX4_reachAbove cX4_reachAbove 6 (some .int) :: ([.fieldLink RX4 26 "WhiteRivers$Sheet" "reaches" "LWhiteRivers$Row;", .methodLink RX4 58 Lib.Math.max.name, .static Lib.Math.max.name, .initialized "java/lang/Math", .code Lib.Math.max.name Lib.Math.max.code 2 (some .int), .methodLink RX4 70 yX4_meet, .instanceMethod yX4_meet, .selects RX4 yX4_meet yX4_meet, .initialized RX4, .code yX4_meet cX4_meet 7 (some .boolean), .fieldLink RX4 20 "WhiteRivers$Sheet" "gapColumns" "LWhiteRivers$Row;", .fieldLink RX4 23 "WhiteRivers$Sheet" "gapWidths" "LWhiteRivers$Row;", .methodLink RX4 74 Lib.Math.min.name, .static Lib.Math.min.name, .code Lib.Math.min.name Lib.Math.min.code 2 (some .int), .methodLink RX4 29 yX2_get, .instanceMethod yX2_get, .selects RX2 yX2_get yX2_get, .initialized RX2, .code yX2_get cX2_get 2 (some .int), .fieldLink RX2 13 "WhiteRivers$Row" "cells" "[I"] ++ wsX40 ++ wsX20)
def wsX4_layLine_r1 : List Cond := [Cond.fieldLink RX4 26 "WhiteRivers$Sheet" "reaches" "LWhiteRivers$Row;", Cond.methodLink RX4 58 Lib.Math.max.name, Cond.static Lib.Math.max.name, Cond.initialized "java/lang/Math", Cond.code Lib.Math.max.name Lib.Math.max.code 2 (some .int), Cond.methodLink RX4 46 yX4_placeWords, Cond.instanceMethod yX4_placeWords, Cond.selects RX4 yX4_placeWords yX4_placeWords, Cond.initialized RX4, Cond.code yX4_placeWords cX4_placeWords 11 none, Cond.fieldLink RX4 33 "WhiteRivers$Page" "words" "I", Cond.fieldLink RX4 14 "WhiteRivers$Sheet" "columns" "LWhiteRivers$Row;", Cond.fieldLink RX4 20 "WhiteRivers$Sheet" "gapColumns" "LWhiteRivers$Row;", Cond.fieldLink RX4 23 "WhiteRivers$Sheet" "gapWidths" "LWhiteRivers$Row;", Cond.methodLink RX4 64 yX1_extra, Cond.instanceMethod yX1_extra, Cond.selects RX1 yX1_extra yX1_extra, Cond.initialized RX1, Cond.code yX1_extra cX1_extra 5 (some .int), Cond.fieldLink RX1 9 "WhiteRivers$Page" "width" "I", Cond.fieldLink RX1 26 "WhiteRivers$Page" "lengths" "LWhiteRivers$Row;", Cond.methodLink RX1 47 yX2_get, Cond.instanceMethod yX2_get, Cond.selects RX2 yX2_get yX2_get]
def wsX4_layLine_r2 : List Cond := [Cond.initialized RX2, Cond.code yX2_get cX2_get 2 (some .int), Cond.fieldLink RX2 13 "WhiteRivers$Row" "cells" "[I", Cond.methodLink RX4 54 yX2_set, Cond.instanceMethod yX2_set, Cond.selects RX2 yX2_set yX2_set, Cond.code yX2_set cX2_set 3 none, Cond.methodLink RX4 67 yX1_lengthOf, Cond.instanceMethod yX1_lengthOf, Cond.selects RX1 yX1_lengthOf yX1_lengthOf, Cond.code yX1_lengthOf cX1_lengthOf 2 (some .int), Cond.methodLink RX4 50 yX4_reachAbove, Cond.instanceMethod yX4_reachAbove, Cond.selects RX4 yX4_reachAbove yX4_reachAbove, Cond.code yX4_reachAbove cX4_reachAbove 6 (some .int), Cond.methodLink RX4 70 yX4_meet, Cond.instanceMethod yX4_meet, Cond.selects RX4 yX4_meet yX4_meet, Cond.code yX4_meet cX4_meet 7 (some .boolean), Cond.methodLink RX4 74 Lib.Math.min.name, Cond.static Lib.Math.min.name, Cond.code Lib.Math.min.name Lib.Math.min.code 2 (some .int), Cond.methodLink RX4 29 yX2_get]
def wsX4_layLine : List Cond := .code yX4_layLine cX4_layLine 8 (some .int) :: ((wsX4_layLine_r1 ++ wsX4_layLine_r2) ++ wsX40 ++ wsX10 ++ wsX20)
def wsX3_tryLines_r1 : List Cond := [Cond.fieldLink RX3 28 "WhiteRivers$Search" "page" "LWhiteRivers$Page;", Cond.fieldLink RX3 79 "WhiteRivers$Page" "words" "I", Cond.fieldLink RX3 44 "WhiteRivers$Search" "prices" "LWhiteRivers$Row;", Cond.fieldLink RX3 19 "WhiteRivers$Search" "bestPrice" "I", Cond.fieldLink RX3 48 "WhiteRivers$Search" "leastPrices" "LWhiteRivers$Row;", Cond.fieldLink RX3 35 "WhiteRivers$Search" "sheet" "LWhiteRivers$Sheet;", Cond.fieldLink RX3 22 "WhiteRivers$Search" "limit" "I", Cond.fieldLink RX3 51 "WhiteRivers$Search" "tried" "LWhiteRivers$Row;", Cond.methodLink RX3 129 Lib.Math.max.name, Cond.static Lib.Math.max.name, Cond.initialized "java/lang/Math", Cond.code Lib.Math.max.name Lib.Math.max.code 2 (some .int), Cond.methodLink RX3 121 yX3_keepTried, Cond.instanceMethod yX3_keepTried, Cond.selects RX3 yX3_keepTried yX3_keepTried, Cond.initialized RX3, Cond.code yX3_keepTried cX3_keepTried 4 none, Cond.fieldLink RX3 9 "WhiteRivers$Search" "bestLines" "I", Cond.fieldLink RX3 15 "WhiteRivers$Search" "bestRiver" "I", Cond.fieldLink RX3 54 "WhiteRivers$Search" "best" "LWhiteRivers$Row;", Cond.methodLink RX3 118 yX2_copyFrom, Cond.instanceMethod yX2_copyFrom, Cond.selects RX2 yX2_copyFrom yX2_copyFrom, Cond.initialized RX2]
def wsX3_tryLines_r2 : List Cond := [Cond.code yX2_copyFrom cX2_copyFrom 3 none, Cond.fieldLink RX2 13 "WhiteRivers$Row" "cells" "[I", Cond.methodLink RX2 19 yX2_get, Cond.instanceMethod yX2_get, Cond.selects RX2 yX2_get yX2_get, Cond.code yX2_get cX2_get 2 (some .int), Cond.methodLink RX3 90 yX3_cellOf, Cond.static yX3_cellOf, Cond.code yX3_cellOf cX3_cellOf 2 (some .int), Cond.methodLink RX3 69 yX2_get, Cond.methodLink RX3 125 yX4_layLine, Cond.instanceMethod yX4_layLine, Cond.selects RX4 yX4_layLine yX4_layLine, Cond.initialized RX4, Cond.code yX4_layLine cX4_layLine 8 (some .int), Cond.fieldLink RX4 26 "WhiteRivers$Sheet" "reaches" "LWhiteRivers$Row;", Cond.methodLink RX4 58 Lib.Math.max.name, Cond.methodLink RX4 46 yX4_placeWords, Cond.instanceMethod yX4_placeWords, Cond.selects RX4 yX4_placeWords yX4_placeWords, Cond.code yX4_placeWords cX4_placeWords 11 none, Cond.fieldLink RX4 33 "WhiteRivers$Page" "words" "I", Cond.fieldLink RX4 14 "WhiteRivers$Sheet" "columns" "LWhiteRivers$Row;", Cond.fieldLink RX4 20 "WhiteRivers$Sheet" "gapColumns" "LWhiteRivers$Row;"]
def wsX3_tryLines_r3 : List Cond := [Cond.fieldLink RX4 23 "WhiteRivers$Sheet" "gapWidths" "LWhiteRivers$Row;", Cond.methodLink RX4 64 yX1_extra, Cond.instanceMethod yX1_extra, Cond.selects RX1 yX1_extra yX1_extra, Cond.initialized RX1, Cond.code yX1_extra cX1_extra 5 (some .int), Cond.fieldLink RX1 9 "WhiteRivers$Page" "width" "I", Cond.fieldLink RX1 26 "WhiteRivers$Page" "lengths" "LWhiteRivers$Row;", Cond.methodLink RX1 47 yX2_get, Cond.methodLink RX4 54 yX2_set, Cond.instanceMethod yX2_set, Cond.selects RX2 yX2_set yX2_set, Cond.code yX2_set cX2_set 3 none, Cond.methodLink RX4 67 yX1_lengthOf, Cond.instanceMethod yX1_lengthOf, Cond.selects RX1 yX1_lengthOf yX1_lengthOf, Cond.code yX1_lengthOf cX1_lengthOf 2 (some .int), Cond.methodLink RX4 50 yX4_reachAbove, Cond.instanceMethod yX4_reachAbove, Cond.selects RX4 yX4_reachAbove yX4_reachAbove, Cond.code yX4_reachAbove cX4_reachAbove 6 (some .int), Cond.methodLink RX4 70 yX4_meet, Cond.instanceMethod yX4_meet, Cond.selects RX4 yX4_meet yX4_meet]
def wsX3_tryLines_r4 : List Cond := [Cond.code yX4_meet cX4_meet 7 (some .boolean), Cond.methodLink RX4 74 Lib.Math.min.name, Cond.static Lib.Math.min.name, Cond.code Lib.Math.min.name Lib.Math.min.code 2 (some .int), Cond.methodLink RX4 29 yX2_get, Cond.methodLink RX3 82 yX2_set, Cond.methodLink RX3 64 yX3_tryLines, Cond.static yX3_tryLines]
def wsX3_tryLines : List Cond := .code yX3_tryLines cX3_tryLines 9 none :: ((wsX3_tryLines_r1 ++ (wsX3_tryLines_r2 ++ (wsX3_tryLines_r3 ++ wsX3_tryLines_r4))) ++ wsX30 ++ wsX10 ++ wsX20 ++ wsX40)
def wsX3_solve_r1 : List Cond := [Cond.fieldLink RX3 22 "WhiteRivers$Search" "limit" "I", Cond.fieldLink RX3 28 "WhiteRivers$Search" "page" "LWhiteRivers$Page;", Cond.constant RX3 18 (1000000000), Cond.fieldLink RX3 19 "WhiteRivers$Search" "bestPrice" "I", Cond.fieldLink RX3 9 "WhiteRivers$Search" "bestLines" "I", Cond.fieldLink RX3 15 "WhiteRivers$Search" "bestRiver" "I", Cond.methodLink RX3 57 yX1_copyFrom, Cond.instanceMethod yX1_copyFrom, Cond.selects RX1 yX1_copyFrom yX1_copyFrom, Cond.initialized RX1, Cond.code yX1_copyFrom cX1_copyFrom 2 none, Cond.fieldLink RX1 9 "WhiteRivers$Page" "width" "I", Cond.fieldLink RX1 15 "WhiteRivers$Page" "slack" "I", Cond.fieldLink RX1 18 "WhiteRivers$Page" "words" "I", Cond.fieldLink RX1 26 "WhiteRivers$Page" "lengths" "LWhiteRivers$Row;", Cond.fieldLink RX1 30 "WhiteRivers$Page" "begins" "LWhiteRivers$Row;", Cond.fieldLink RX1 33 "WhiteRivers$Page" "frozen" "LWhiteRivers$Row;", Cond.methodLink RX1 36 yX2_copyFrom, Cond.instanceMethod yX2_copyFrom, Cond.selects RX2 yX2_copyFrom yX2_copyFrom, Cond.initialized RX2, Cond.code yX2_copyFrom cX2_copyFrom 3 none, Cond.fieldLink RX2 13 "WhiteRivers$Row" "cells" "[I", Cond.methodLink RX2 19 yX2_get]
def wsX3_solve_r2 : List Cond := [Cond.instanceMethod yX2_get, Cond.selects RX2 yX2_get yX2_get, Cond.code yX2_get cX2_get 2 (some .int), Cond.methodLink RX3 61 yX3_setPrices, Cond.instanceMethod yX3_setPrices, Cond.selects RX3 yX3_setPrices yX3_setPrices, Cond.initialized RX3, Cond.code yX3_setPrices cX3_setPrices 5 none, Cond.fieldLink RX3 48 "WhiteRivers$Search" "leastPrices" "LWhiteRivers$Row;", Cond.fieldLink RX3 79 "WhiteRivers$Page" "words" "I", Cond.fieldLink RX3 44 "WhiteRivers$Search" "prices" "LWhiteRivers$Row;", Cond.methodLink RX3 93 Lib.Math.min.name, Cond.static Lib.Math.min.name, Cond.initialized "java/lang/Math", Cond.code Lib.Math.min.name Lib.Math.min.code 2 (some .int), Cond.methodLink RX3 82 yX2_set, Cond.instanceMethod yX2_set, Cond.selects RX2 yX2_set yX2_set, Cond.code yX2_set cX2_set 3 none, Cond.methodLink RX3 86 yX3_priceOf, Cond.instanceMethod yX3_priceOf, Cond.selects RX3 yX3_priceOf yX3_priceOf, Cond.code yX3_priceOf cX3_priceOf 5 (some .int), Cond.fieldLink RX3 112 "WhiteRivers$Page" "slack" "I"]
def wsX3_solve_r3 : List Cond := [Cond.constant RX3 68 (100000), Cond.methodLink RX3 98 yX1_isLine, Cond.instanceMethod yX1_isLine, Cond.selects RX1 yX1_isLine yX1_isLine, Cond.code yX1_isLine cX1_isLine 3 (some .boolean), Cond.methodLink RX1 47 yX2_get, Cond.methodLink RX1 55 yX1_endOf, Cond.instanceMethod yX1_endOf, Cond.selects RX1 yX1_endOf yX1_endOf, Cond.code yX1_endOf cX1_endOf 3 (some .int), Cond.methodLink RX3 102 yX1_extra, Cond.instanceMethod yX1_extra, Cond.selects RX1 yX1_extra yX1_extra, Cond.code yX1_extra cX1_extra 5 (some .int), Cond.methodLink RX3 105 yX1_hasFrozen, Cond.instanceMethod yX1_hasFrozen, Cond.selects RX1 yX1_hasFrozen yX1_hasFrozen, Cond.code yX1_hasFrozen cX1_hasFrozen 4 (some .boolean), Cond.methodLink RX1 58 yX1_isFrozen, Cond.instanceMethod yX1_isFrozen, Cond.selects RX1 yX1_isFrozen yX1_isFrozen, Cond.code yX1_isFrozen cX1_isFrozen 2 (some .boolean), Cond.methodLink RX3 108 yX1_isFrozen, Cond.methodLink RX3 115 yX1_badness]
def wsX3_solve_r4 : List Cond := [Cond.instanceMethod yX1_badness, Cond.selects RX1 yX1_badness yX1_badness, Cond.code yX1_badness cX1_badness 4 (some .int), Cond.methodLink RX1 62 yX1_extra, Cond.methodLink RX3 90 yX3_cellOf, Cond.static yX3_cellOf, Cond.code yX3_cellOf cX3_cellOf 2 (some .int), Cond.methodLink RX3 69 yX2_get, Cond.methodLink RX3 64 yX3_tryLines, Cond.static yX3_tryLines, Cond.code yX3_tryLines cX3_tryLines 9 none, Cond.fieldLink RX3 35 "WhiteRivers$Search" "sheet" "LWhiteRivers$Sheet;", Cond.fieldLink RX3 51 "WhiteRivers$Search" "tried" "LWhiteRivers$Row;", Cond.methodLink RX3 129 Lib.Math.max.name, Cond.static Lib.Math.max.name, Cond.code Lib.Math.max.name Lib.Math.max.code 2 (some .int), Cond.methodLink RX3 121 yX3_keepTried, Cond.instanceMethod yX3_keepTried, Cond.selects RX3 yX3_keepTried yX3_keepTried, Cond.code yX3_keepTried cX3_keepTried 4 none, Cond.fieldLink RX3 54 "WhiteRivers$Search" "best" "LWhiteRivers$Row;", Cond.methodLink RX3 118 yX2_copyFrom, Cond.methodLink RX3 125 yX4_layLine, Cond.instanceMethod yX4_layLine]
def wsX3_solve_r5 : List Cond := [Cond.selects RX4 yX4_layLine yX4_layLine, Cond.initialized RX4, Cond.code yX4_layLine cX4_layLine 8 (some .int), Cond.fieldLink RX4 26 "WhiteRivers$Sheet" "reaches" "LWhiteRivers$Row;", Cond.methodLink RX4 58 Lib.Math.max.name, Cond.methodLink RX4 46 yX4_placeWords, Cond.instanceMethod yX4_placeWords, Cond.selects RX4 yX4_placeWords yX4_placeWords, Cond.code yX4_placeWords cX4_placeWords 11 none, Cond.fieldLink RX4 33 "WhiteRivers$Page" "words" "I", Cond.fieldLink RX4 14 "WhiteRivers$Sheet" "columns" "LWhiteRivers$Row;", Cond.fieldLink RX4 20 "WhiteRivers$Sheet" "gapColumns" "LWhiteRivers$Row;", Cond.fieldLink RX4 23 "WhiteRivers$Sheet" "gapWidths" "LWhiteRivers$Row;", Cond.methodLink RX4 64 yX1_extra, Cond.methodLink RX4 54 yX2_set, Cond.methodLink RX4 67 yX1_lengthOf, Cond.instanceMethod yX1_lengthOf, Cond.selects RX1 yX1_lengthOf yX1_lengthOf, Cond.code yX1_lengthOf cX1_lengthOf 2 (some .int), Cond.methodLink RX4 50 yX4_reachAbove, Cond.instanceMethod yX4_reachAbove, Cond.selects RX4 yX4_reachAbove yX4_reachAbove, Cond.code yX4_reachAbove cX4_reachAbove 6 (some .int), Cond.methodLink RX4 70 yX4_meet]
def wsX3_solve_r6 : List Cond := [Cond.instanceMethod yX4_meet, Cond.selects RX4 yX4_meet yX4_meet, Cond.code yX4_meet cX4_meet 7 (some .boolean), Cond.methodLink RX4 74 Lib.Math.min.name, Cond.methodLink RX4 29 yX2_get]
def wsX3_solve : List Cond := .code yX3_solve cX3_solve 3 none :: ((wsX3_solve_r1 ++ (wsX3_solve_r2 ++ (wsX3_solve_r3 ++ (wsX3_solve_r4 ++ (wsX3_solve_r5 ++ wsX3_solve_r6))))) ++ wsX30 ++ wsX10 ++ wsX20 ++ wsX40)
def wsX3_hasFound : List Cond := .code yX3_hasFound cX3_hasFound 1 (some .boolean) :: ([.fieldLink RX3 19 "WhiteRivers$Search" "bestPrice" "I", .constant RX3 18 (1000000000)] ++ wsX30)
def wsX3_bestChanged : List Cond := .code yX3_bestChanged cX3_bestChanged 1 (some .int) :: ([.fieldLink RX3 19 "WhiteRivers$Search" "bestPrice" "I", .constant RX3 68 (100000)] ++ wsX30)
def wsX3_bestBadness : List Cond := .code yX3_bestBadness cX3_bestBadness 1 (some .int) :: ([.fieldLink RX3 19 "WhiteRivers$Search" "bestPrice" "I", .constant RX3 68 (100000)] ++ wsX30)
def wsX3_bestWords : List Cond := .code yX3_bestWords cX3_bestWords 2 (some .int) :: ([.fieldLink RX3 54 "WhiteRivers$Search" "best" "LWhiteRivers$Row;", .methodLink RX3 69 yX2_get, .instanceMethod yX2_get, .selects RX2 yX2_get yX2_get, .initialized RX2, .code yX2_get cX2_get 2 (some .int), .fieldLink RX2 13 "WhiteRivers$Row" "cells" "[I"] ++ wsX30 ++ wsX20)
def wsX3_divide_r1 : List Cond := [Cond.fieldLink RX3 9 "WhiteRivers$Search" "bestLines" "I", Cond.fieldLink RX3 54 "WhiteRivers$Search" "best" "LWhiteRivers$Row;", Cond.methodLink RX3 73 yX1_joinAll, Cond.instanceMethod yX1_joinAll, Cond.selects RX1 yX1_joinAll yX1_joinAll, Cond.initialized RX1, Cond.code yX1_joinAll cX1_joinAll 1 none, Cond.fieldLink RX1 30 "WhiteRivers$Page" "begins" "LWhiteRivers$Row;", Cond.methodLink RX1 40 yX2_clear, Cond.instanceMethod yX2_clear, Cond.selects RX2 yX2_clear yX2_clear, Cond.initialized RX2, Cond.code yX2_clear cX2_clear 2 none, Cond.fieldLink RX2 13 "WhiteRivers$Row" "cells" "[I", Cond.methodLink RX3 76 yX1_begin, Cond.instanceMethod yX1_begin, Cond.selects RX1 yX1_begin yX1_begin, Cond.code yX1_begin cX1_begin 2 none, Cond.fieldLink RX1 18 "WhiteRivers$Page" "words" "I", Cond.methodLink RX1 43 yX2_set, Cond.instanceMethod yX2_set, Cond.selects RX2 yX2_set yX2_set, Cond.code yX2_set cX2_set 3 none, Cond.methodLink RX3 69 yX2_get]
def wsX3_divide_r2 : List Cond := [Cond.instanceMethod yX2_get, Cond.selects RX2 yX2_get yX2_get, Cond.code yX2_get cX2_get 2 (some .int)]
def wsX3_divide : List Cond := .code yX3_divide cX3_divide 4 none :: ((wsX3_divide_r1 ++ wsX3_divide_r2) ++ wsX30 ++ wsX10 ++ wsX20)
def wsX4_columnOf : List Cond := .code yX4_columnOf cX4_columnOf 2 (some .int) :: ([.fieldLink RX4 14 "WhiteRivers$Sheet" "columns" "LWhiteRivers$Row;", .methodLink RX4 29 yX2_get, .instanceMethod yX2_get, .selects RX2 yX2_get yX2_get, .initialized RX2, .code yX2_get cX2_get 2 (some .int), .fieldLink RX2 13 "WhiteRivers$Row" "cells" "[I"] ++ wsX40 ++ wsX20)
def wsX4_gapColumn : List Cond := .code yX4_gapColumn cX4_gapColumn 2 (some .int) :: ([.fieldLink RX4 20 "WhiteRivers$Sheet" "gapColumns" "LWhiteRivers$Row;", .methodLink RX4 29 yX2_get, .instanceMethod yX2_get, .selects RX2 yX2_get yX2_get, .initialized RX2, .code yX2_get cX2_get 2 (some .int), .fieldLink RX2 13 "WhiteRivers$Row" "cells" "[I"] ++ wsX40 ++ wsX20)
def wsX4_gapWidth : List Cond := .code yX4_gapWidth cX4_gapWidth 2 (some .int) :: ([.fieldLink RX4 23 "WhiteRivers$Sheet" "gapWidths" "LWhiteRivers$Row;", .methodLink RX4 29 yX2_get, .instanceMethod yX2_get, .selects RX2 yX2_get yX2_get, .initialized RX2, .code yX2_get cX2_get 2 (some .int), .fieldLink RX2 13 "WhiteRivers$Row" "cells" "[I"] ++ wsX40 ++ wsX20)
def wsX4_reachOf : List Cond := .code yX4_reachOf cX4_reachOf 2 (some .int) :: ([.fieldLink RX4 26 "WhiteRivers$Sheet" "reaches" "LWhiteRivers$Row;", .methodLink RX4 29 yX2_get, .instanceMethod yX2_get, .selects RX2 yX2_get yX2_get, .initialized RX2, .code yX2_get cX2_get 2 (some .int), .fieldLink RX2 13 "WhiteRivers$Row" "cells" "[I"] ++ wsX40 ++ wsX20)
def wsX4_layAll_r1 : List Cond := [Cond.fieldLink RX4 33 "WhiteRivers$Page" "words" "I", Cond.methodLink RX4 39 yX1_endOf, Cond.instanceMethod yX1_endOf, Cond.selects RX1 yX1_endOf yX1_endOf, Cond.initialized RX1, Cond.code yX1_endOf cX1_endOf 3 (some .int), Cond.fieldLink RX1 18 "WhiteRivers$Page" "words" "I", Cond.fieldLink RX1 30 "WhiteRivers$Page" "begins" "LWhiteRivers$Row;", Cond.methodLink RX1 47 yX2_get, Cond.instanceMethod yX2_get, Cond.selects RX2 yX2_get yX2_get, Cond.initialized RX2, Cond.code yX2_get cX2_get 2 (some .int), Cond.fieldLink RX2 13 "WhiteRivers$Row" "cells" "[I", Cond.methodLink RX4 42 yX4_layLine, Cond.instanceMethod yX4_layLine, Cond.selects RX4 yX4_layLine yX4_layLine, Cond.initialized RX4, Cond.code yX4_layLine cX4_layLine 8 (some .int), Cond.fieldLink RX4 26 "WhiteRivers$Sheet" "reaches" "LWhiteRivers$Row;", Cond.methodLink RX4 58 Lib.Math.max.name, Cond.static Lib.Math.max.name, Cond.initialized "java/lang/Math", Cond.code Lib.Math.max.name Lib.Math.max.code 2 (some .int)]
def wsX4_layAll_r2 : List Cond := [Cond.methodLink RX4 46 yX4_placeWords, Cond.instanceMethod yX4_placeWords, Cond.selects RX4 yX4_placeWords yX4_placeWords, Cond.code yX4_placeWords cX4_placeWords 11 none, Cond.fieldLink RX4 14 "WhiteRivers$Sheet" "columns" "LWhiteRivers$Row;", Cond.fieldLink RX4 20 "WhiteRivers$Sheet" "gapColumns" "LWhiteRivers$Row;", Cond.fieldLink RX4 23 "WhiteRivers$Sheet" "gapWidths" "LWhiteRivers$Row;", Cond.methodLink RX4 64 yX1_extra, Cond.instanceMethod yX1_extra, Cond.selects RX1 yX1_extra yX1_extra, Cond.code yX1_extra cX1_extra 5 (some .int), Cond.fieldLink RX1 9 "WhiteRivers$Page" "width" "I", Cond.fieldLink RX1 26 "WhiteRivers$Page" "lengths" "LWhiteRivers$Row;", Cond.methodLink RX4 54 yX2_set, Cond.instanceMethod yX2_set, Cond.selects RX2 yX2_set yX2_set, Cond.code yX2_set cX2_set 3 none, Cond.methodLink RX4 67 yX1_lengthOf, Cond.instanceMethod yX1_lengthOf, Cond.selects RX1 yX1_lengthOf yX1_lengthOf, Cond.code yX1_lengthOf cX1_lengthOf 2 (some .int), Cond.methodLink RX4 50 yX4_reachAbove, Cond.instanceMethod yX4_reachAbove, Cond.selects RX4 yX4_reachAbove yX4_reachAbove]
def wsX4_layAll_r3 : List Cond := [Cond.code yX4_reachAbove cX4_reachAbove 6 (some .int), Cond.methodLink RX4 70 yX4_meet, Cond.instanceMethod yX4_meet, Cond.selects RX4 yX4_meet yX4_meet, Cond.code yX4_meet cX4_meet 7 (some .boolean), Cond.methodLink RX4 74 Lib.Math.min.name, Cond.static Lib.Math.min.name, Cond.code Lib.Math.min.name Lib.Math.min.code 2 (some .int), Cond.methodLink RX4 29 yX2_get]
def wsX4_layAll : List Cond := .code yX4_layAll cX4_layAll 6 none :: ((wsX4_layAll_r1 ++ (wsX4_layAll_r2 ++ wsX4_layAll_r3)) ++ wsX10 ++ wsX20 ++ wsX40)
def wsX4_gapsThatMeet : List Cond := .code yX4_gapsThatMeet cX4_gapsThatMeet 6 (some .int) :: ([.methodLink RX4 70 yX4_meet, .instanceMethod yX4_meet, .selects RX4 yX4_meet yX4_meet, .initialized RX4, .code yX4_meet cX4_meet 7 (some .boolean), .fieldLink RX4 20 "WhiteRivers$Sheet" "gapColumns" "LWhiteRivers$Row;", .fieldLink RX4 23 "WhiteRivers$Sheet" "gapWidths" "LWhiteRivers$Row;", .methodLink RX4 58 Lib.Math.max.name, .static Lib.Math.max.name, .initialized "java/lang/Math", .code Lib.Math.max.name Lib.Math.max.code 2 (some .int), .methodLink RX4 74 Lib.Math.min.name, .static Lib.Math.min.name, .code Lib.Math.min.name Lib.Math.min.code 2 (some .int), .methodLink RX4 29 yX2_get, .instanceMethod yX2_get, .selects RX2 yX2_get yX2_get, .initialized RX2, .code yX2_get cX2_get 2 (some .int), .fieldLink RX2 13 "WhiteRivers$Row" "cells" "[I"] ++ wsX40 ++ wsX20)
def wsX4_greatestReach : List Cond := .code yX4_greatestReach cX4_greatestReach 5 (some .int) :: ([.fieldLink RX4 26 "WhiteRivers$Sheet" "reaches" "LWhiteRivers$Row;", .methodLink RX4 58 Lib.Math.max.name, .static Lib.Math.max.name, .initialized "java/lang/Math", .code Lib.Math.max.name Lib.Math.max.code 2 (some .int), .methodLink RX4 29 yX2_get, .instanceMethod yX2_get, .selects RX2 yX2_get yX2_get, .initialized RX2, .code yX2_get cX2_get 2 (some .int), .fieldLink RX2 13 "WhiteRivers$Row" "cells" "[I"] ++ wsX40 ++ wsX20)
def wsX4_gapsOfGreatestReach : List Cond := .code yX4_gapsOfGreatestReach cX4_gapsOfGreatestReach 5 (some .int) :: ([.fieldLink RX4 26 "WhiteRivers$Sheet" "reaches" "LWhiteRivers$Row;", .methodLink RX4 77 yX4_greatestReach, .instanceMethod yX4_greatestReach, .selects RX4 yX4_greatestReach yX4_greatestReach, .initialized RX4, .code yX4_greatestReach cX4_greatestReach 5 (some .int), .methodLink RX4 58 Lib.Math.max.name, .static Lib.Math.max.name, .initialized "java/lang/Math", .code Lib.Math.max.name Lib.Math.max.code 2 (some .int), .methodLink RX4 29 yX2_get, .instanceMethod yX2_get, .selects RX2 yX2_get yX2_get, .initialized RX2, .code yX2_get cX2_get 2 (some .int), .fieldLink RX2 13 "WhiteRivers$Row" "cells" "[I"] ++ wsX40 ++ wsX20)
def wsX4_firstOfReach : List Cond := .code yX4_firstOfReach cX4_firstOfReach 5 (some .int) :: ([.fieldLink RX4 26 "WhiteRivers$Sheet" "reaches" "LWhiteRivers$Row;", .methodLink RX4 29 yX2_get, .instanceMethod yX2_get, .selects RX2 yX2_get yX2_get, .initialized RX2, .code yX2_get cX2_get 2 (some .int), .fieldLink RX2 13 "WhiteRivers$Row" "cells" "[I"] ++ wsX40 ++ wsX20)
def wsX4_joints_r1 : List Cond := [Cond.fieldLink RX4 33 "WhiteRivers$Page" "words" "I", Cond.methodLink RX4 80 yX1_lineOf, Cond.instanceMethod yX1_lineOf, Cond.selects RX1 yX1_lineOf yX1_lineOf, Cond.initialized RX1, Cond.code yX1_lineOf cX1_lineOf 4 (some .int), Cond.fieldLink RX1 18 "WhiteRivers$Page" "words" "I", Cond.fieldLink RX1 30 "WhiteRivers$Page" "begins" "LWhiteRivers$Row;", Cond.methodLink RX1 47 yX2_get, Cond.instanceMethod yX2_get, Cond.selects RX2 yX2_get yX2_get, Cond.initialized RX2, Cond.code yX2_get cX2_get 2 (some .int), Cond.fieldLink RX2 13 "WhiteRivers$Row" "cells" "[I", Cond.methodLink RX4 83 yX1_firstOf, Cond.instanceMethod yX1_firstOf, Cond.selects RX1 yX1_firstOf yX1_firstOf, Cond.code yX1_firstOf cX1_firstOf 4 (some .int), Cond.methodLink RX4 86 yX4_gapsThatMeet, Cond.instanceMethod yX4_gapsThatMeet, Cond.selects RX4 yX4_gapsThatMeet yX4_gapsThatMeet, Cond.initialized RX4, Cond.code yX4_gapsThatMeet cX4_gapsThatMeet 6 (some .int), Cond.methodLink RX4 70 yX4_meet]
def wsX4_joints_r2 : List Cond := [Cond.instanceMethod yX4_meet, Cond.selects RX4 yX4_meet yX4_meet, Cond.code yX4_meet cX4_meet 7 (some .boolean), Cond.fieldLink RX4 20 "WhiteRivers$Sheet" "gapColumns" "LWhiteRivers$Row;", Cond.fieldLink RX4 23 "WhiteRivers$Sheet" "gapWidths" "LWhiteRivers$Row;", Cond.methodLink RX4 58 Lib.Math.max.name, Cond.static Lib.Math.max.name, Cond.initialized "java/lang/Math", Cond.code Lib.Math.max.name Lib.Math.max.code 2 (some .int), Cond.methodLink RX4 74 Lib.Math.min.name, Cond.static Lib.Math.min.name, Cond.code Lib.Math.min.name Lib.Math.min.code 2 (some .int), Cond.methodLink RX4 29 yX2_get]
def wsX4_joints : List Cond := .code yX4_joints cX4_joints 5 (some .int) :: ((wsX4_joints_r1 ++ wsX4_joints_r2) ++ wsX10 ++ wsX20 ++ wsX40)
def wsX5_init : List Cond := .code yX5_init cX5_init 1 none :: ([.methodLink RX5 3 objectInit, .instanceMethod objectInit, .code objectInit ⟨#[0xb1]⟩ 1 none, .fieldLink RX5 9 "WhiteRivers$Text" "length" "I", .classLink RX5 15 RX2, .instantiable RX2 1, .initialized RX2, .fieldLink RX5 20 "WhiteRivers$Text" "characters" "LWhiteRivers$Row;", .methodLink RX5 17 yX2_init, .instanceMethod yX2_init, .code yX2_init cX2_init 2 none, .methodLink RX2 1 objectInit, .methodLink RX2 7 Lib.Math.max.name, .static Lib.Math.max.name, .initialized "java/lang/Math", .code Lib.Math.max.name Lib.Math.max.code 2 (some .int), .arrayClass .int, .fieldLink RX2 13 "WhiteRivers$Row" "cells" "[I"] ++ wsX50 ++ wsX20)
def wsX5_append : List Cond := .code yX5_append cX5_append 2 none :: ([.fieldLink RX5 20 "WhiteRivers$Text" "characters" "LWhiteRivers$Row;", .fieldLink RX5 9 "WhiteRivers$Text" "length" "I", .methodLink RX5 24 yX2_set, .instanceMethod yX2_set, .selects RX2 yX2_set yX2_set, .initialized RX2, .code yX2_set cX2_set 3 none, .fieldLink RX2 13 "WhiteRivers$Row" "cells" "[I"] ++ wsX50 ++ wsX20)
def wsX5_firstFault : List Cond := .code yX5_firstFault cX5_firstFault 4 (some .int) :: ([.fieldLink RX5 9 "WhiteRivers$Text" "length" "I", .fieldLink RX5 20 "WhiteRivers$Text" "characters" "LWhiteRivers$Row;", .methodLink RX5 28 yX2_get, .instanceMethod yX2_get, .selects RX2 yX2_get yX2_get, .initialized RX2, .code yX2_get cX2_get 2 (some .int), .fieldLink RX2 13 "WhiteRivers$Row" "cells" "[I"] ++ wsX50 ++ wsX20)
def wsX5_giveWords_r1 : List Cond := [Cond.fieldLink RX5 9 "WhiteRivers$Text" "length" "I", Cond.fieldLink RX5 20 "WhiteRivers$Text" "characters" "LWhiteRivers$Row;", Cond.methodLink RX5 32 yX1_removeAll, Cond.instanceMethod yX1_removeAll, Cond.selects RX1 yX1_removeAll yX1_removeAll, Cond.initialized RX1, Cond.code yX1_removeAll cX1_removeAll 1 none, Cond.fieldLink RX1 18 "WhiteRivers$Page" "words" "I", Cond.fieldLink RX1 30 "WhiteRivers$Page" "begins" "LWhiteRivers$Row;", Cond.fieldLink RX1 33 "WhiteRivers$Page" "frozen" "LWhiteRivers$Row;", Cond.methodLink RX1 40 yX2_clear, Cond.instanceMethod yX2_clear, Cond.selects RX2 yX2_clear yX2_clear, Cond.initialized RX2, Cond.code yX2_clear cX2_clear 2 none, Cond.fieldLink RX2 13 "WhiteRivers$Row" "cells" "[I", Cond.methodLink RX5 28 yX2_get, Cond.instanceMethod yX2_get, Cond.selects RX2 yX2_get yX2_get, Cond.code yX2_get cX2_get 2 (some .int), Cond.methodLink RX5 37 yX1_append, Cond.instanceMethod yX1_append, Cond.selects RX1 yX1_append yX1_append, Cond.code yX1_append cX1_append 2 none]
def wsX5_giveWords_r2 : List Cond := [Cond.fieldLink RX1 26 "WhiteRivers$Page" "lengths" "LWhiteRivers$Row;", Cond.methodLink RX1 43 yX2_set, Cond.instanceMethod yX2_set, Cond.selects RX2 yX2_set yX2_set, Cond.code yX2_set cX2_set 3 none]
def wsX5_giveWords : List Cond := .code yX5_giveWords cX5_giveWords 4 none :: ((wsX5_giveWords_r1 ++ wsX5_giveWords_r2) ++ wsX50 ++ wsX10 ++ wsX20)
def wsX6_init_r1 : List Cond := [Cond.methodLink RX6 1 objectInit, Cond.instanceMethod objectInit, Cond.code objectInit ⟨#[0xb1]⟩ 1 none, Cond.classLink RX6 7 RX1, Cond.instantiable RX1 6, Cond.initialized RX1, Cond.fieldLink RX6 10 "WhiteRivers" "page" "LWhiteRivers$Page;", Cond.classLink RX6 16 RX0, Cond.instantiable RX0 2, Cond.initialized RX0, Cond.fieldLink RX6 19 "WhiteRivers" "history" "LWhiteRivers$History;", Cond.classLink RX6 23 RX4, Cond.instantiable RX4 4, Cond.initialized RX4, Cond.fieldLink RX6 26 "WhiteRivers" "sheet" "LWhiteRivers$Sheet;", Cond.classLink RX6 30 RX3, Cond.instantiable RX3 10, Cond.initialized RX3, Cond.fieldLink RX6 33 "WhiteRivers" "search" "LWhiteRivers$Search;", Cond.classLink RX6 37 RX5, Cond.instantiable RX5 2, Cond.initialized RX5, Cond.fieldLink RX6 40 "WhiteRivers" "text" "LWhiteRivers$Text;", Cond.instanceMethod yX1_init]
def wsX6_init_r2 : List Cond := [Cond.code yX1_init cX1_init 1 none, Cond.methodLink RX1 3 objectInit, Cond.fieldLink RX1 9 "WhiteRivers$Page" "width" "I", Cond.fieldLink RX1 15 "WhiteRivers$Page" "slack" "I", Cond.fieldLink RX1 18 "WhiteRivers$Page" "words" "I", Cond.classLink RX1 21 RX2, Cond.instantiable RX2 1, Cond.initialized RX2, Cond.fieldLink RX1 26 "WhiteRivers$Page" "lengths" "LWhiteRivers$Row;", Cond.fieldLink RX1 30 "WhiteRivers$Page" "begins" "LWhiteRivers$Row;", Cond.fieldLink RX1 33 "WhiteRivers$Page" "frozen" "LWhiteRivers$Row;", Cond.methodLink RX1 23 yX2_init, Cond.instanceMethod yX2_init, Cond.code yX2_init cX2_init 2 none, Cond.methodLink RX2 1 objectInit, Cond.methodLink RX2 7 Lib.Math.max.name, Cond.static Lib.Math.max.name, Cond.initialized "java/lang/Math", Cond.code Lib.Math.max.name Lib.Math.max.code 2 (some .int), Cond.arrayClass .int, Cond.fieldLink RX2 13 "WhiteRivers$Row" "cells" "[I", Cond.methodLink RX6 18 yX0_init, Cond.instanceMethod yX0_init, Cond.code yX0_init cX0_init 2 none]
def wsX6_init_r3 : List Cond := [Cond.methodLink RX0 3 objectInit, Cond.fieldLink RX0 9 "WhiteRivers$History" "states" "I", Cond.classLink RX0 15 RX1, Cond.fieldLink RX0 17 "WhiteRivers$History" "pages" "[LWhiteRivers$Page;", Cond.instanceMethod yX4_init, Cond.code yX4_init cX4_init 1 none, Cond.methodLink RX4 3 objectInit, Cond.classLink RX4 9 RX2, Cond.fieldLink RX4 14 "WhiteRivers$Sheet" "columns" "LWhiteRivers$Row;", Cond.fieldLink RX4 20 "WhiteRivers$Sheet" "gapColumns" "LWhiteRivers$Row;", Cond.fieldLink RX4 23 "WhiteRivers$Sheet" "gapWidths" "LWhiteRivers$Row;", Cond.fieldLink RX4 26 "WhiteRivers$Sheet" "reaches" "LWhiteRivers$Row;", Cond.methodLink RX4 11 yX2_init, Cond.instanceMethod yX3_init, Cond.code yX3_init cX3_init 1 none, Cond.methodLink RX3 3 objectInit, Cond.fieldLink RX3 9 "WhiteRivers$Search" "bestLines" "I", Cond.fieldLink RX3 15 "WhiteRivers$Search" "bestRiver" "I", Cond.constant RX3 18 (1000000000), Cond.fieldLink RX3 19 "WhiteRivers$Search" "bestPrice" "I", Cond.fieldLink RX3 22 "WhiteRivers$Search" "limit" "I", Cond.classLink RX3 25 RX1, Cond.fieldLink RX3 28 "WhiteRivers$Search" "page" "LWhiteRivers$Page;", Cond.classLink RX3 32 RX4]
def wsX6_init_r4 : List Cond := [Cond.fieldLink RX3 35 "WhiteRivers$Search" "sheet" "LWhiteRivers$Sheet;", Cond.classLink RX3 39 RX2, Cond.fieldLink RX3 44 "WhiteRivers$Search" "prices" "LWhiteRivers$Row;", Cond.fieldLink RX3 48 "WhiteRivers$Search" "leastPrices" "LWhiteRivers$Row;", Cond.fieldLink RX3 51 "WhiteRivers$Search" "tried" "LWhiteRivers$Row;", Cond.fieldLink RX3 54 "WhiteRivers$Search" "best" "LWhiteRivers$Row;", Cond.methodLink RX3 41 yX2_init, Cond.instanceMethod yX5_init, Cond.code yX5_init cX5_init 1 none, Cond.methodLink RX5 3 objectInit, Cond.fieldLink RX5 9 "WhiteRivers$Text" "length" "I", Cond.classLink RX5 15 RX2, Cond.fieldLink RX5 20 "WhiteRivers$Text" "characters" "LWhiteRivers$Row;", Cond.methodLink RX5 17 yX2_init]
def wsX6_init : List Cond := .code yX6_init cX6_init 1 none :: ((wsX6_init_r1 ++ (wsX6_init_r2 ++ (wsX6_init_r3 ++ wsX6_init_r4))) ++ wsX10 ++ wsX60 ++ wsX00 ++ wsX40 ++ wsX30 ++ wsX50 ++ wsX20)
def wsX6_isWithin : List Cond := .code yX6_isWithin cX6_isWithin 3 (some .boolean) :: ([])
def wsX6_beginChange_r1 : List Cond := [Cond.fieldLink RX6 19 "WhiteRivers" "history" "LWhiteRivers$History;", Cond.fieldLink RX6 10 "WhiteRivers" "page" "LWhiteRivers$Page;", Cond.fieldLink RX6 33 "WhiteRivers" "search" "LWhiteRivers$Search;", Cond.methodLink RX6 203 yX0_keep, Cond.instanceMethod yX0_keep, Cond.selects RX0 yX0_keep yX0_keep, Cond.initialized RX0, Cond.code yX0_keep cX0_keep 3 none, Cond.fieldLink RX0 9 "WhiteRivers$History" "states" "I", Cond.fieldLink RX0 17 "WhiteRivers$History" "pages" "[LWhiteRivers$Page;", Cond.methodLink RX0 22 yX0_dropOldest, Cond.instanceMethod yX0_dropOldest, Cond.selects RX0 yX0_dropOldest yX0_dropOldest, Cond.code yX0_dropOldest cX0_dropOldest 3 none, Cond.methodLink RX0 25 yX0_pageAt, Cond.instanceMethod yX0_pageAt, Cond.selects RX0 yX0_pageAt yX0_pageAt, Cond.code yX0_pageAt cX0_pageAt 2 (some (.object "WhiteRivers$Page")), Cond.methodLink RX0 29 yX1_copyFrom, Cond.instanceMethod yX1_copyFrom, Cond.selects RX1 yX1_copyFrom yX1_copyFrom, Cond.initialized RX1, Cond.code yX1_copyFrom cX1_copyFrom 2 none, Cond.fieldLink RX1 9 "WhiteRivers$Page" "width" "I"]
def wsX6_beginChange_r2 : List Cond := [Cond.fieldLink RX1 15 "WhiteRivers$Page" "slack" "I", Cond.fieldLink RX1 18 "WhiteRivers$Page" "words" "I", Cond.fieldLink RX1 26 "WhiteRivers$Page" "lengths" "LWhiteRivers$Row;", Cond.fieldLink RX1 30 "WhiteRivers$Page" "begins" "LWhiteRivers$Row;", Cond.fieldLink RX1 33 "WhiteRivers$Page" "frozen" "LWhiteRivers$Row;", Cond.methodLink RX1 36 yX2_copyFrom, Cond.instanceMethod yX2_copyFrom, Cond.selects RX2 yX2_copyFrom yX2_copyFrom, Cond.initialized RX2, Cond.code yX2_copyFrom cX2_copyFrom 3 none, Cond.fieldLink RX2 13 "WhiteRivers$Row" "cells" "[I", Cond.methodLink RX2 19 yX2_get, Cond.instanceMethod yX2_get, Cond.selects RX2 yX2_get yX2_get, Cond.code yX2_get cX2_get 2 (some .int), Cond.methodLink RX6 148 yX3_forget, Cond.instanceMethod yX3_forget, Cond.selects RX3 yX3_forget yX3_forget, Cond.initialized RX3, Cond.code yX3_forget cX3_forget 1 none, Cond.fieldLink RX3 22 "WhiteRivers$Search" "limit" "I"]
def wsX6_beginChange : List Cond := .code yX6_beginChange cX6_beginChange 1 none :: ((wsX6_beginChange_r1 ++ wsX6_beginChange_r2) ++ wsX60 ++ wsX00 ++ wsX10 ++ wsX20 ++ wsX30)
def wsX6_setWidth_r1 : List Cond := [Cond.fieldLink RX6 10 "WhiteRivers" "page" "LWhiteRivers$Page;", Cond.fieldLink RX6 55 "WhiteRivers$Page" "width" "I", Cond.methodLink RX6 44 yX6_isWithin, Cond.static yX6_isWithin, Cond.initialized RX6, Cond.code yX6_isWithin cX6_isWithin 3 (some .boolean), Cond.methodLink RX6 48 yX1_frozenLines, Cond.instanceMethod yX1_frozenLines, Cond.selects RX1 yX1_frozenLines yX1_frozenLines, Cond.initialized RX1, Cond.code yX1_frozenLines cX1_frozenLines 3 (some .int), Cond.fieldLink RX1 18 "WhiteRivers$Page" "words" "I", Cond.fieldLink RX1 33 "WhiteRivers$Page" "frozen" "LWhiteRivers$Row;", Cond.methodLink RX1 47 yX2_get, Cond.instanceMethod yX2_get, Cond.selects RX2 yX2_get yX2_get, Cond.initialized RX2, Cond.code yX2_get cX2_get 2 (some .int), Cond.fieldLink RX2 13 "WhiteRivers$Row" "cells" "[I", Cond.methodLink RX6 52 yX6_beginChange, Cond.instanceMethod yX6_beginChange, Cond.selects RX6 yX6_beginChange yX6_beginChange, Cond.code yX6_beginChange cX6_beginChange 1 none, Cond.fieldLink RX6 19 "WhiteRivers" "history" "LWhiteRivers$History;"]
def wsX6_setWidth_r2 : List Cond := [Cond.fieldLink RX6 33 "WhiteRivers" "search" "LWhiteRivers$Search;", Cond.methodLink RX6 203 yX0_keep, Cond.instanceMethod yX0_keep, Cond.selects RX0 yX0_keep yX0_keep, Cond.initialized RX0, Cond.code yX0_keep cX0_keep 3 none, Cond.fieldLink RX0 9 "WhiteRivers$History" "states" "I", Cond.fieldLink RX0 17 "WhiteRivers$History" "pages" "[LWhiteRivers$Page;", Cond.methodLink RX0 22 yX0_dropOldest, Cond.instanceMethod yX0_dropOldest, Cond.selects RX0 yX0_dropOldest yX0_dropOldest, Cond.code yX0_dropOldest cX0_dropOldest 3 none, Cond.methodLink RX0 25 yX0_pageAt, Cond.instanceMethod yX0_pageAt, Cond.selects RX0 yX0_pageAt yX0_pageAt, Cond.code yX0_pageAt cX0_pageAt 2 (some (.object "WhiteRivers$Page")), Cond.methodLink RX0 29 yX1_copyFrom, Cond.instanceMethod yX1_copyFrom, Cond.selects RX1 yX1_copyFrom yX1_copyFrom, Cond.code yX1_copyFrom cX1_copyFrom 2 none, Cond.fieldLink RX1 9 "WhiteRivers$Page" "width" "I", Cond.fieldLink RX1 15 "WhiteRivers$Page" "slack" "I", Cond.fieldLink RX1 26 "WhiteRivers$Page" "lengths" "LWhiteRivers$Row;", Cond.fieldLink RX1 30 "WhiteRivers$Page" "begins" "LWhiteRivers$Row;"]
def wsX6_setWidth_r3 : List Cond := [Cond.methodLink RX1 36 yX2_copyFrom, Cond.instanceMethod yX2_copyFrom, Cond.selects RX2 yX2_copyFrom yX2_copyFrom, Cond.code yX2_copyFrom cX2_copyFrom 3 none, Cond.methodLink RX2 19 yX2_get, Cond.methodLink RX6 148 yX3_forget, Cond.instanceMethod yX3_forget, Cond.selects RX3 yX3_forget yX3_forget, Cond.initialized RX3, Cond.code yX3_forget cX3_forget 1 none, Cond.fieldLink RX3 22 "WhiteRivers$Search" "limit" "I", Cond.methodLink RX6 59 yX1_fill, Cond.instanceMethod yX1_fill, Cond.selects RX1 yX1_fill yX1_fill, Cond.code yX1_fill cX1_fill 3 none, Cond.methodLink RX1 69 yX1_joinAll, Cond.instanceMethod yX1_joinAll, Cond.selects RX1 yX1_joinAll yX1_joinAll, Cond.code yX1_joinAll cX1_joinAll 1 none, Cond.methodLink RX1 40 yX2_clear, Cond.instanceMethod yX2_clear, Cond.selects RX2 yX2_clear yX2_clear, Cond.code yX2_clear cX2_clear 2 none, Cond.methodLink RX1 72 yX1_fits]
def wsX6_setWidth_r4 : List Cond := [Cond.instanceMethod yX1_fits, Cond.selects RX1 yX1_fits yX1_fits, Cond.code yX1_fits cX1_fits 3 (some .boolean), Cond.methodLink RX1 62 yX1_extra, Cond.instanceMethod yX1_extra, Cond.selects RX1 yX1_extra yX1_extra, Cond.code yX1_extra cX1_extra 5 (some .int), Cond.methodLink RX1 76 yX1_begin, Cond.instanceMethod yX1_begin, Cond.selects RX1 yX1_begin yX1_begin, Cond.code yX1_begin cX1_begin 2 none, Cond.methodLink RX1 43 yX2_set, Cond.instanceMethod yX2_set, Cond.selects RX2 yX2_set yX2_set, Cond.code yX2_set cX2_set 3 none, Cond.methodLink RX6 62 yX1_lines, Cond.instanceMethod yX1_lines, Cond.selects RX1 yX1_lines yX1_lines, Cond.code yX1_lines cX1_lines 3 (some .int)]
def wsX6_setWidth : List Cond := .code yX6_setWidth cX6_setWidth 2 (some .int) :: ((wsX6_setWidth_r1 ++ (wsX6_setWidth_r2 ++ (wsX6_setWidth_r3 ++ wsX6_setWidth_r4))) ++ wsX60 ++ wsX10 ++ wsX20 ++ wsX00 ++ wsX30)
def wsX6_setSlack_r1 : List Cond := [Cond.fieldLink RX6 10 "WhiteRivers" "page" "LWhiteRivers$Page;", Cond.fieldLink RX6 65 "WhiteRivers$Page" "slack" "I", Cond.methodLink RX6 44 yX6_isWithin, Cond.static yX6_isWithin, Cond.initialized RX6, Cond.code yX6_isWithin cX6_isWithin 3 (some .boolean), Cond.methodLink RX6 52 yX6_beginChange, Cond.instanceMethod yX6_beginChange, Cond.selects RX6 yX6_beginChange yX6_beginChange, Cond.code yX6_beginChange cX6_beginChange 1 none, Cond.fieldLink RX6 19 "WhiteRivers" "history" "LWhiteRivers$History;", Cond.fieldLink RX6 33 "WhiteRivers" "search" "LWhiteRivers$Search;", Cond.methodLink RX6 203 yX0_keep, Cond.instanceMethod yX0_keep, Cond.selects RX0 yX0_keep yX0_keep, Cond.initialized RX0, Cond.code yX0_keep cX0_keep 3 none, Cond.fieldLink RX0 9 "WhiteRivers$History" "states" "I", Cond.fieldLink RX0 17 "WhiteRivers$History" "pages" "[LWhiteRivers$Page;", Cond.methodLink RX0 22 yX0_dropOldest, Cond.instanceMethod yX0_dropOldest, Cond.selects RX0 yX0_dropOldest yX0_dropOldest, Cond.code yX0_dropOldest cX0_dropOldest 3 none, Cond.methodLink RX0 25 yX0_pageAt]
def wsX6_setSlack_r2 : List Cond := [Cond.instanceMethod yX0_pageAt, Cond.selects RX0 yX0_pageAt yX0_pageAt, Cond.code yX0_pageAt cX0_pageAt 2 (some (.object "WhiteRivers$Page")), Cond.methodLink RX0 29 yX1_copyFrom, Cond.instanceMethod yX1_copyFrom, Cond.selects RX1 yX1_copyFrom yX1_copyFrom, Cond.initialized RX1, Cond.code yX1_copyFrom cX1_copyFrom 2 none, Cond.fieldLink RX1 9 "WhiteRivers$Page" "width" "I", Cond.fieldLink RX1 15 "WhiteRivers$Page" "slack" "I", Cond.fieldLink RX1 18 "WhiteRivers$Page" "words" "I", Cond.fieldLink RX1 26 "WhiteRivers$Page" "lengths" "LWhiteRivers$Row;", Cond.fieldLink RX1 30 "WhiteRivers$Page" "begins" "LWhiteRivers$Row;", Cond.fieldLink RX1 33 "WhiteRivers$Page" "frozen" "LWhiteRivers$Row;", Cond.methodLink RX1 36 yX2_copyFrom, Cond.instanceMethod yX2_copyFrom, Cond.selects RX2 yX2_copyFrom yX2_copyFrom, Cond.initialized RX2, Cond.code yX2_copyFrom cX2_copyFrom 3 none, Cond.fieldLink RX2 13 "WhiteRivers$Row" "cells" "[I", Cond.methodLink RX2 19 yX2_get, Cond.instanceMethod yX2_get, Cond.selects RX2 yX2_get yX2_get, Cond.code yX2_get cX2_get 2 (some .int)]
def wsX6_setSlack_r3 : List Cond := [Cond.methodLink RX6 148 yX3_forget, Cond.instanceMethod yX3_forget, Cond.selects RX3 yX3_forget yX3_forget, Cond.initialized RX3, Cond.code yX3_forget cX3_forget 1 none, Cond.fieldLink RX3 22 "WhiteRivers$Search" "limit" "I"]
def wsX6_setSlack : List Cond := .code yX6_setSlack cX6_setSlack 3 (some .int) :: ((wsX6_setSlack_r1 ++ (wsX6_setSlack_r2 ++ wsX6_setSlack_r3)) ++ wsX60 ++ wsX10 ++ wsX00 ++ wsX20 ++ wsX30)
def wsX6_add_r1 : List Cond := [Cond.fieldLink RX6 10 "WhiteRivers" "page" "LWhiteRivers$Page;", Cond.fieldLink RX6 68 "WhiteRivers$Page" "words" "I", Cond.methodLink RX6 44 yX6_isWithin, Cond.static yX6_isWithin, Cond.initialized RX6, Cond.code yX6_isWithin cX6_isWithin 3 (some .boolean), Cond.methodLink RX6 52 yX6_beginChange, Cond.instanceMethod yX6_beginChange, Cond.selects RX6 yX6_beginChange yX6_beginChange, Cond.code yX6_beginChange cX6_beginChange 1 none, Cond.fieldLink RX6 19 "WhiteRivers" "history" "LWhiteRivers$History;", Cond.fieldLink RX6 33 "WhiteRivers" "search" "LWhiteRivers$Search;", Cond.methodLink RX6 203 yX0_keep, Cond.instanceMethod yX0_keep, Cond.selects RX0 yX0_keep yX0_keep, Cond.initialized RX0, Cond.code yX0_keep cX0_keep 3 none, Cond.fieldLink RX0 9 "WhiteRivers$History" "states" "I", Cond.fieldLink RX0 17 "WhiteRivers$History" "pages" "[LWhiteRivers$Page;", Cond.methodLink RX0 22 yX0_dropOldest, Cond.instanceMethod yX0_dropOldest, Cond.selects RX0 yX0_dropOldest yX0_dropOldest, Cond.code yX0_dropOldest cX0_dropOldest 3 none, Cond.methodLink RX0 25 yX0_pageAt]
def wsX6_add_r2 : List Cond := [Cond.instanceMethod yX0_pageAt, Cond.selects RX0 yX0_pageAt yX0_pageAt, Cond.code yX0_pageAt cX0_pageAt 2 (some (.object "WhiteRivers$Page")), Cond.methodLink RX0 29 yX1_copyFrom, Cond.instanceMethod yX1_copyFrom, Cond.selects RX1 yX1_copyFrom yX1_copyFrom, Cond.initialized RX1, Cond.code yX1_copyFrom cX1_copyFrom 2 none, Cond.fieldLink RX1 9 "WhiteRivers$Page" "width" "I", Cond.fieldLink RX1 15 "WhiteRivers$Page" "slack" "I", Cond.fieldLink RX1 18 "WhiteRivers$Page" "words" "I", Cond.fieldLink RX1 26 "WhiteRivers$Page" "lengths" "LWhiteRivers$Row;", Cond.fieldLink RX1 30 "WhiteRivers$Page" "begins" "LWhiteRivers$Row;", Cond.fieldLink RX1 33 "WhiteRivers$Page" "frozen" "LWhiteRivers$Row;", Cond.methodLink RX1 36 yX2_copyFrom, Cond.instanceMethod yX2_copyFrom, Cond.selects RX2 yX2_copyFrom yX2_copyFrom, Cond.initialized RX2, Cond.code yX2_copyFrom cX2_copyFrom 3 none, Cond.fieldLink RX2 13 "WhiteRivers$Row" "cells" "[I", Cond.methodLink RX2 19 yX2_get, Cond.instanceMethod yX2_get, Cond.selects RX2 yX2_get yX2_get, Cond.code yX2_get cX2_get 2 (some .int)]
def wsX6_add_r3 : List Cond := [Cond.methodLink RX6 148 yX3_forget, Cond.instanceMethod yX3_forget, Cond.selects RX3 yX3_forget yX3_forget, Cond.initialized RX3, Cond.code yX3_forget cX3_forget 1 none, Cond.fieldLink RX3 22 "WhiteRivers$Search" "limit" "I", Cond.methodLink RX6 62 yX1_lines, Cond.instanceMethod yX1_lines, Cond.selects RX1 yX1_lines yX1_lines, Cond.code yX1_lines cX1_lines 3 (some .int), Cond.methodLink RX1 47 yX2_get, Cond.methodLink RX6 71 yX1_firstOf, Cond.instanceMethod yX1_firstOf, Cond.selects RX1 yX1_firstOf yX1_firstOf, Cond.code yX1_firstOf cX1_firstOf 4 (some .int), Cond.methodLink RX6 75 yX1_append, Cond.instanceMethod yX1_append, Cond.selects RX1 yX1_append yX1_append, Cond.code yX1_append cX1_append 2 none, Cond.methodLink RX1 43 yX2_set, Cond.instanceMethod yX2_set, Cond.selects RX2 yX2_set yX2_set, Cond.code yX2_set cX2_set 3 none, Cond.methodLink RX6 79 yX1_isFrozen]
def wsX6_add_r4 : List Cond := [Cond.instanceMethod yX1_isFrozen, Cond.selects RX1 yX1_isFrozen yX1_isFrozen, Cond.code yX1_isFrozen cX1_isFrozen 2 (some .boolean), Cond.methodLink RX6 83 yX1_fits, Cond.instanceMethod yX1_fits, Cond.selects RX1 yX1_fits yX1_fits, Cond.code yX1_fits cX1_fits 3 (some .boolean), Cond.methodLink RX1 62 yX1_extra, Cond.instanceMethod yX1_extra, Cond.selects RX1 yX1_extra yX1_extra, Cond.code yX1_extra cX1_extra 5 (some .int), Cond.methodLink RX6 87 yX1_begin, Cond.instanceMethod yX1_begin, Cond.selects RX1 yX1_begin yX1_begin, Cond.code yX1_begin cX1_begin 2 none]
def wsX6_add : List Cond := .code yX6_add cX6_add 4 (some .int) :: ((wsX6_add_r1 ++ (wsX6_add_r2 ++ (wsX6_add_r3 ++ wsX6_add_r4))) ++ wsX60 ++ wsX10 ++ wsX00 ++ wsX20 ++ wsX30)
def wsX6_remove_r1 : List Cond := [Cond.fieldLink RX6 10 "WhiteRivers" "page" "LWhiteRivers$Page;", Cond.fieldLink RX6 68 "WhiteRivers$Page" "words" "I", Cond.methodLink RX6 62 yX1_lines, Cond.instanceMethod yX1_lines, Cond.selects RX1 yX1_lines yX1_lines, Cond.initialized RX1, Cond.code yX1_lines cX1_lines 3 (some .int), Cond.fieldLink RX1 18 "WhiteRivers$Page" "words" "I", Cond.fieldLink RX1 30 "WhiteRivers$Page" "begins" "LWhiteRivers$Row;", Cond.methodLink RX1 47 yX2_get, Cond.instanceMethod yX2_get, Cond.selects RX2 yX2_get yX2_get, Cond.initialized RX2, Cond.code yX2_get cX2_get 2 (some .int), Cond.fieldLink RX2 13 "WhiteRivers$Row" "cells" "[I", Cond.methodLink RX6 71 yX1_firstOf, Cond.instanceMethod yX1_firstOf, Cond.selects RX1 yX1_firstOf yX1_firstOf, Cond.code yX1_firstOf cX1_firstOf 4 (some .int), Cond.methodLink RX6 79 yX1_isFrozen, Cond.instanceMethod yX1_isFrozen, Cond.selects RX1 yX1_isFrozen yX1_isFrozen, Cond.code yX1_isFrozen cX1_isFrozen 2 (some .boolean), Cond.fieldLink RX1 33 "WhiteRivers$Page" "frozen" "LWhiteRivers$Row;"]
def wsX6_remove_r2 : List Cond := [Cond.methodLink RX6 52 yX6_beginChange, Cond.instanceMethod yX6_beginChange, Cond.selects RX6 yX6_beginChange yX6_beginChange, Cond.initialized RX6, Cond.code yX6_beginChange cX6_beginChange 1 none, Cond.fieldLink RX6 19 "WhiteRivers" "history" "LWhiteRivers$History;", Cond.fieldLink RX6 33 "WhiteRivers" "search" "LWhiteRivers$Search;", Cond.methodLink RX6 203 yX0_keep, Cond.instanceMethod yX0_keep, Cond.selects RX0 yX0_keep yX0_keep, Cond.initialized RX0, Cond.code yX0_keep cX0_keep 3 none, Cond.fieldLink RX0 9 "WhiteRivers$History" "states" "I", Cond.fieldLink RX0 17 "WhiteRivers$History" "pages" "[LWhiteRivers$Page;", Cond.methodLink RX0 22 yX0_dropOldest, Cond.instanceMethod yX0_dropOldest, Cond.selects RX0 yX0_dropOldest yX0_dropOldest, Cond.code yX0_dropOldest cX0_dropOldest 3 none, Cond.methodLink RX0 25 yX0_pageAt, Cond.instanceMethod yX0_pageAt, Cond.selects RX0 yX0_pageAt yX0_pageAt, Cond.code yX0_pageAt cX0_pageAt 2 (some (.object "WhiteRivers$Page")), Cond.methodLink RX0 29 yX1_copyFrom, Cond.instanceMethod yX1_copyFrom]
def wsX6_remove_r3 : List Cond := [Cond.selects RX1 yX1_copyFrom yX1_copyFrom, Cond.code yX1_copyFrom cX1_copyFrom 2 none, Cond.fieldLink RX1 9 "WhiteRivers$Page" "width" "I", Cond.fieldLink RX1 15 "WhiteRivers$Page" "slack" "I", Cond.fieldLink RX1 26 "WhiteRivers$Page" "lengths" "LWhiteRivers$Row;", Cond.methodLink RX1 36 yX2_copyFrom, Cond.instanceMethod yX2_copyFrom, Cond.selects RX2 yX2_copyFrom yX2_copyFrom, Cond.code yX2_copyFrom cX2_copyFrom 3 none, Cond.methodLink RX2 19 yX2_get, Cond.methodLink RX6 148 yX3_forget, Cond.instanceMethod yX3_forget, Cond.selects RX3 yX3_forget yX3_forget, Cond.initialized RX3, Cond.code yX3_forget cX3_forget 1 none, Cond.fieldLink RX3 22 "WhiteRivers$Search" "limit" "I", Cond.methodLink RX6 90 yX1_dropLast, Cond.instanceMethod yX1_dropLast, Cond.selects RX1 yX1_dropLast yX1_dropLast, Cond.code yX1_dropLast cX1_dropLast 1 none, Cond.methodLink RX1 43 yX2_set, Cond.instanceMethod yX2_set, Cond.selects RX2 yX2_set yX2_set, Cond.code yX2_set cX2_set 3 none]
def wsX6_remove : List Cond := .code yX6_remove cX6_remove 1 (some .int) :: ((wsX6_remove_r1 ++ (wsX6_remove_r2 ++ wsX6_remove_r3)) ++ wsX60 ++ wsX10 ++ wsX20 ++ wsX00 ++ wsX30)
def wsX6_pull_r1 : List Cond := [Cond.fieldLink RX6 10 "WhiteRivers" "page" "LWhiteRivers$Page;", Cond.fieldLink RX6 68 "WhiteRivers$Page" "words" "I", Cond.methodLink RX6 93 yX1_hasLine, Cond.instanceMethod yX1_hasLine, Cond.selects RX1 yX1_hasLine yX1_hasLine, Cond.initialized RX1, Cond.code yX1_hasLine cX1_hasLine 2 (some .boolean), Cond.methodLink RX1 51 yX1_lines, Cond.instanceMethod yX1_lines, Cond.selects RX1 yX1_lines yX1_lines, Cond.code yX1_lines cX1_lines 3 (some .int), Cond.fieldLink RX1 18 "WhiteRivers$Page" "words" "I", Cond.fieldLink RX1 30 "WhiteRivers$Page" "begins" "LWhiteRivers$Row;", Cond.methodLink RX1 47 yX2_get, Cond.instanceMethod yX2_get, Cond.selects RX2 yX2_get yX2_get, Cond.initialized RX2, Cond.code yX2_get cX2_get 2 (some .int), Cond.fieldLink RX2 13 "WhiteRivers$Row" "cells" "[I", Cond.methodLink RX6 71 yX1_firstOf, Cond.instanceMethod yX1_firstOf, Cond.selects RX1 yX1_firstOf yX1_firstOf, Cond.code yX1_firstOf cX1_firstOf 4 (some .int), Cond.methodLink RX6 96 yX1_endOf]
def wsX6_pull_r2 : List Cond := [Cond.instanceMethod yX1_endOf, Cond.selects RX1 yX1_endOf yX1_endOf, Cond.code yX1_endOf cX1_endOf 3 (some .int), Cond.methodLink RX6 79 yX1_isFrozen, Cond.instanceMethod yX1_isFrozen, Cond.selects RX1 yX1_isFrozen yX1_isFrozen, Cond.code yX1_isFrozen cX1_isFrozen 2 (some .boolean), Cond.fieldLink RX1 33 "WhiteRivers$Page" "frozen" "LWhiteRivers$Row;", Cond.methodLink RX6 83 yX1_fits, Cond.instanceMethod yX1_fits, Cond.selects RX1 yX1_fits yX1_fits, Cond.code yX1_fits cX1_fits 3 (some .boolean), Cond.methodLink RX1 62 yX1_extra, Cond.instanceMethod yX1_extra, Cond.selects RX1 yX1_extra yX1_extra, Cond.code yX1_extra cX1_extra 5 (some .int), Cond.fieldLink RX1 9 "WhiteRivers$Page" "width" "I", Cond.fieldLink RX1 26 "WhiteRivers$Page" "lengths" "LWhiteRivers$Row;", Cond.methodLink RX6 52 yX6_beginChange, Cond.instanceMethod yX6_beginChange, Cond.selects RX6 yX6_beginChange yX6_beginChange, Cond.initialized RX6, Cond.code yX6_beginChange cX6_beginChange 1 none, Cond.fieldLink RX6 19 "WhiteRivers" "history" "LWhiteRivers$History;"]
def wsX6_pull_r3 : List Cond := [Cond.fieldLink RX6 33 "WhiteRivers" "search" "LWhiteRivers$Search;", Cond.methodLink RX6 203 yX0_keep, Cond.instanceMethod yX0_keep, Cond.selects RX0 yX0_keep yX0_keep, Cond.initialized RX0, Cond.code yX0_keep cX0_keep 3 none, Cond.fieldLink RX0 9 "WhiteRivers$History" "states" "I", Cond.fieldLink RX0 17 "WhiteRivers$History" "pages" "[LWhiteRivers$Page;", Cond.methodLink RX0 22 yX0_dropOldest, Cond.instanceMethod yX0_dropOldest, Cond.selects RX0 yX0_dropOldest yX0_dropOldest, Cond.code yX0_dropOldest cX0_dropOldest 3 none, Cond.methodLink RX0 25 yX0_pageAt, Cond.instanceMethod yX0_pageAt, Cond.selects RX0 yX0_pageAt yX0_pageAt, Cond.code yX0_pageAt cX0_pageAt 2 (some (.object "WhiteRivers$Page")), Cond.methodLink RX0 29 yX1_copyFrom, Cond.instanceMethod yX1_copyFrom, Cond.selects RX1 yX1_copyFrom yX1_copyFrom, Cond.code yX1_copyFrom cX1_copyFrom 2 none, Cond.fieldLink RX1 15 "WhiteRivers$Page" "slack" "I", Cond.methodLink RX1 36 yX2_copyFrom, Cond.instanceMethod yX2_copyFrom, Cond.selects RX2 yX2_copyFrom yX2_copyFrom]
def wsX6_pull_r4 : List Cond := [Cond.code yX2_copyFrom cX2_copyFrom 3 none, Cond.methodLink RX2 19 yX2_get, Cond.methodLink RX6 148 yX3_forget, Cond.instanceMethod yX3_forget, Cond.selects RX3 yX3_forget yX3_forget, Cond.initialized RX3, Cond.code yX3_forget cX3_forget 1 none, Cond.fieldLink RX3 22 "WhiteRivers$Search" "limit" "I", Cond.methodLink RX6 99 yX1_join, Cond.instanceMethod yX1_join, Cond.selects RX1 yX1_join yX1_join, Cond.code yX1_join cX1_join 2 none, Cond.methodLink RX1 43 yX2_set, Cond.instanceMethod yX2_set, Cond.selects RX2 yX2_set yX2_set, Cond.code yX2_set cX2_set 3 none, Cond.methodLink RX6 87 yX1_begin, Cond.instanceMethod yX1_begin, Cond.selects RX1 yX1_begin yX1_begin, Cond.code yX1_begin cX1_begin 2 none, Cond.methodLink RX6 62 yX1_lines]
def wsX6_pull : List Cond := .code yX6_pull cX6_pull 4 (some .int) :: ((wsX6_pull_r1 ++ (wsX6_pull_r2 ++ (wsX6_pull_r3 ++ wsX6_pull_r4))) ++ wsX60 ++ wsX10 ++ wsX20 ++ wsX00 ++ wsX30)
def wsX6_push_r1 : List Cond := [Cond.fieldLink RX6 10 "WhiteRivers" "page" "LWhiteRivers$Page;", Cond.fieldLink RX6 68 "WhiteRivers$Page" "words" "I", Cond.methodLink RX6 93 yX1_hasLine, Cond.instanceMethod yX1_hasLine, Cond.selects RX1 yX1_hasLine yX1_hasLine, Cond.initialized RX1, Cond.code yX1_hasLine cX1_hasLine 2 (some .boolean), Cond.methodLink RX1 51 yX1_lines, Cond.instanceMethod yX1_lines, Cond.selects RX1 yX1_lines yX1_lines, Cond.code yX1_lines cX1_lines 3 (some .int), Cond.fieldLink RX1 18 "WhiteRivers$Page" "words" "I", Cond.fieldLink RX1 30 "WhiteRivers$Page" "begins" "LWhiteRivers$Row;", Cond.methodLink RX1 47 yX2_get, Cond.instanceMethod yX2_get, Cond.selects RX2 yX2_get yX2_get, Cond.initialized RX2, Cond.code yX2_get cX2_get 2 (some .int), Cond.fieldLink RX2 13 "WhiteRivers$Row" "cells" "[I", Cond.methodLink RX6 71 yX1_firstOf, Cond.instanceMethod yX1_firstOf, Cond.selects RX1 yX1_firstOf yX1_firstOf, Cond.code yX1_firstOf cX1_firstOf 4 (some .int), Cond.methodLink RX6 96 yX1_endOf]
def wsX6_push_r2 : List Cond := [Cond.instanceMethod yX1_endOf, Cond.selects RX1 yX1_endOf yX1_endOf, Cond.code yX1_endOf cX1_endOf 3 (some .int), Cond.methodLink RX6 79 yX1_isFrozen, Cond.instanceMethod yX1_isFrozen, Cond.selects RX1 yX1_isFrozen yX1_isFrozen, Cond.code yX1_isFrozen cX1_isFrozen 2 (some .boolean), Cond.fieldLink RX1 33 "WhiteRivers$Page" "frozen" "LWhiteRivers$Row;", Cond.methodLink RX6 83 yX1_fits, Cond.instanceMethod yX1_fits, Cond.selects RX1 yX1_fits yX1_fits, Cond.code yX1_fits cX1_fits 3 (some .boolean), Cond.methodLink RX1 62 yX1_extra, Cond.instanceMethod yX1_extra, Cond.selects RX1 yX1_extra yX1_extra, Cond.code yX1_extra cX1_extra 5 (some .int), Cond.fieldLink RX1 9 "WhiteRivers$Page" "width" "I", Cond.fieldLink RX1 26 "WhiteRivers$Page" "lengths" "LWhiteRivers$Row;", Cond.methodLink RX6 52 yX6_beginChange, Cond.instanceMethod yX6_beginChange, Cond.selects RX6 yX6_beginChange yX6_beginChange, Cond.initialized RX6, Cond.code yX6_beginChange cX6_beginChange 1 none, Cond.fieldLink RX6 19 "WhiteRivers" "history" "LWhiteRivers$History;"]
def wsX6_push_r3 : List Cond := [Cond.fieldLink RX6 33 "WhiteRivers" "search" "LWhiteRivers$Search;", Cond.methodLink RX6 203 yX0_keep, Cond.instanceMethod yX0_keep, Cond.selects RX0 yX0_keep yX0_keep, Cond.initialized RX0, Cond.code yX0_keep cX0_keep 3 none, Cond.fieldLink RX0 9 "WhiteRivers$History" "states" "I", Cond.fieldLink RX0 17 "WhiteRivers$History" "pages" "[LWhiteRivers$Page;", Cond.methodLink RX0 22 yX0_dropOldest, Cond.instanceMethod yX0_dropOldest, Cond.selects RX0 yX0_dropOldest yX0_dropOldest, Cond.code yX0_dropOldest cX0_dropOldest 3 none, Cond.methodLink RX0 25 yX0_pageAt, Cond.instanceMethod yX0_pageAt, Cond.selects RX0 yX0_pageAt yX0_pageAt, Cond.code yX0_pageAt cX0_pageAt 2 (some (.object "WhiteRivers$Page")), Cond.methodLink RX0 29 yX1_copyFrom, Cond.instanceMethod yX1_copyFrom, Cond.selects RX1 yX1_copyFrom yX1_copyFrom, Cond.code yX1_copyFrom cX1_copyFrom 2 none, Cond.fieldLink RX1 15 "WhiteRivers$Page" "slack" "I", Cond.methodLink RX1 36 yX2_copyFrom, Cond.instanceMethod yX2_copyFrom, Cond.selects RX2 yX2_copyFrom yX2_copyFrom]
def wsX6_push_r4 : List Cond := [Cond.code yX2_copyFrom cX2_copyFrom 3 none, Cond.methodLink RX2 19 yX2_get, Cond.methodLink RX6 148 yX3_forget, Cond.instanceMethod yX3_forget, Cond.selects RX3 yX3_forget yX3_forget, Cond.initialized RX3, Cond.code yX3_forget cX3_forget 1 none, Cond.fieldLink RX3 22 "WhiteRivers$Search" "limit" "I", Cond.methodLink RX6 87 yX1_begin, Cond.instanceMethod yX1_begin, Cond.selects RX1 yX1_begin yX1_begin, Cond.code yX1_begin cX1_begin 2 none, Cond.methodLink RX1 43 yX2_set, Cond.instanceMethod yX2_set, Cond.selects RX2 yX2_set yX2_set, Cond.code yX2_set cX2_set 3 none, Cond.methodLink RX6 99 yX1_join, Cond.instanceMethod yX1_join, Cond.selects RX1 yX1_join yX1_join, Cond.code yX1_join cX1_join 2 none, Cond.methodLink RX6 62 yX1_lines]
def wsX6_push : List Cond := .code yX6_push cX6_push 6 (some .int) :: ((wsX6_push_r1 ++ (wsX6_push_r2 ++ (wsX6_push_r3 ++ wsX6_push_r4))) ++ wsX60 ++ wsX10 ++ wsX20 ++ wsX00 ++ wsX30)
def wsX6_freeze_r1 : List Cond := [Cond.fieldLink RX6 10 "WhiteRivers" "page" "LWhiteRivers$Page;", Cond.methodLink RX6 93 yX1_hasLine, Cond.instanceMethod yX1_hasLine, Cond.selects RX1 yX1_hasLine yX1_hasLine, Cond.initialized RX1, Cond.code yX1_hasLine cX1_hasLine 2 (some .boolean), Cond.methodLink RX1 51 yX1_lines, Cond.instanceMethod yX1_lines, Cond.selects RX1 yX1_lines yX1_lines, Cond.code yX1_lines cX1_lines 3 (some .int), Cond.fieldLink RX1 18 "WhiteRivers$Page" "words" "I", Cond.fieldLink RX1 30 "WhiteRivers$Page" "begins" "LWhiteRivers$Row;", Cond.methodLink RX1 47 yX2_get, Cond.instanceMethod yX2_get, Cond.selects RX2 yX2_get yX2_get, Cond.initialized RX2, Cond.code yX2_get cX2_get 2 (some .int), Cond.fieldLink RX2 13 "WhiteRivers$Row" "cells" "[I", Cond.methodLink RX6 44 yX6_isWithin, Cond.static yX6_isWithin, Cond.initialized RX6, Cond.code yX6_isWithin cX6_isWithin 3 (some .boolean), Cond.methodLink RX6 52 yX6_beginChange, Cond.instanceMethod yX6_beginChange]
def wsX6_freeze_r2 : List Cond := [Cond.selects RX6 yX6_beginChange yX6_beginChange, Cond.code yX6_beginChange cX6_beginChange 1 none, Cond.fieldLink RX6 19 "WhiteRivers" "history" "LWhiteRivers$History;", Cond.fieldLink RX6 33 "WhiteRivers" "search" "LWhiteRivers$Search;", Cond.methodLink RX6 203 yX0_keep, Cond.instanceMethod yX0_keep, Cond.selects RX0 yX0_keep yX0_keep, Cond.initialized RX0, Cond.code yX0_keep cX0_keep 3 none, Cond.fieldLink RX0 9 "WhiteRivers$History" "states" "I", Cond.fieldLink RX0 17 "WhiteRivers$History" "pages" "[LWhiteRivers$Page;", Cond.methodLink RX0 22 yX0_dropOldest, Cond.instanceMethod yX0_dropOldest, Cond.selects RX0 yX0_dropOldest yX0_dropOldest, Cond.code yX0_dropOldest cX0_dropOldest 3 none, Cond.methodLink RX0 25 yX0_pageAt, Cond.instanceMethod yX0_pageAt, Cond.selects RX0 yX0_pageAt yX0_pageAt, Cond.code yX0_pageAt cX0_pageAt 2 (some (.object "WhiteRivers$Page")), Cond.methodLink RX0 29 yX1_copyFrom, Cond.instanceMethod yX1_copyFrom, Cond.selects RX1 yX1_copyFrom yX1_copyFrom, Cond.code yX1_copyFrom cX1_copyFrom 2 none, Cond.fieldLink RX1 9 "WhiteRivers$Page" "width" "I"]
def wsX6_freeze_r3 : List Cond := [Cond.fieldLink RX1 15 "WhiteRivers$Page" "slack" "I", Cond.fieldLink RX1 26 "WhiteRivers$Page" "lengths" "LWhiteRivers$Row;", Cond.fieldLink RX1 33 "WhiteRivers$Page" "frozen" "LWhiteRivers$Row;", Cond.methodLink RX1 36 yX2_copyFrom, Cond.instanceMethod yX2_copyFrom, Cond.selects RX2 yX2_copyFrom yX2_copyFrom, Cond.code yX2_copyFrom cX2_copyFrom 3 none, Cond.methodLink RX2 19 yX2_get, Cond.methodLink RX6 148 yX3_forget, Cond.instanceMethod yX3_forget, Cond.selects RX3 yX3_forget yX3_forget, Cond.initialized RX3, Cond.code yX3_forget cX3_forget 1 none, Cond.fieldLink RX3 22 "WhiteRivers$Search" "limit" "I", Cond.methodLink RX6 71 yX1_firstOf, Cond.instanceMethod yX1_firstOf, Cond.selects RX1 yX1_firstOf yX1_firstOf, Cond.code yX1_firstOf cX1_firstOf 4 (some .int), Cond.methodLink RX6 79 yX1_isFrozen, Cond.instanceMethod yX1_isFrozen, Cond.selects RX1 yX1_isFrozen yX1_isFrozen, Cond.code yX1_isFrozen cX1_isFrozen 2 (some .boolean), Cond.methodLink RX6 102 yX1_setFrozen, Cond.instanceMethod yX1_setFrozen]
def wsX6_freeze_r4 : List Cond := [Cond.selects RX1 yX1_setFrozen yX1_setFrozen, Cond.code yX1_setFrozen cX1_setFrozen 3 none, Cond.methodLink RX1 43 yX2_set, Cond.instanceMethod yX2_set, Cond.selects RX2 yX2_set yX2_set, Cond.code yX2_set cX2_set 3 none]
def wsX6_freeze : List Cond := .code yX6_freeze cX6_freeze 5 (some .int) :: ((wsX6_freeze_r1 ++ (wsX6_freeze_r2 ++ (wsX6_freeze_r3 ++ wsX6_freeze_r4))) ++ wsX60 ++ wsX10 ++ wsX20 ++ wsX00 ++ wsX30)
def wsX6_reflow_r1 : List Cond := [Cond.fieldLink RX6 10 "WhiteRivers" "page" "LWhiteRivers$Page;", Cond.methodLink RX6 48 yX1_frozenLines, Cond.instanceMethod yX1_frozenLines, Cond.selects RX1 yX1_frozenLines yX1_frozenLines, Cond.initialized RX1, Cond.code yX1_frozenLines cX1_frozenLines 3 (some .int), Cond.fieldLink RX1 18 "WhiteRivers$Page" "words" "I", Cond.fieldLink RX1 33 "WhiteRivers$Page" "frozen" "LWhiteRivers$Row;", Cond.methodLink RX1 47 yX2_get, Cond.instanceMethod yX2_get, Cond.selects RX2 yX2_get yX2_get, Cond.initialized RX2, Cond.code yX2_get cX2_get 2 (some .int), Cond.fieldLink RX2 13 "WhiteRivers$Row" "cells" "[I", Cond.methodLink RX6 52 yX6_beginChange, Cond.instanceMethod yX6_beginChange, Cond.selects RX6 yX6_beginChange yX6_beginChange, Cond.initialized RX6, Cond.code yX6_beginChange cX6_beginChange 1 none, Cond.fieldLink RX6 19 "WhiteRivers" "history" "LWhiteRivers$History;", Cond.fieldLink RX6 33 "WhiteRivers" "search" "LWhiteRivers$Search;", Cond.methodLink RX6 203 yX0_keep, Cond.instanceMethod yX0_keep, Cond.selects RX0 yX0_keep yX0_keep]
def wsX6_reflow_r2 : List Cond := [Cond.initialized RX0, Cond.code yX0_keep cX0_keep 3 none, Cond.fieldLink RX0 9 "WhiteRivers$History" "states" "I", Cond.fieldLink RX0 17 "WhiteRivers$History" "pages" "[LWhiteRivers$Page;", Cond.methodLink RX0 22 yX0_dropOldest, Cond.instanceMethod yX0_dropOldest, Cond.selects RX0 yX0_dropOldest yX0_dropOldest, Cond.code yX0_dropOldest cX0_dropOldest 3 none, Cond.methodLink RX0 25 yX0_pageAt, Cond.instanceMethod yX0_pageAt, Cond.selects RX0 yX0_pageAt yX0_pageAt, Cond.code yX0_pageAt cX0_pageAt 2 (some (.object "WhiteRivers$Page")), Cond.methodLink RX0 29 yX1_copyFrom, Cond.instanceMethod yX1_copyFrom, Cond.selects RX1 yX1_copyFrom yX1_copyFrom, Cond.code yX1_copyFrom cX1_copyFrom 2 none, Cond.fieldLink RX1 9 "WhiteRivers$Page" "width" "I", Cond.fieldLink RX1 15 "WhiteRivers$Page" "slack" "I", Cond.fieldLink RX1 26 "WhiteRivers$Page" "lengths" "LWhiteRivers$Row;", Cond.fieldLink RX1 30 "WhiteRivers$Page" "begins" "LWhiteRivers$Row;", Cond.methodLink RX1 36 yX2_copyFrom, Cond.instanceMethod yX2_copyFrom, Cond.selects RX2 yX2_copyFrom yX2_copyFrom, Cond.code yX2_copyFrom cX2_copyFrom 3 none]
def wsX6_reflow_r3 : List Cond := [Cond.methodLink RX2 19 yX2_get, Cond.methodLink RX6 148 yX3_forget, Cond.instanceMethod yX3_forget, Cond.selects RX3 yX3_forget yX3_forget, Cond.initialized RX3, Cond.code yX3_forget cX3_forget 1 none, Cond.fieldLink RX3 22 "WhiteRivers$Search" "limit" "I", Cond.methodLink RX6 59 yX1_fill, Cond.instanceMethod yX1_fill, Cond.selects RX1 yX1_fill yX1_fill, Cond.code yX1_fill cX1_fill 3 none, Cond.methodLink RX1 69 yX1_joinAll, Cond.instanceMethod yX1_joinAll, Cond.selects RX1 yX1_joinAll yX1_joinAll, Cond.code yX1_joinAll cX1_joinAll 1 none, Cond.methodLink RX1 40 yX2_clear, Cond.instanceMethod yX2_clear, Cond.selects RX2 yX2_clear yX2_clear, Cond.code yX2_clear cX2_clear 2 none, Cond.methodLink RX1 72 yX1_fits, Cond.instanceMethod yX1_fits, Cond.selects RX1 yX1_fits yX1_fits, Cond.code yX1_fits cX1_fits 3 (some .boolean), Cond.methodLink RX1 62 yX1_extra]
def wsX6_reflow_r4 : List Cond := [Cond.instanceMethod yX1_extra, Cond.selects RX1 yX1_extra yX1_extra, Cond.code yX1_extra cX1_extra 5 (some .int), Cond.methodLink RX1 76 yX1_begin, Cond.instanceMethod yX1_begin, Cond.selects RX1 yX1_begin yX1_begin, Cond.code yX1_begin cX1_begin 2 none, Cond.methodLink RX1 43 yX2_set, Cond.instanceMethod yX2_set, Cond.selects RX2 yX2_set yX2_set, Cond.code yX2_set cX2_set 3 none, Cond.methodLink RX6 62 yX1_lines, Cond.instanceMethod yX1_lines, Cond.selects RX1 yX1_lines yX1_lines, Cond.code yX1_lines cX1_lines 3 (some .int)]
def wsX6_reflow : List Cond := .code yX6_reflow cX6_reflow 1 (some .int) :: ((wsX6_reflow_r1 ++ (wsX6_reflow_r2 ++ (wsX6_reflow_r3 ++ wsX6_reflow_r4))) ++ wsX60 ++ wsX10 ++ wsX20 ++ wsX00 ++ wsX30)
def wsX6_count_r1 : List Cond := [Cond.fieldLink RX6 26 "WhiteRivers" "sheet" "LWhiteRivers$Sheet;", Cond.fieldLink RX6 10 "WhiteRivers" "page" "LWhiteRivers$Page;", Cond.fieldLink RX6 68 "WhiteRivers$Page" "words" "I", Cond.fieldLink RX6 55 "WhiteRivers$Page" "width" "I", Cond.fieldLink RX6 65 "WhiteRivers$Page" "slack" "I", Cond.fieldLink RX6 19 "WhiteRivers" "history" "LWhiteRivers$History;", Cond.fieldLink RX6 121 "WhiteRivers$History" "states" "I", Cond.fieldLink RX6 40 "WhiteRivers" "text" "LWhiteRivers$Text;", Cond.fieldLink RX6 124 "WhiteRivers$Text" "length" "I", Cond.methodLink RX6 106 yX4_layAll, Cond.instanceMethod yX4_layAll, Cond.selects RX4 yX4_layAll yX4_layAll, Cond.initialized RX4, Cond.code yX4_layAll cX4_layAll 6 none, Cond.fieldLink RX4 33 "WhiteRivers$Page" "words" "I", Cond.methodLink RX4 39 yX1_endOf, Cond.instanceMethod yX1_endOf, Cond.selects RX1 yX1_endOf yX1_endOf, Cond.initialized RX1, Cond.code yX1_endOf cX1_endOf 3 (some .int), Cond.fieldLink RX1 18 "WhiteRivers$Page" "words" "I", Cond.fieldLink RX1 30 "WhiteRivers$Page" "begins" "LWhiteRivers$Row;", Cond.methodLink RX1 47 yX2_get, Cond.instanceMethod yX2_get]
def wsX6_count_r2 : List Cond := [Cond.selects RX2 yX2_get yX2_get, Cond.initialized RX2, Cond.code yX2_get cX2_get 2 (some .int), Cond.fieldLink RX2 13 "WhiteRivers$Row" "cells" "[I", Cond.methodLink RX4 42 yX4_layLine, Cond.instanceMethod yX4_layLine, Cond.selects RX4 yX4_layLine yX4_layLine, Cond.code yX4_layLine cX4_layLine 8 (some .int), Cond.fieldLink RX4 26 "WhiteRivers$Sheet" "reaches" "LWhiteRivers$Row;", Cond.methodLink RX4 58 Lib.Math.max.name, Cond.static Lib.Math.max.name, Cond.initialized "java/lang/Math", Cond.code Lib.Math.max.name Lib.Math.max.code 2 (some .int), Cond.methodLink RX4 46 yX4_placeWords, Cond.instanceMethod yX4_placeWords, Cond.selects RX4 yX4_placeWords yX4_placeWords, Cond.code yX4_placeWords cX4_placeWords 11 none, Cond.fieldLink RX4 14 "WhiteRivers$Sheet" "columns" "LWhiteRivers$Row;", Cond.fieldLink RX4 20 "WhiteRivers$Sheet" "gapColumns" "LWhiteRivers$Row;", Cond.fieldLink RX4 23 "WhiteRivers$Sheet" "gapWidths" "LWhiteRivers$Row;", Cond.methodLink RX4 64 yX1_extra, Cond.instanceMethod yX1_extra, Cond.selects RX1 yX1_extra yX1_extra, Cond.code yX1_extra cX1_extra 5 (some .int)]
def wsX6_count_r3 : List Cond := [Cond.fieldLink RX1 9 "WhiteRivers$Page" "width" "I", Cond.fieldLink RX1 26 "WhiteRivers$Page" "lengths" "LWhiteRivers$Row;", Cond.methodLink RX4 54 yX2_set, Cond.instanceMethod yX2_set, Cond.selects RX2 yX2_set yX2_set, Cond.code yX2_set cX2_set 3 none, Cond.methodLink RX4 67 yX1_lengthOf, Cond.instanceMethod yX1_lengthOf, Cond.selects RX1 yX1_lengthOf yX1_lengthOf, Cond.code yX1_lengthOf cX1_lengthOf 2 (some .int), Cond.methodLink RX4 50 yX4_reachAbove, Cond.instanceMethod yX4_reachAbove, Cond.selects RX4 yX4_reachAbove yX4_reachAbove, Cond.code yX4_reachAbove cX4_reachAbove 6 (some .int), Cond.methodLink RX4 70 yX4_meet, Cond.instanceMethod yX4_meet, Cond.selects RX4 yX4_meet yX4_meet, Cond.code yX4_meet cX4_meet 7 (some .boolean), Cond.methodLink RX4 74 Lib.Math.min.name, Cond.static Lib.Math.min.name, Cond.code Lib.Math.min.name Lib.Math.min.code 2 (some .int), Cond.methodLink RX4 29 yX2_get, Cond.methodLink RX6 62 yX1_lines, Cond.instanceMethod yX1_lines]
def wsX6_count_r4 : List Cond := [Cond.selects RX1 yX1_lines yX1_lines, Cond.code yX1_lines cX1_lines 3 (some .int), Cond.methodLink RX6 110 yX1_badnessOfAll, Cond.instanceMethod yX1_badnessOfAll, Cond.selects RX1 yX1_badnessOfAll yX1_badnessOfAll, Cond.code yX1_badnessOfAll cX1_badnessOfAll 3 (some .int), Cond.methodLink RX1 55 yX1_endOf, Cond.methodLink RX1 66 yX1_badness, Cond.instanceMethod yX1_badness, Cond.selects RX1 yX1_badness yX1_badness, Cond.code yX1_badness cX1_badness 4 (some .int), Cond.methodLink RX1 62 yX1_extra, Cond.methodLink RX6 113 yX4_greatestReach, Cond.instanceMethod yX4_greatestReach, Cond.selects RX4 yX4_greatestReach yX4_greatestReach, Cond.code yX4_greatestReach cX4_greatestReach 5 (some .int), Cond.methodLink RX6 117 yX4_joints, Cond.instanceMethod yX4_joints, Cond.selects RX4 yX4_joints yX4_joints, Cond.code yX4_joints cX4_joints 5 (some .int), Cond.methodLink RX4 80 yX1_lineOf, Cond.instanceMethod yX1_lineOf, Cond.selects RX1 yX1_lineOf yX1_lineOf, Cond.code yX1_lineOf cX1_lineOf 4 (some .int)]
def wsX6_count_r5 : List Cond := [Cond.methodLink RX4 83 yX1_firstOf, Cond.instanceMethod yX1_firstOf, Cond.selects RX1 yX1_firstOf yX1_firstOf, Cond.code yX1_firstOf cX1_firstOf 4 (some .int), Cond.methodLink RX4 86 yX4_gapsThatMeet, Cond.instanceMethod yX4_gapsThatMeet, Cond.selects RX4 yX4_gapsThatMeet yX4_gapsThatMeet, Cond.code yX4_gapsThatMeet cX4_gapsThatMeet 6 (some .int), Cond.methodLink RX6 48 yX1_frozenLines, Cond.instanceMethod yX1_frozenLines, Cond.selects RX1 yX1_frozenLines yX1_frozenLines, Cond.code yX1_frozenLines cX1_frozenLines 3 (some .int), Cond.fieldLink RX1 33 "WhiteRivers$Page" "frozen" "LWhiteRivers$Row;", Cond.methodLink RX6 127 yX4_gapsOfGreatestReach, Cond.instanceMethod yX4_gapsOfGreatestReach, Cond.selects RX4 yX4_gapsOfGreatestReach yX4_gapsOfGreatestReach, Cond.code yX4_gapsOfGreatestReach cX4_gapsOfGreatestReach 5 (some .int), Cond.methodLink RX4 77 yX4_greatestReach]
def wsX6_count : List Cond := .code yX6_count cX6_count 2 (some .int) :: ((wsX6_count_r1 ++ (wsX6_count_r2 ++ (wsX6_count_r3 ++ (wsX6_count_r4 ++ wsX6_count_r5)))) ++ wsX60 ++ wsX10 ++ wsX00 ++ wsX50 ++ wsX20 ++ wsX40)
def wsX6_word_r1 : List Cond := [Cond.fieldLink RX6 10 "WhiteRivers" "page" "LWhiteRivers$Page;", Cond.fieldLink RX6 68 "WhiteRivers$Page" "words" "I", Cond.fieldLink RX6 26 "WhiteRivers" "sheet" "LWhiteRivers$Sheet;", Cond.methodLink RX6 44 yX6_isWithin, Cond.static yX6_isWithin, Cond.initialized RX6, Cond.code yX6_isWithin cX6_isWithin 3 (some .boolean), Cond.methodLink RX6 106 yX4_layAll, Cond.instanceMethod yX4_layAll, Cond.selects RX4 yX4_layAll yX4_layAll, Cond.initialized RX4, Cond.code yX4_layAll cX4_layAll 6 none, Cond.fieldLink RX4 33 "WhiteRivers$Page" "words" "I", Cond.methodLink RX4 39 yX1_endOf, Cond.instanceMethod yX1_endOf, Cond.selects RX1 yX1_endOf yX1_endOf, Cond.initialized RX1, Cond.code yX1_endOf cX1_endOf 3 (some .int), Cond.fieldLink RX1 18 "WhiteRivers$Page" "words" "I", Cond.fieldLink RX1 30 "WhiteRivers$Page" "begins" "LWhiteRivers$Row;", Cond.methodLink RX1 47 yX2_get, Cond.instanceMethod yX2_get, Cond.selects RX2 yX2_get yX2_get, Cond.initialized RX2]
def wsX6_word_r2 : List Cond := [Cond.code yX2_get cX2_get 2 (some .int), Cond.fieldLink RX2 13 "WhiteRivers$Row" "cells" "[I", Cond.methodLink RX4 42 yX4_layLine, Cond.instanceMethod yX4_layLine, Cond.selects RX4 yX4_layLine yX4_layLine, Cond.code yX4_layLine cX4_layLine 8 (some .int), Cond.fieldLink RX4 26 "WhiteRivers$Sheet" "reaches" "LWhiteRivers$Row;", Cond.methodLink RX4 58 Lib.Math.max.name, Cond.static Lib.Math.max.name, Cond.initialized "java/lang/Math", Cond.code Lib.Math.max.name Lib.Math.max.code 2 (some .int), Cond.methodLink RX4 46 yX4_placeWords, Cond.instanceMethod yX4_placeWords, Cond.selects RX4 yX4_placeWords yX4_placeWords, Cond.code yX4_placeWords cX4_placeWords 11 none, Cond.fieldLink RX4 14 "WhiteRivers$Sheet" "columns" "LWhiteRivers$Row;", Cond.fieldLink RX4 20 "WhiteRivers$Sheet" "gapColumns" "LWhiteRivers$Row;", Cond.fieldLink RX4 23 "WhiteRivers$Sheet" "gapWidths" "LWhiteRivers$Row;", Cond.methodLink RX4 64 yX1_extra, Cond.instanceMethod yX1_extra, Cond.selects RX1 yX1_extra yX1_extra, Cond.code yX1_extra cX1_extra 5 (some .int), Cond.fieldLink RX1 9 "WhiteRivers$Page" "width" "I", Cond.fieldLink RX1 26 "WhiteRivers$Page" "lengths" "LWhiteRivers$Row;"]
def wsX6_word_r3 : List Cond := [Cond.methodLink RX4 54 yX2_set, Cond.instanceMethod yX2_set, Cond.selects RX2 yX2_set yX2_set, Cond.code yX2_set cX2_set 3 none, Cond.methodLink RX4 67 yX1_lengthOf, Cond.instanceMethod yX1_lengthOf, Cond.selects RX1 yX1_lengthOf yX1_lengthOf, Cond.code yX1_lengthOf cX1_lengthOf 2 (some .int), Cond.methodLink RX4 50 yX4_reachAbove, Cond.instanceMethod yX4_reachAbove, Cond.selects RX4 yX4_reachAbove yX4_reachAbove, Cond.code yX4_reachAbove cX4_reachAbove 6 (some .int), Cond.methodLink RX4 70 yX4_meet, Cond.instanceMethod yX4_meet, Cond.selects RX4 yX4_meet yX4_meet, Cond.code yX4_meet cX4_meet 7 (some .boolean), Cond.methodLink RX4 74 Lib.Math.min.name, Cond.static Lib.Math.min.name, Cond.code Lib.Math.min.name Lib.Math.min.code 2 (some .int), Cond.methodLink RX4 29 yX2_get, Cond.methodLink RX6 130 yX1_lengthOf, Cond.methodLink RX6 133 yX1_lineOf, Cond.instanceMethod yX1_lineOf, Cond.selects RX1 yX1_lineOf yX1_lineOf]
def wsX6_word_r4 : List Cond := [Cond.code yX1_lineOf cX1_lineOf 4 (some .int), Cond.methodLink RX6 136 yX4_columnOf, Cond.instanceMethod yX4_columnOf, Cond.selects RX4 yX4_columnOf yX4_columnOf, Cond.code yX4_columnOf cX4_columnOf 2 (some .int)]
def wsX6_word : List Cond := .code yX6_word cX6_word 3 (some .int) :: ((wsX6_word_r1 ++ (wsX6_word_r2 ++ (wsX6_word_r3 ++ wsX6_word_r4))) ++ wsX60 ++ wsX10 ++ wsX20 ++ wsX40)
def wsX6_line_r1 : List Cond := [Cond.fieldLink RX6 10 "WhiteRivers" "page" "LWhiteRivers$Page;", Cond.fieldLink RX6 26 "WhiteRivers" "sheet" "LWhiteRivers$Sheet;", Cond.methodLink RX6 93 yX1_hasLine, Cond.instanceMethod yX1_hasLine, Cond.selects RX1 yX1_hasLine yX1_hasLine, Cond.initialized RX1, Cond.code yX1_hasLine cX1_hasLine 2 (some .boolean), Cond.methodLink RX1 51 yX1_lines, Cond.instanceMethod yX1_lines, Cond.selects RX1 yX1_lines yX1_lines, Cond.code yX1_lines cX1_lines 3 (some .int), Cond.fieldLink RX1 18 "WhiteRivers$Page" "words" "I", Cond.fieldLink RX1 30 "WhiteRivers$Page" "begins" "LWhiteRivers$Row;", Cond.methodLink RX1 47 yX2_get, Cond.instanceMethod yX2_get, Cond.selects RX2 yX2_get yX2_get, Cond.initialized RX2, Cond.code yX2_get cX2_get 2 (some .int), Cond.fieldLink RX2 13 "WhiteRivers$Row" "cells" "[I", Cond.methodLink RX6 71 yX1_firstOf, Cond.instanceMethod yX1_firstOf, Cond.selects RX1 yX1_firstOf yX1_firstOf, Cond.code yX1_firstOf cX1_firstOf 4 (some .int), Cond.methodLink RX6 96 yX1_endOf]
def wsX6_line_r2 : List Cond := [Cond.instanceMethod yX1_endOf, Cond.selects RX1 yX1_endOf yX1_endOf, Cond.code yX1_endOf cX1_endOf 3 (some .int), Cond.methodLink RX6 106 yX4_layAll, Cond.instanceMethod yX4_layAll, Cond.selects RX4 yX4_layAll yX4_layAll, Cond.initialized RX4, Cond.code yX4_layAll cX4_layAll 6 none, Cond.fieldLink RX4 33 "WhiteRivers$Page" "words" "I", Cond.methodLink RX4 39 yX1_endOf, Cond.methodLink RX4 42 yX4_layLine, Cond.instanceMethod yX4_layLine, Cond.selects RX4 yX4_layLine yX4_layLine, Cond.code yX4_layLine cX4_layLine 8 (some .int), Cond.fieldLink RX4 26 "WhiteRivers$Sheet" "reaches" "LWhiteRivers$Row;", Cond.methodLink RX4 58 Lib.Math.max.name, Cond.static Lib.Math.max.name, Cond.initialized "java/lang/Math", Cond.code Lib.Math.max.name Lib.Math.max.code 2 (some .int), Cond.methodLink RX4 46 yX4_placeWords, Cond.instanceMethod yX4_placeWords, Cond.selects RX4 yX4_placeWords yX4_placeWords, Cond.code yX4_placeWords cX4_placeWords 11 none, Cond.fieldLink RX4 14 "WhiteRivers$Sheet" "columns" "LWhiteRivers$Row;"]
def wsX6_line_r3 : List Cond := [Cond.fieldLink RX4 20 "WhiteRivers$Sheet" "gapColumns" "LWhiteRivers$Row;", Cond.fieldLink RX4 23 "WhiteRivers$Sheet" "gapWidths" "LWhiteRivers$Row;", Cond.methodLink RX4 64 yX1_extra, Cond.instanceMethod yX1_extra, Cond.selects RX1 yX1_extra yX1_extra, Cond.code yX1_extra cX1_extra 5 (some .int), Cond.fieldLink RX1 9 "WhiteRivers$Page" "width" "I", Cond.fieldLink RX1 26 "WhiteRivers$Page" "lengths" "LWhiteRivers$Row;", Cond.methodLink RX4 54 yX2_set, Cond.instanceMethod yX2_set, Cond.selects RX2 yX2_set yX2_set, Cond.code yX2_set cX2_set 3 none, Cond.methodLink RX4 67 yX1_lengthOf, Cond.instanceMethod yX1_lengthOf, Cond.selects RX1 yX1_lengthOf yX1_lengthOf, Cond.code yX1_lengthOf cX1_lengthOf 2 (some .int), Cond.methodLink RX4 50 yX4_reachAbove, Cond.instanceMethod yX4_reachAbove, Cond.selects RX4 yX4_reachAbove yX4_reachAbove, Cond.code yX4_reachAbove cX4_reachAbove 6 (some .int), Cond.methodLink RX4 70 yX4_meet, Cond.instanceMethod yX4_meet, Cond.selects RX4 yX4_meet yX4_meet, Cond.code yX4_meet cX4_meet 7 (some .boolean)]
def wsX6_line_r4 : List Cond := [Cond.methodLink RX4 74 Lib.Math.min.name, Cond.static Lib.Math.min.name, Cond.code Lib.Math.min.name Lib.Math.min.code 2 (some .int), Cond.methodLink RX4 29 yX2_get, Cond.methodLink RX6 139 yX1_extra, Cond.methodLink RX6 142 yX1_badness, Cond.instanceMethod yX1_badness, Cond.selects RX1 yX1_badness yX1_badness, Cond.code yX1_badness cX1_badness 4 (some .int), Cond.methodLink RX1 62 yX1_extra, Cond.methodLink RX6 79 yX1_isFrozen, Cond.instanceMethod yX1_isFrozen, Cond.selects RX1 yX1_isFrozen yX1_isFrozen, Cond.code yX1_isFrozen cX1_isFrozen 2 (some .boolean), Cond.fieldLink RX1 33 "WhiteRivers$Page" "frozen" "LWhiteRivers$Row;", Cond.methodLink RX6 113 yX4_greatestReach, Cond.instanceMethod yX4_greatestReach, Cond.selects RX4 yX4_greatestReach yX4_greatestReach, Cond.code yX4_greatestReach cX4_greatestReach 5 (some .int)]
def wsX6_line : List Cond := .code yX6_line cX6_line 5 (some .int) :: ((wsX6_line_r1 ++ (wsX6_line_r2 ++ (wsX6_line_r3 ++ wsX6_line_r4))) ++ wsX60 ++ wsX10 ++ wsX20 ++ wsX40)
def wsX6_undo_r1 : List Cond := [Cond.fieldLink RX6 19 "WhiteRivers" "history" "LWhiteRivers$History;", Cond.fieldLink RX6 121 "WhiteRivers$History" "states" "I", Cond.fieldLink RX6 10 "WhiteRivers" "page" "LWhiteRivers$Page;", Cond.fieldLink RX6 33 "WhiteRivers" "search" "LWhiteRivers$Search;", Cond.methodLink RX6 145 yX0_restoreLatest, Cond.instanceMethod yX0_restoreLatest, Cond.selects RX0 yX0_restoreLatest yX0_restoreLatest, Cond.initialized RX0, Cond.code yX0_restoreLatest cX0_restoreLatest 3 none, Cond.fieldLink RX0 9 "WhiteRivers$History" "states" "I", Cond.methodLink RX0 25 yX0_pageAt, Cond.instanceMethod yX0_pageAt, Cond.selects RX0 yX0_pageAt yX0_pageAt, Cond.code yX0_pageAt cX0_pageAt 2 (some (.object "WhiteRivers$Page")), Cond.fieldLink RX0 17 "WhiteRivers$History" "pages" "[LWhiteRivers$Page;", Cond.methodLink RX0 29 yX1_copyFrom, Cond.instanceMethod yX1_copyFrom, Cond.selects RX1 yX1_copyFrom yX1_copyFrom, Cond.initialized RX1, Cond.code yX1_copyFrom cX1_copyFrom 2 none, Cond.fieldLink RX1 9 "WhiteRivers$Page" "width" "I", Cond.fieldLink RX1 15 "WhiteRivers$Page" "slack" "I", Cond.fieldLink RX1 18 "WhiteRivers$Page" "words" "I", Cond.fieldLink RX1 26 "WhiteRivers$Page" "lengths" "LWhiteRivers$Row;"]
def wsX6_undo_r2 : List Cond := [Cond.fieldLink RX1 30 "WhiteRivers$Page" "begins" "LWhiteRivers$Row;", Cond.fieldLink RX1 33 "WhiteRivers$Page" "frozen" "LWhiteRivers$Row;", Cond.methodLink RX1 36 yX2_copyFrom, Cond.instanceMethod yX2_copyFrom, Cond.selects RX2 yX2_copyFrom yX2_copyFrom, Cond.initialized RX2, Cond.code yX2_copyFrom cX2_copyFrom 3 none, Cond.fieldLink RX2 13 "WhiteRivers$Row" "cells" "[I", Cond.methodLink RX2 19 yX2_get, Cond.instanceMethod yX2_get, Cond.selects RX2 yX2_get yX2_get, Cond.code yX2_get cX2_get 2 (some .int), Cond.methodLink RX6 148 yX3_forget, Cond.instanceMethod yX3_forget, Cond.selects RX3 yX3_forget yX3_forget, Cond.initialized RX3, Cond.code yX3_forget cX3_forget 1 none, Cond.fieldLink RX3 22 "WhiteRivers$Search" "limit" "I"]
def wsX6_undo : List Cond := .code yX6_undo cX6_undo 1 (some .int) :: ((wsX6_undo_r1 ++ wsX6_undo_r2) ++ wsX60 ++ wsX00 ++ wsX10 ++ wsX20 ++ wsX30)
def wsX6_gap_r1 : List Cond := [Cond.fieldLink RX6 10 "WhiteRivers" "page" "LWhiteRivers$Page;", Cond.fieldLink RX6 26 "WhiteRivers" "sheet" "LWhiteRivers$Sheet;", Cond.methodLink RX6 93 yX1_hasLine, Cond.instanceMethod yX1_hasLine, Cond.selects RX1 yX1_hasLine yX1_hasLine, Cond.initialized RX1, Cond.code yX1_hasLine cX1_hasLine 2 (some .boolean), Cond.methodLink RX1 51 yX1_lines, Cond.instanceMethod yX1_lines, Cond.selects RX1 yX1_lines yX1_lines, Cond.code yX1_lines cX1_lines 3 (some .int), Cond.fieldLink RX1 18 "WhiteRivers$Page" "words" "I", Cond.fieldLink RX1 30 "WhiteRivers$Page" "begins" "LWhiteRivers$Row;", Cond.methodLink RX1 47 yX2_get, Cond.instanceMethod yX2_get, Cond.selects RX2 yX2_get yX2_get, Cond.initialized RX2, Cond.code yX2_get cX2_get 2 (some .int), Cond.fieldLink RX2 13 "WhiteRivers$Row" "cells" "[I", Cond.methodLink RX6 71 yX1_firstOf, Cond.instanceMethod yX1_firstOf, Cond.selects RX1 yX1_firstOf yX1_firstOf, Cond.code yX1_firstOf cX1_firstOf 4 (some .int), Cond.methodLink RX6 96 yX1_endOf]
def wsX6_gap_r2 : List Cond := [Cond.instanceMethod yX1_endOf, Cond.selects RX1 yX1_endOf yX1_endOf, Cond.code yX1_endOf cX1_endOf 3 (some .int), Cond.methodLink RX6 44 yX6_isWithin, Cond.static yX6_isWithin, Cond.initialized RX6, Cond.code yX6_isWithin cX6_isWithin 3 (some .boolean), Cond.methodLink RX6 106 yX4_layAll, Cond.instanceMethod yX4_layAll, Cond.selects RX4 yX4_layAll yX4_layAll, Cond.initialized RX4, Cond.code yX4_layAll cX4_layAll 6 none, Cond.fieldLink RX4 33 "WhiteRivers$Page" "words" "I", Cond.methodLink RX4 39 yX1_endOf, Cond.methodLink RX4 42 yX4_layLine, Cond.instanceMethod yX4_layLine, Cond.selects RX4 yX4_layLine yX4_layLine, Cond.code yX4_layLine cX4_layLine 8 (some .int), Cond.fieldLink RX4 26 "WhiteRivers$Sheet" "reaches" "LWhiteRivers$Row;", Cond.methodLink RX4 58 Lib.Math.max.name, Cond.static Lib.Math.max.name, Cond.initialized "java/lang/Math", Cond.code Lib.Math.max.name Lib.Math.max.code 2 (some .int), Cond.methodLink RX4 46 yX4_placeWords]
def wsX6_gap_r3 : List Cond := [Cond.instanceMethod yX4_placeWords, Cond.selects RX4 yX4_placeWords yX4_placeWords, Cond.code yX4_placeWords cX4_placeWords 11 none, Cond.fieldLink RX4 14 "WhiteRivers$Sheet" "columns" "LWhiteRivers$Row;", Cond.fieldLink RX4 20 "WhiteRivers$Sheet" "gapColumns" "LWhiteRivers$Row;", Cond.fieldLink RX4 23 "WhiteRivers$Sheet" "gapWidths" "LWhiteRivers$Row;", Cond.methodLink RX4 64 yX1_extra, Cond.instanceMethod yX1_extra, Cond.selects RX1 yX1_extra yX1_extra, Cond.code yX1_extra cX1_extra 5 (some .int), Cond.fieldLink RX1 9 "WhiteRivers$Page" "width" "I", Cond.fieldLink RX1 26 "WhiteRivers$Page" "lengths" "LWhiteRivers$Row;", Cond.methodLink RX4 54 yX2_set, Cond.instanceMethod yX2_set, Cond.selects RX2 yX2_set yX2_set, Cond.code yX2_set cX2_set 3 none, Cond.methodLink RX4 67 yX1_lengthOf, Cond.instanceMethod yX1_lengthOf, Cond.selects RX1 yX1_lengthOf yX1_lengthOf, Cond.code yX1_lengthOf cX1_lengthOf 2 (some .int), Cond.methodLink RX4 50 yX4_reachAbove, Cond.instanceMethod yX4_reachAbove, Cond.selects RX4 yX4_reachAbove yX4_reachAbove, Cond.code yX4_reachAbove cX4_reachAbove 6 (some .int)]
def wsX6_gap_r4 : List Cond := [Cond.methodLink RX4 70 yX4_meet, Cond.instanceMethod yX4_meet, Cond.selects RX4 yX4_meet yX4_meet, Cond.code yX4_meet cX4_meet 7 (some .boolean), Cond.methodLink RX4 74 Lib.Math.min.name, Cond.static Lib.Math.min.name, Cond.code Lib.Math.min.name Lib.Math.min.code 2 (some .int), Cond.methodLink RX4 29 yX2_get, Cond.methodLink RX6 151 yX4_gapColumn, Cond.instanceMethod yX4_gapColumn, Cond.selects RX4 yX4_gapColumn yX4_gapColumn, Cond.code yX4_gapColumn cX4_gapColumn 2 (some .int), Cond.methodLink RX6 154 yX4_gapWidth, Cond.instanceMethod yX4_gapWidth, Cond.selects RX4 yX4_gapWidth yX4_gapWidth, Cond.code yX4_gapWidth cX4_gapWidth 2 (some .int), Cond.methodLink RX6 157 yX4_reachOf, Cond.instanceMethod yX4_reachOf, Cond.selects RX4 yX4_reachOf yX4_reachOf, Cond.code yX4_reachOf cX4_reachOf 2 (some .int), Cond.methodLink RX6 160 yX4_gapsThatMeet, Cond.instanceMethod yX4_gapsThatMeet, Cond.selects RX4 yX4_gapsThatMeet yX4_gapsThatMeet, Cond.code yX4_gapsThatMeet cX4_gapsThatMeet 6 (some .int)]
def wsX6_gap : List Cond := .code yX6_gap cX6_gap 7 (some .int) :: ((wsX6_gap_r1 ++ (wsX6_gap_r2 ++ (wsX6_gap_r3 ++ wsX6_gap_r4))) ++ wsX60 ++ wsX10 ++ wsX20 ++ wsX40)
def wsX6_gapAbove_r1 : List Cond := [Cond.fieldLink RX6 10 "WhiteRivers" "page" "LWhiteRivers$Page;", Cond.fieldLink RX6 26 "WhiteRivers" "sheet" "LWhiteRivers$Sheet;", Cond.methodLink RX6 133 yX1_lineOf, Cond.instanceMethod yX1_lineOf, Cond.selects RX1 yX1_lineOf yX1_lineOf, Cond.initialized RX1, Cond.code yX1_lineOf cX1_lineOf 4 (some .int), Cond.fieldLink RX1 18 "WhiteRivers$Page" "words" "I", Cond.fieldLink RX1 30 "WhiteRivers$Page" "begins" "LWhiteRivers$Row;", Cond.methodLink RX1 47 yX2_get, Cond.instanceMethod yX2_get, Cond.selects RX2 yX2_get yX2_get, Cond.initialized RX2, Cond.code yX2_get cX2_get 2 (some .int), Cond.fieldLink RX2 13 "WhiteRivers$Row" "cells" "[I", Cond.methodLink RX6 71 yX1_firstOf, Cond.instanceMethod yX1_firstOf, Cond.selects RX1 yX1_firstOf yX1_firstOf, Cond.code yX1_firstOf cX1_firstOf 4 (some .int), Cond.methodLink RX6 206 yX4_meet, Cond.instanceMethod yX4_meet, Cond.selects RX4 yX4_meet yX4_meet, Cond.initialized RX4, Cond.code yX4_meet cX4_meet 7 (some .boolean)]
def wsX6_gapAbove_r2 : List Cond := [Cond.fieldLink RX4 20 "WhiteRivers$Sheet" "gapColumns" "LWhiteRivers$Row;", Cond.fieldLink RX4 23 "WhiteRivers$Sheet" "gapWidths" "LWhiteRivers$Row;", Cond.methodLink RX4 58 Lib.Math.max.name, Cond.static Lib.Math.max.name, Cond.initialized "java/lang/Math", Cond.code Lib.Math.max.name Lib.Math.max.code 2 (some .int), Cond.methodLink RX4 74 Lib.Math.min.name, Cond.static Lib.Math.min.name, Cond.code Lib.Math.min.name Lib.Math.min.code 2 (some .int), Cond.methodLink RX4 29 yX2_get, Cond.methodLink RX6 157 yX4_reachOf, Cond.instanceMethod yX4_reachOf, Cond.selects RX4 yX4_reachOf yX4_reachOf, Cond.code yX4_reachOf cX4_reachOf 2 (some .int), Cond.fieldLink RX4 26 "WhiteRivers$Sheet" "reaches" "LWhiteRivers$Row;"]
def wsX6_gapAbove : List Cond := .code yX6_gapAbove cX6_gapAbove 6 (some .int) :: ((wsX6_gapAbove_r1 ++ wsX6_gapAbove_r2) ++ wsX60 ++ wsX10 ++ wsX20 ++ wsX40)
def wsX6_river_r1 : List Cond := [Cond.fieldLink RX6 26 "WhiteRivers" "sheet" "LWhiteRivers$Sheet;", Cond.fieldLink RX6 10 "WhiteRivers" "page" "LWhiteRivers$Page;", Cond.fieldLink RX6 68 "WhiteRivers$Page" "words" "I", Cond.methodLink RX6 44 yX6_isWithin, Cond.static yX6_isWithin, Cond.initialized RX6, Cond.code yX6_isWithin cX6_isWithin 3 (some .boolean), Cond.methodLink RX6 106 yX4_layAll, Cond.instanceMethod yX4_layAll, Cond.selects RX4 yX4_layAll yX4_layAll, Cond.initialized RX4, Cond.code yX4_layAll cX4_layAll 6 none, Cond.fieldLink RX4 33 "WhiteRivers$Page" "words" "I", Cond.methodLink RX4 39 yX1_endOf, Cond.instanceMethod yX1_endOf, Cond.selects RX1 yX1_endOf yX1_endOf, Cond.initialized RX1, Cond.code yX1_endOf cX1_endOf 3 (some .int), Cond.fieldLink RX1 18 "WhiteRivers$Page" "words" "I", Cond.fieldLink RX1 30 "WhiteRivers$Page" "begins" "LWhiteRivers$Row;", Cond.methodLink RX1 47 yX2_get, Cond.instanceMethod yX2_get, Cond.selects RX2 yX2_get yX2_get, Cond.initialized RX2]
def wsX6_river_r2 : List Cond := [Cond.code yX2_get cX2_get 2 (some .int), Cond.fieldLink RX2 13 "WhiteRivers$Row" "cells" "[I", Cond.methodLink RX4 42 yX4_layLine, Cond.instanceMethod yX4_layLine, Cond.selects RX4 yX4_layLine yX4_layLine, Cond.code yX4_layLine cX4_layLine 8 (some .int), Cond.fieldLink RX4 26 "WhiteRivers$Sheet" "reaches" "LWhiteRivers$Row;", Cond.methodLink RX4 58 Lib.Math.max.name, Cond.static Lib.Math.max.name, Cond.initialized "java/lang/Math", Cond.code Lib.Math.max.name Lib.Math.max.code 2 (some .int), Cond.methodLink RX4 46 yX4_placeWords, Cond.instanceMethod yX4_placeWords, Cond.selects RX4 yX4_placeWords yX4_placeWords, Cond.code yX4_placeWords cX4_placeWords 11 none, Cond.fieldLink RX4 14 "WhiteRivers$Sheet" "columns" "LWhiteRivers$Row;", Cond.fieldLink RX4 20 "WhiteRivers$Sheet" "gapColumns" "LWhiteRivers$Row;", Cond.fieldLink RX4 23 "WhiteRivers$Sheet" "gapWidths" "LWhiteRivers$Row;", Cond.methodLink RX4 64 yX1_extra, Cond.instanceMethod yX1_extra, Cond.selects RX1 yX1_extra yX1_extra, Cond.code yX1_extra cX1_extra 5 (some .int), Cond.fieldLink RX1 9 "WhiteRivers$Page" "width" "I", Cond.fieldLink RX1 26 "WhiteRivers$Page" "lengths" "LWhiteRivers$Row;"]
def wsX6_river_r3 : List Cond := [Cond.methodLink RX4 54 yX2_set, Cond.instanceMethod yX2_set, Cond.selects RX2 yX2_set yX2_set, Cond.code yX2_set cX2_set 3 none, Cond.methodLink RX4 67 yX1_lengthOf, Cond.instanceMethod yX1_lengthOf, Cond.selects RX1 yX1_lengthOf yX1_lengthOf, Cond.code yX1_lengthOf cX1_lengthOf 2 (some .int), Cond.methodLink RX4 50 yX4_reachAbove, Cond.instanceMethod yX4_reachAbove, Cond.selects RX4 yX4_reachAbove yX4_reachAbove, Cond.code yX4_reachAbove cX4_reachAbove 6 (some .int), Cond.methodLink RX4 70 yX4_meet, Cond.instanceMethod yX4_meet, Cond.selects RX4 yX4_meet yX4_meet, Cond.code yX4_meet cX4_meet 7 (some .boolean), Cond.methodLink RX4 74 Lib.Math.min.name, Cond.static Lib.Math.min.name, Cond.code Lib.Math.min.name Lib.Math.min.code 2 (some .int), Cond.methodLink RX4 29 yX2_get, Cond.methodLink RX6 113 yX4_greatestReach, Cond.instanceMethod yX4_greatestReach, Cond.selects RX4 yX4_greatestReach yX4_greatestReach, Cond.code yX4_greatestReach cX4_greatestReach 5 (some .int)]
def wsX6_river_r4 : List Cond := [Cond.methodLink RX6 164 yX4_firstOfReach, Cond.instanceMethod yX4_firstOfReach, Cond.selects RX4 yX4_firstOfReach yX4_firstOfReach, Cond.code yX4_firstOfReach cX4_firstOfReach 5 (some .int), Cond.methodLink RX6 167 yX6_gapAbove, Cond.instanceMethod yX6_gapAbove, Cond.selects RX6 yX6_gapAbove yX6_gapAbove, Cond.code yX6_gapAbove cX6_gapAbove 6 (some .int), Cond.methodLink RX6 133 yX1_lineOf, Cond.instanceMethod yX1_lineOf, Cond.selects RX1 yX1_lineOf yX1_lineOf, Cond.code yX1_lineOf cX1_lineOf 4 (some .int), Cond.methodLink RX6 71 yX1_firstOf, Cond.instanceMethod yX1_firstOf, Cond.selects RX1 yX1_firstOf yX1_firstOf, Cond.code yX1_firstOf cX1_firstOf 4 (some .int), Cond.methodLink RX6 206 yX4_meet, Cond.methodLink RX6 157 yX4_reachOf, Cond.instanceMethod yX4_reachOf, Cond.selects RX4 yX4_reachOf yX4_reachOf, Cond.code yX4_reachOf cX4_reachOf 2 (some .int)]
def wsX6_river : List Cond := .code yX6_river cX6_river 6 (some .int) :: ((wsX6_river_r1 ++ (wsX6_river_r2 ++ (wsX6_river_r3 ++ wsX6_river_r4))) ++ wsX60 ++ wsX10 ++ wsX20 ++ wsX40)
def wsX6_at_r1 : List Cond := [Cond.fieldLink RX6 10 "WhiteRivers" "page" "LWhiteRivers$Page;", Cond.fieldLink RX6 55 "WhiteRivers$Page" "width" "I", Cond.fieldLink RX6 26 "WhiteRivers" "sheet" "LWhiteRivers$Sheet;", Cond.methodLink RX6 93 yX1_hasLine, Cond.instanceMethod yX1_hasLine, Cond.selects RX1 yX1_hasLine yX1_hasLine, Cond.initialized RX1, Cond.code yX1_hasLine cX1_hasLine 2 (some .boolean), Cond.methodLink RX1 51 yX1_lines, Cond.instanceMethod yX1_lines, Cond.selects RX1 yX1_lines yX1_lines, Cond.code yX1_lines cX1_lines 3 (some .int), Cond.fieldLink RX1 18 "WhiteRivers$Page" "words" "I", Cond.fieldLink RX1 30 "WhiteRivers$Page" "begins" "LWhiteRivers$Row;", Cond.methodLink RX1 47 yX2_get, Cond.instanceMethod yX2_get, Cond.selects RX2 yX2_get yX2_get, Cond.initialized RX2, Cond.code yX2_get cX2_get 2 (some .int), Cond.fieldLink RX2 13 "WhiteRivers$Row" "cells" "[I", Cond.methodLink RX6 44 yX6_isWithin, Cond.static yX6_isWithin, Cond.initialized RX6, Cond.code yX6_isWithin cX6_isWithin 3 (some .boolean)]
def wsX6_at_r2 : List Cond := [Cond.methodLink RX6 106 yX4_layAll, Cond.instanceMethod yX4_layAll, Cond.selects RX4 yX4_layAll yX4_layAll, Cond.initialized RX4, Cond.code yX4_layAll cX4_layAll 6 none, Cond.fieldLink RX4 33 "WhiteRivers$Page" "words" "I", Cond.methodLink RX4 39 yX1_endOf, Cond.instanceMethod yX1_endOf, Cond.selects RX1 yX1_endOf yX1_endOf, Cond.code yX1_endOf cX1_endOf 3 (some .int), Cond.methodLink RX4 42 yX4_layLine, Cond.instanceMethod yX4_layLine, Cond.selects RX4 yX4_layLine yX4_layLine, Cond.code yX4_layLine cX4_layLine 8 (some .int), Cond.fieldLink RX4 26 "WhiteRivers$Sheet" "reaches" "LWhiteRivers$Row;", Cond.methodLink RX4 58 Lib.Math.max.name, Cond.static Lib.Math.max.name, Cond.initialized "java/lang/Math", Cond.code Lib.Math.max.name Lib.Math.max.code 2 (some .int), Cond.methodLink RX4 46 yX4_placeWords, Cond.instanceMethod yX4_placeWords, Cond.selects RX4 yX4_placeWords yX4_placeWords, Cond.code yX4_placeWords cX4_placeWords 11 none, Cond.fieldLink RX4 14 "WhiteRivers$Sheet" "columns" "LWhiteRivers$Row;"]
def wsX6_at_r3 : List Cond := [Cond.fieldLink RX4 20 "WhiteRivers$Sheet" "gapColumns" "LWhiteRivers$Row;", Cond.fieldLink RX4 23 "WhiteRivers$Sheet" "gapWidths" "LWhiteRivers$Row;", Cond.methodLink RX4 64 yX1_extra, Cond.instanceMethod yX1_extra, Cond.selects RX1 yX1_extra yX1_extra, Cond.code yX1_extra cX1_extra 5 (some .int), Cond.fieldLink RX1 9 "WhiteRivers$Page" "width" "I", Cond.fieldLink RX1 26 "WhiteRivers$Page" "lengths" "LWhiteRivers$Row;", Cond.methodLink RX4 54 yX2_set, Cond.instanceMethod yX2_set, Cond.selects RX2 yX2_set yX2_set, Cond.code yX2_set cX2_set 3 none, Cond.methodLink RX4 67 yX1_lengthOf, Cond.instanceMethod yX1_lengthOf, Cond.selects RX1 yX1_lengthOf yX1_lengthOf, Cond.code yX1_lengthOf cX1_lengthOf 2 (some .int), Cond.methodLink RX4 50 yX4_reachAbove, Cond.instanceMethod yX4_reachAbove, Cond.selects RX4 yX4_reachAbove yX4_reachAbove, Cond.code yX4_reachAbove cX4_reachAbove 6 (some .int), Cond.methodLink RX4 70 yX4_meet, Cond.instanceMethod yX4_meet, Cond.selects RX4 yX4_meet yX4_meet, Cond.code yX4_meet cX4_meet 7 (some .boolean)]
def wsX6_at_r4 : List Cond := [Cond.methodLink RX4 74 Lib.Math.min.name, Cond.static Lib.Math.min.name, Cond.code Lib.Math.min.name Lib.Math.min.code 2 (some .int), Cond.methodLink RX4 29 yX2_get, Cond.methodLink RX6 71 yX1_firstOf, Cond.instanceMethod yX1_firstOf, Cond.selects RX1 yX1_firstOf yX1_firstOf, Cond.code yX1_firstOf cX1_firstOf 4 (some .int), Cond.methodLink RX6 96 yX1_endOf, Cond.methodLink RX6 136 yX4_columnOf, Cond.instanceMethod yX4_columnOf, Cond.selects RX4 yX4_columnOf yX4_columnOf, Cond.code yX4_columnOf cX4_columnOf 2 (some .int), Cond.methodLink RX6 130 yX1_lengthOf]
def wsX6_at : List Cond := .code yX6_at cX6_at 7 (some .int) :: ((wsX6_at_r1 ++ (wsX6_at_r2 ++ (wsX6_at_r3 ++ wsX6_at_r4))) ++ wsX60 ++ wsX10 ++ wsX20 ++ wsX40)
def wsX6_plan_r1 : List Cond := [Cond.fieldLink RX6 33 "WhiteRivers" "search" "LWhiteRivers$Search;", Cond.fieldLink RX6 10 "WhiteRivers" "page" "LWhiteRivers$Page;", Cond.fieldLink RX6 181 "WhiteRivers$Search" "bestLines" "I", Cond.fieldLink RX6 187 "WhiteRivers$Search" "bestRiver" "I", Cond.methodLink RX6 44 yX6_isWithin, Cond.static yX6_isWithin, Cond.initialized RX6, Cond.code yX6_isWithin cX6_isWithin 3 (some .boolean), Cond.methodLink RX6 170 yX3_solve, Cond.instanceMethod yX3_solve, Cond.selects RX3 yX3_solve yX3_solve, Cond.initialized RX3, Cond.code yX3_solve cX3_solve 3 none, Cond.fieldLink RX3 22 "WhiteRivers$Search" "limit" "I", Cond.fieldLink RX3 28 "WhiteRivers$Search" "page" "LWhiteRivers$Page;", Cond.constant RX3 18 (1000000000), Cond.fieldLink RX3 19 "WhiteRivers$Search" "bestPrice" "I", Cond.fieldLink RX3 9 "WhiteRivers$Search" "bestLines" "I", Cond.fieldLink RX3 15 "WhiteRivers$Search" "bestRiver" "I", Cond.methodLink RX3 57 yX1_copyFrom, Cond.instanceMethod yX1_copyFrom, Cond.selects RX1 yX1_copyFrom yX1_copyFrom, Cond.initialized RX1, Cond.code yX1_copyFrom cX1_copyFrom 2 none]
def wsX6_plan_r2 : List Cond := [Cond.fieldLink RX1 9 "WhiteRivers$Page" "width" "I", Cond.fieldLink RX1 15 "WhiteRivers$Page" "slack" "I", Cond.fieldLink RX1 18 "WhiteRivers$Page" "words" "I", Cond.fieldLink RX1 26 "WhiteRivers$Page" "lengths" "LWhiteRivers$Row;", Cond.fieldLink RX1 30 "WhiteRivers$Page" "begins" "LWhiteRivers$Row;", Cond.fieldLink RX1 33 "WhiteRivers$Page" "frozen" "LWhiteRivers$Row;", Cond.methodLink RX1 36 yX2_copyFrom, Cond.instanceMethod yX2_copyFrom, Cond.selects RX2 yX2_copyFrom yX2_copyFrom, Cond.initialized RX2, Cond.code yX2_copyFrom cX2_copyFrom 3 none, Cond.fieldLink RX2 13 "WhiteRivers$Row" "cells" "[I", Cond.methodLink RX2 19 yX2_get, Cond.instanceMethod yX2_get, Cond.selects RX2 yX2_get yX2_get, Cond.code yX2_get cX2_get 2 (some .int), Cond.methodLink RX3 61 yX3_setPrices, Cond.instanceMethod yX3_setPrices, Cond.selects RX3 yX3_setPrices yX3_setPrices, Cond.code yX3_setPrices cX3_setPrices 5 none, Cond.fieldLink RX3 48 "WhiteRivers$Search" "leastPrices" "LWhiteRivers$Row;", Cond.fieldLink RX3 79 "WhiteRivers$Page" "words" "I", Cond.fieldLink RX3 44 "WhiteRivers$Search" "prices" "LWhiteRivers$Row;", Cond.methodLink RX3 93 Lib.Math.min.name]
def wsX6_plan_r3 : List Cond := [Cond.static Lib.Math.min.name, Cond.initialized "java/lang/Math", Cond.code Lib.Math.min.name Lib.Math.min.code 2 (some .int), Cond.methodLink RX3 82 yX2_set, Cond.instanceMethod yX2_set, Cond.selects RX2 yX2_set yX2_set, Cond.code yX2_set cX2_set 3 none, Cond.methodLink RX3 86 yX3_priceOf, Cond.instanceMethod yX3_priceOf, Cond.selects RX3 yX3_priceOf yX3_priceOf, Cond.code yX3_priceOf cX3_priceOf 5 (some .int), Cond.fieldLink RX3 112 "WhiteRivers$Page" "slack" "I", Cond.constant RX3 68 (100000), Cond.methodLink RX3 98 yX1_isLine, Cond.instanceMethod yX1_isLine, Cond.selects RX1 yX1_isLine yX1_isLine, Cond.code yX1_isLine cX1_isLine 3 (some .boolean), Cond.methodLink RX1 47 yX2_get, Cond.methodLink RX1 55 yX1_endOf, Cond.instanceMethod yX1_endOf, Cond.selects RX1 yX1_endOf yX1_endOf, Cond.code yX1_endOf cX1_endOf 3 (some .int), Cond.methodLink RX3 102 yX1_extra, Cond.instanceMethod yX1_extra]
def wsX6_plan_r4 : List Cond := [Cond.selects RX1 yX1_extra yX1_extra, Cond.code yX1_extra cX1_extra 5 (some .int), Cond.methodLink RX3 105 yX1_hasFrozen, Cond.instanceMethod yX1_hasFrozen, Cond.selects RX1 yX1_hasFrozen yX1_hasFrozen, Cond.code yX1_hasFrozen cX1_hasFrozen 4 (some .boolean), Cond.methodLink RX1 58 yX1_isFrozen, Cond.instanceMethod yX1_isFrozen, Cond.selects RX1 yX1_isFrozen yX1_isFrozen, Cond.code yX1_isFrozen cX1_isFrozen 2 (some .boolean), Cond.methodLink RX3 108 yX1_isFrozen, Cond.methodLink RX3 115 yX1_badness, Cond.instanceMethod yX1_badness, Cond.selects RX1 yX1_badness yX1_badness, Cond.code yX1_badness cX1_badness 4 (some .int), Cond.methodLink RX1 62 yX1_extra, Cond.methodLink RX3 90 yX3_cellOf, Cond.static yX3_cellOf, Cond.code yX3_cellOf cX3_cellOf 2 (some .int), Cond.methodLink RX3 69 yX2_get, Cond.methodLink RX3 64 yX3_tryLines, Cond.static yX3_tryLines, Cond.code yX3_tryLines cX3_tryLines 9 none, Cond.fieldLink RX3 35 "WhiteRivers$Search" "sheet" "LWhiteRivers$Sheet;"]
def wsX6_plan_r5 : List Cond := [Cond.fieldLink RX3 51 "WhiteRivers$Search" "tried" "LWhiteRivers$Row;", Cond.methodLink RX3 129 Lib.Math.max.name, Cond.static Lib.Math.max.name, Cond.code Lib.Math.max.name Lib.Math.max.code 2 (some .int), Cond.methodLink RX3 121 yX3_keepTried, Cond.instanceMethod yX3_keepTried, Cond.selects RX3 yX3_keepTried yX3_keepTried, Cond.code yX3_keepTried cX3_keepTried 4 none, Cond.fieldLink RX3 54 "WhiteRivers$Search" "best" "LWhiteRivers$Row;", Cond.methodLink RX3 118 yX2_copyFrom, Cond.methodLink RX3 125 yX4_layLine, Cond.instanceMethod yX4_layLine, Cond.selects RX4 yX4_layLine yX4_layLine, Cond.initialized RX4, Cond.code yX4_layLine cX4_layLine 8 (some .int), Cond.fieldLink RX4 26 "WhiteRivers$Sheet" "reaches" "LWhiteRivers$Row;", Cond.methodLink RX4 58 Lib.Math.max.name, Cond.methodLink RX4 46 yX4_placeWords, Cond.instanceMethod yX4_placeWords, Cond.selects RX4 yX4_placeWords yX4_placeWords, Cond.code yX4_placeWords cX4_placeWords 11 none, Cond.fieldLink RX4 33 "WhiteRivers$Page" "words" "I", Cond.fieldLink RX4 14 "WhiteRivers$Sheet" "columns" "LWhiteRivers$Row;", Cond.fieldLink RX4 20 "WhiteRivers$Sheet" "gapColumns" "LWhiteRivers$Row;"]
def wsX6_plan_r6 : List Cond := [Cond.fieldLink RX4 23 "WhiteRivers$Sheet" "gapWidths" "LWhiteRivers$Row;", Cond.methodLink RX4 64 yX1_extra, Cond.methodLink RX4 54 yX2_set, Cond.methodLink RX4 67 yX1_lengthOf, Cond.instanceMethod yX1_lengthOf, Cond.selects RX1 yX1_lengthOf yX1_lengthOf, Cond.code yX1_lengthOf cX1_lengthOf 2 (some .int), Cond.methodLink RX4 50 yX4_reachAbove, Cond.instanceMethod yX4_reachAbove, Cond.selects RX4 yX4_reachAbove yX4_reachAbove, Cond.code yX4_reachAbove cX4_reachAbove 6 (some .int), Cond.methodLink RX4 70 yX4_meet, Cond.instanceMethod yX4_meet, Cond.selects RX4 yX4_meet yX4_meet, Cond.code yX4_meet cX4_meet 7 (some .boolean), Cond.methodLink RX4 74 Lib.Math.min.name, Cond.methodLink RX4 29 yX2_get, Cond.methodLink RX6 174 yX3_hasFound, Cond.instanceMethod yX3_hasFound, Cond.selects RX3 yX3_hasFound yX3_hasFound, Cond.code yX3_hasFound cX3_hasFound 1 (some .boolean), Cond.methodLink RX6 178 yX3_bestChanged, Cond.instanceMethod yX3_bestChanged, Cond.selects RX3 yX3_bestChanged yX3_bestChanged]
def wsX6_plan_r7 : List Cond := [Cond.code yX3_bestChanged cX3_bestChanged 1 (some .int), Cond.methodLink RX6 184 yX3_bestBadness, Cond.instanceMethod yX3_bestBadness, Cond.selects RX3 yX3_bestBadness yX3_bestBadness, Cond.code yX3_bestBadness cX3_bestBadness 1 (some .int)]
def wsX6_plan : List Cond := .code yX6_plan cX6_plan 3 (some .int) :: ((wsX6_plan_r1 ++ (wsX6_plan_r2 ++ (wsX6_plan_r3 ++ (wsX6_plan_r4 ++ (wsX6_plan_r5 ++ (wsX6_plan_r6 ++ wsX6_plan_r7)))))) ++ wsX60 ++ wsX30 ++ wsX10 ++ wsX20 ++ wsX40)
def wsX6_planned_r1 : List Cond := [Cond.fieldLink RX6 33 "WhiteRivers" "search" "LWhiteRivers$Search;", Cond.fieldLink RX6 10 "WhiteRivers" "page" "LWhiteRivers$Page;", Cond.fieldLink RX6 181 "WhiteRivers$Search" "bestLines" "I", Cond.methodLink RX6 44 yX6_isWithin, Cond.static yX6_isWithin, Cond.initialized RX6, Cond.code yX6_isWithin cX6_isWithin 3 (some .boolean), Cond.methodLink RX6 170 yX3_solve, Cond.instanceMethod yX3_solve, Cond.selects RX3 yX3_solve yX3_solve, Cond.initialized RX3, Cond.code yX3_solve cX3_solve 3 none, Cond.fieldLink RX3 22 "WhiteRivers$Search" "limit" "I", Cond.fieldLink RX3 28 "WhiteRivers$Search" "page" "LWhiteRivers$Page;", Cond.constant RX3 18 (1000000000), Cond.fieldLink RX3 19 "WhiteRivers$Search" "bestPrice" "I", Cond.fieldLink RX3 9 "WhiteRivers$Search" "bestLines" "I", Cond.fieldLink RX3 15 "WhiteRivers$Search" "bestRiver" "I", Cond.methodLink RX3 57 yX1_copyFrom, Cond.instanceMethod yX1_copyFrom, Cond.selects RX1 yX1_copyFrom yX1_copyFrom, Cond.initialized RX1, Cond.code yX1_copyFrom cX1_copyFrom 2 none, Cond.fieldLink RX1 9 "WhiteRivers$Page" "width" "I"]
def wsX6_planned_r2 : List Cond := [Cond.fieldLink RX1 15 "WhiteRivers$Page" "slack" "I", Cond.fieldLink RX1 18 "WhiteRivers$Page" "words" "I", Cond.fieldLink RX1 26 "WhiteRivers$Page" "lengths" "LWhiteRivers$Row;", Cond.fieldLink RX1 30 "WhiteRivers$Page" "begins" "LWhiteRivers$Row;", Cond.fieldLink RX1 33 "WhiteRivers$Page" "frozen" "LWhiteRivers$Row;", Cond.methodLink RX1 36 yX2_copyFrom, Cond.instanceMethod yX2_copyFrom, Cond.selects RX2 yX2_copyFrom yX2_copyFrom, Cond.initialized RX2, Cond.code yX2_copyFrom cX2_copyFrom 3 none, Cond.fieldLink RX2 13 "WhiteRivers$Row" "cells" "[I", Cond.methodLink RX2 19 yX2_get, Cond.instanceMethod yX2_get, Cond.selects RX2 yX2_get yX2_get, Cond.code yX2_get cX2_get 2 (some .int), Cond.methodLink RX3 61 yX3_setPrices, Cond.instanceMethod yX3_setPrices, Cond.selects RX3 yX3_setPrices yX3_setPrices, Cond.code yX3_setPrices cX3_setPrices 5 none, Cond.fieldLink RX3 48 "WhiteRivers$Search" "leastPrices" "LWhiteRivers$Row;", Cond.fieldLink RX3 79 "WhiteRivers$Page" "words" "I", Cond.fieldLink RX3 44 "WhiteRivers$Search" "prices" "LWhiteRivers$Row;", Cond.methodLink RX3 93 Lib.Math.min.name, Cond.static Lib.Math.min.name]
def wsX6_planned_r3 : List Cond := [Cond.initialized "java/lang/Math", Cond.code Lib.Math.min.name Lib.Math.min.code 2 (some .int), Cond.methodLink RX3 82 yX2_set, Cond.instanceMethod yX2_set, Cond.selects RX2 yX2_set yX2_set, Cond.code yX2_set cX2_set 3 none, Cond.methodLink RX3 86 yX3_priceOf, Cond.instanceMethod yX3_priceOf, Cond.selects RX3 yX3_priceOf yX3_priceOf, Cond.code yX3_priceOf cX3_priceOf 5 (some .int), Cond.fieldLink RX3 112 "WhiteRivers$Page" "slack" "I", Cond.constant RX3 68 (100000), Cond.methodLink RX3 98 yX1_isLine, Cond.instanceMethod yX1_isLine, Cond.selects RX1 yX1_isLine yX1_isLine, Cond.code yX1_isLine cX1_isLine 3 (some .boolean), Cond.methodLink RX1 47 yX2_get, Cond.methodLink RX1 55 yX1_endOf, Cond.instanceMethod yX1_endOf, Cond.selects RX1 yX1_endOf yX1_endOf, Cond.code yX1_endOf cX1_endOf 3 (some .int), Cond.methodLink RX3 102 yX1_extra, Cond.instanceMethod yX1_extra, Cond.selects RX1 yX1_extra yX1_extra]
def wsX6_planned_r4 : List Cond := [Cond.code yX1_extra cX1_extra 5 (some .int), Cond.methodLink RX3 105 yX1_hasFrozen, Cond.instanceMethod yX1_hasFrozen, Cond.selects RX1 yX1_hasFrozen yX1_hasFrozen, Cond.code yX1_hasFrozen cX1_hasFrozen 4 (some .boolean), Cond.methodLink RX1 58 yX1_isFrozen, Cond.instanceMethod yX1_isFrozen, Cond.selects RX1 yX1_isFrozen yX1_isFrozen, Cond.code yX1_isFrozen cX1_isFrozen 2 (some .boolean), Cond.methodLink RX3 108 yX1_isFrozen, Cond.methodLink RX3 115 yX1_badness, Cond.instanceMethod yX1_badness, Cond.selects RX1 yX1_badness yX1_badness, Cond.code yX1_badness cX1_badness 4 (some .int), Cond.methodLink RX1 62 yX1_extra, Cond.methodLink RX3 90 yX3_cellOf, Cond.static yX3_cellOf, Cond.code yX3_cellOf cX3_cellOf 2 (some .int), Cond.methodLink RX3 69 yX2_get, Cond.methodLink RX3 64 yX3_tryLines, Cond.static yX3_tryLines, Cond.code yX3_tryLines cX3_tryLines 9 none, Cond.fieldLink RX3 35 "WhiteRivers$Search" "sheet" "LWhiteRivers$Sheet;", Cond.fieldLink RX3 51 "WhiteRivers$Search" "tried" "LWhiteRivers$Row;"]
def wsX6_planned_r5 : List Cond := [Cond.methodLink RX3 129 Lib.Math.max.name, Cond.static Lib.Math.max.name, Cond.code Lib.Math.max.name Lib.Math.max.code 2 (some .int), Cond.methodLink RX3 121 yX3_keepTried, Cond.instanceMethod yX3_keepTried, Cond.selects RX3 yX3_keepTried yX3_keepTried, Cond.code yX3_keepTried cX3_keepTried 4 none, Cond.fieldLink RX3 54 "WhiteRivers$Search" "best" "LWhiteRivers$Row;", Cond.methodLink RX3 118 yX2_copyFrom, Cond.methodLink RX3 125 yX4_layLine, Cond.instanceMethod yX4_layLine, Cond.selects RX4 yX4_layLine yX4_layLine, Cond.initialized RX4, Cond.code yX4_layLine cX4_layLine 8 (some .int), Cond.fieldLink RX4 26 "WhiteRivers$Sheet" "reaches" "LWhiteRivers$Row;", Cond.methodLink RX4 58 Lib.Math.max.name, Cond.methodLink RX4 46 yX4_placeWords, Cond.instanceMethod yX4_placeWords, Cond.selects RX4 yX4_placeWords yX4_placeWords, Cond.code yX4_placeWords cX4_placeWords 11 none, Cond.fieldLink RX4 33 "WhiteRivers$Page" "words" "I", Cond.fieldLink RX4 14 "WhiteRivers$Sheet" "columns" "LWhiteRivers$Row;", Cond.fieldLink RX4 20 "WhiteRivers$Sheet" "gapColumns" "LWhiteRivers$Row;", Cond.fieldLink RX4 23 "WhiteRivers$Sheet" "gapWidths" "LWhiteRivers$Row;"]
def wsX6_planned_r6 : List Cond := [Cond.methodLink RX4 64 yX1_extra, Cond.methodLink RX4 54 yX2_set, Cond.methodLink RX4 67 yX1_lengthOf, Cond.instanceMethod yX1_lengthOf, Cond.selects RX1 yX1_lengthOf yX1_lengthOf, Cond.code yX1_lengthOf cX1_lengthOf 2 (some .int), Cond.methodLink RX4 50 yX4_reachAbove, Cond.instanceMethod yX4_reachAbove, Cond.selects RX4 yX4_reachAbove yX4_reachAbove, Cond.code yX4_reachAbove cX4_reachAbove 6 (some .int), Cond.methodLink RX4 70 yX4_meet, Cond.instanceMethod yX4_meet, Cond.selects RX4 yX4_meet yX4_meet, Cond.code yX4_meet cX4_meet 7 (some .boolean), Cond.methodLink RX4 74 Lib.Math.min.name, Cond.methodLink RX4 29 yX2_get, Cond.methodLink RX6 174 yX3_hasFound, Cond.instanceMethod yX3_hasFound, Cond.selects RX3 yX3_hasFound yX3_hasFound, Cond.code yX3_hasFound cX3_hasFound 1 (some .boolean), Cond.methodLink RX6 190 yX3_bestWords, Cond.instanceMethod yX3_bestWords, Cond.selects RX3 yX3_bestWords yX3_bestWords, Cond.code yX3_bestWords cX3_bestWords 2 (some .int)]
def wsX6_planned : List Cond := .code yX6_planned cX6_planned 3 (some .int) :: ((wsX6_planned_r1 ++ (wsX6_planned_r2 ++ (wsX6_planned_r3 ++ (wsX6_planned_r4 ++ (wsX6_planned_r5 ++ wsX6_planned_r6))))) ++ wsX60 ++ wsX30 ++ wsX10 ++ wsX20 ++ wsX40)
def wsX6_dam_r1 : List Cond := [Cond.fieldLink RX6 33 "WhiteRivers" "search" "LWhiteRivers$Search;", Cond.fieldLink RX6 10 "WhiteRivers" "page" "LWhiteRivers$Page;", Cond.methodLink RX6 44 yX6_isWithin, Cond.static yX6_isWithin, Cond.initialized RX6, Cond.code yX6_isWithin cX6_isWithin 3 (some .boolean), Cond.methodLink RX6 170 yX3_solve, Cond.instanceMethod yX3_solve, Cond.selects RX3 yX3_solve yX3_solve, Cond.initialized RX3, Cond.code yX3_solve cX3_solve 3 none, Cond.fieldLink RX3 22 "WhiteRivers$Search" "limit" "I", Cond.fieldLink RX3 28 "WhiteRivers$Search" "page" "LWhiteRivers$Page;", Cond.constant RX3 18 (1000000000), Cond.fieldLink RX3 19 "WhiteRivers$Search" "bestPrice" "I", Cond.fieldLink RX3 9 "WhiteRivers$Search" "bestLines" "I", Cond.fieldLink RX3 15 "WhiteRivers$Search" "bestRiver" "I", Cond.methodLink RX3 57 yX1_copyFrom, Cond.instanceMethod yX1_copyFrom, Cond.selects RX1 yX1_copyFrom yX1_copyFrom, Cond.initialized RX1, Cond.code yX1_copyFrom cX1_copyFrom 2 none, Cond.fieldLink RX1 9 "WhiteRivers$Page" "width" "I", Cond.fieldLink RX1 15 "WhiteRivers$Page" "slack" "I"]
def wsX6_dam_r2 : List Cond := [Cond.fieldLink RX1 18 "WhiteRivers$Page" "words" "I", Cond.fieldLink RX1 26 "WhiteRivers$Page" "lengths" "LWhiteRivers$Row;", Cond.fieldLink RX1 30 "WhiteRivers$Page" "begins" "LWhiteRivers$Row;", Cond.fieldLink RX1 33 "WhiteRivers$Page" "frozen" "LWhiteRivers$Row;", Cond.methodLink RX1 36 yX2_copyFrom, Cond.instanceMethod yX2_copyFrom, Cond.selects RX2 yX2_copyFrom yX2_copyFrom, Cond.initialized RX2, Cond.code yX2_copyFrom cX2_copyFrom 3 none, Cond.fieldLink RX2 13 "WhiteRivers$Row" "cells" "[I", Cond.methodLink RX2 19 yX2_get, Cond.instanceMethod yX2_get, Cond.selects RX2 yX2_get yX2_get, Cond.code yX2_get cX2_get 2 (some .int), Cond.methodLink RX3 61 yX3_setPrices, Cond.instanceMethod yX3_setPrices, Cond.selects RX3 yX3_setPrices yX3_setPrices, Cond.code yX3_setPrices cX3_setPrices 5 none, Cond.fieldLink RX3 48 "WhiteRivers$Search" "leastPrices" "LWhiteRivers$Row;", Cond.fieldLink RX3 79 "WhiteRivers$Page" "words" "I", Cond.fieldLink RX3 44 "WhiteRivers$Search" "prices" "LWhiteRivers$Row;", Cond.methodLink RX3 93 Lib.Math.min.name, Cond.static Lib.Math.min.name, Cond.initialized "java/lang/Math"]
def wsX6_dam_r3 : List Cond := [Cond.code Lib.Math.min.name Lib.Math.min.code 2 (some .int), Cond.methodLink RX3 82 yX2_set, Cond.instanceMethod yX2_set, Cond.selects RX2 yX2_set yX2_set, Cond.code yX2_set cX2_set 3 none, Cond.methodLink RX3 86 yX3_priceOf, Cond.instanceMethod yX3_priceOf, Cond.selects RX3 yX3_priceOf yX3_priceOf, Cond.code yX3_priceOf cX3_priceOf 5 (some .int), Cond.fieldLink RX3 112 "WhiteRivers$Page" "slack" "I", Cond.constant RX3 68 (100000), Cond.methodLink RX3 98 yX1_isLine, Cond.instanceMethod yX1_isLine, Cond.selects RX1 yX1_isLine yX1_isLine, Cond.code yX1_isLine cX1_isLine 3 (some .boolean), Cond.methodLink RX1 47 yX2_get, Cond.methodLink RX1 55 yX1_endOf, Cond.instanceMethod yX1_endOf, Cond.selects RX1 yX1_endOf yX1_endOf, Cond.code yX1_endOf cX1_endOf 3 (some .int), Cond.methodLink RX3 102 yX1_extra, Cond.instanceMethod yX1_extra, Cond.selects RX1 yX1_extra yX1_extra, Cond.code yX1_extra cX1_extra 5 (some .int)]
def wsX6_dam_r4 : List Cond := [Cond.methodLink RX3 105 yX1_hasFrozen, Cond.instanceMethod yX1_hasFrozen, Cond.selects RX1 yX1_hasFrozen yX1_hasFrozen, Cond.code yX1_hasFrozen cX1_hasFrozen 4 (some .boolean), Cond.methodLink RX1 58 yX1_isFrozen, Cond.instanceMethod yX1_isFrozen, Cond.selects RX1 yX1_isFrozen yX1_isFrozen, Cond.code yX1_isFrozen cX1_isFrozen 2 (some .boolean), Cond.methodLink RX3 108 yX1_isFrozen, Cond.methodLink RX3 115 yX1_badness, Cond.instanceMethod yX1_badness, Cond.selects RX1 yX1_badness yX1_badness, Cond.code yX1_badness cX1_badness 4 (some .int), Cond.methodLink RX1 62 yX1_extra, Cond.methodLink RX3 90 yX3_cellOf, Cond.static yX3_cellOf, Cond.code yX3_cellOf cX3_cellOf 2 (some .int), Cond.methodLink RX3 69 yX2_get, Cond.methodLink RX3 64 yX3_tryLines, Cond.static yX3_tryLines, Cond.code yX3_tryLines cX3_tryLines 9 none, Cond.fieldLink RX3 35 "WhiteRivers$Search" "sheet" "LWhiteRivers$Sheet;", Cond.fieldLink RX3 51 "WhiteRivers$Search" "tried" "LWhiteRivers$Row;", Cond.methodLink RX3 129 Lib.Math.max.name]
def wsX6_dam_r5 : List Cond := [Cond.static Lib.Math.max.name, Cond.code Lib.Math.max.name Lib.Math.max.code 2 (some .int), Cond.methodLink RX3 121 yX3_keepTried, Cond.instanceMethod yX3_keepTried, Cond.selects RX3 yX3_keepTried yX3_keepTried, Cond.code yX3_keepTried cX3_keepTried 4 none, Cond.fieldLink RX3 54 "WhiteRivers$Search" "best" "LWhiteRivers$Row;", Cond.methodLink RX3 118 yX2_copyFrom, Cond.methodLink RX3 125 yX4_layLine, Cond.instanceMethod yX4_layLine, Cond.selects RX4 yX4_layLine yX4_layLine, Cond.initialized RX4, Cond.code yX4_layLine cX4_layLine 8 (some .int), Cond.fieldLink RX4 26 "WhiteRivers$Sheet" "reaches" "LWhiteRivers$Row;", Cond.methodLink RX4 58 Lib.Math.max.name, Cond.methodLink RX4 46 yX4_placeWords, Cond.instanceMethod yX4_placeWords, Cond.selects RX4 yX4_placeWords yX4_placeWords, Cond.code yX4_placeWords cX4_placeWords 11 none, Cond.fieldLink RX4 33 "WhiteRivers$Page" "words" "I", Cond.fieldLink RX4 14 "WhiteRivers$Sheet" "columns" "LWhiteRivers$Row;", Cond.fieldLink RX4 20 "WhiteRivers$Sheet" "gapColumns" "LWhiteRivers$Row;", Cond.fieldLink RX4 23 "WhiteRivers$Sheet" "gapWidths" "LWhiteRivers$Row;", Cond.methodLink RX4 64 yX1_extra]
def wsX6_dam_r6 : List Cond := [Cond.methodLink RX4 54 yX2_set, Cond.methodLink RX4 67 yX1_lengthOf, Cond.instanceMethod yX1_lengthOf, Cond.selects RX1 yX1_lengthOf yX1_lengthOf, Cond.code yX1_lengthOf cX1_lengthOf 2 (some .int), Cond.methodLink RX4 50 yX4_reachAbove, Cond.instanceMethod yX4_reachAbove, Cond.selects RX4 yX4_reachAbove yX4_reachAbove, Cond.code yX4_reachAbove cX4_reachAbove 6 (some .int), Cond.methodLink RX4 70 yX4_meet, Cond.instanceMethod yX4_meet, Cond.selects RX4 yX4_meet yX4_meet, Cond.code yX4_meet cX4_meet 7 (some .boolean), Cond.methodLink RX4 74 Lib.Math.min.name, Cond.methodLink RX4 29 yX2_get, Cond.methodLink RX6 174 yX3_hasFound, Cond.instanceMethod yX3_hasFound, Cond.selects RX3 yX3_hasFound yX3_hasFound, Cond.code yX3_hasFound cX3_hasFound 1 (some .boolean), Cond.methodLink RX6 178 yX3_bestChanged, Cond.instanceMethod yX3_bestChanged, Cond.selects RX3 yX3_bestChanged yX3_bestChanged, Cond.code yX3_bestChanged cX3_bestChanged 1 (some .int), Cond.methodLink RX6 52 yX6_beginChange]
def wsX6_dam_r7 : List Cond := [Cond.instanceMethod yX6_beginChange, Cond.selects RX6 yX6_beginChange yX6_beginChange, Cond.code yX6_beginChange cX6_beginChange 1 none, Cond.fieldLink RX6 19 "WhiteRivers" "history" "LWhiteRivers$History;", Cond.methodLink RX6 203 yX0_keep, Cond.instanceMethod yX0_keep, Cond.selects RX0 yX0_keep yX0_keep, Cond.initialized RX0, Cond.code yX0_keep cX0_keep 3 none, Cond.fieldLink RX0 9 "WhiteRivers$History" "states" "I", Cond.fieldLink RX0 17 "WhiteRivers$History" "pages" "[LWhiteRivers$Page;", Cond.methodLink RX0 22 yX0_dropOldest, Cond.instanceMethod yX0_dropOldest, Cond.selects RX0 yX0_dropOldest yX0_dropOldest, Cond.code yX0_dropOldest cX0_dropOldest 3 none, Cond.methodLink RX0 25 yX0_pageAt, Cond.instanceMethod yX0_pageAt, Cond.selects RX0 yX0_pageAt yX0_pageAt, Cond.code yX0_pageAt cX0_pageAt 2 (some (.object "WhiteRivers$Page")), Cond.methodLink RX0 29 yX1_copyFrom, Cond.methodLink RX6 148 yX3_forget, Cond.instanceMethod yX3_forget, Cond.selects RX3 yX3_forget yX3_forget, Cond.code yX3_forget cX3_forget 1 none]
def wsX6_dam_r8 : List Cond := [Cond.methodLink RX6 193 yX3_divide, Cond.instanceMethod yX3_divide, Cond.selects RX3 yX3_divide yX3_divide, Cond.code yX3_divide cX3_divide 4 none, Cond.methodLink RX3 73 yX1_joinAll, Cond.instanceMethod yX1_joinAll, Cond.selects RX1 yX1_joinAll yX1_joinAll, Cond.code yX1_joinAll cX1_joinAll 1 none, Cond.methodLink RX1 40 yX2_clear, Cond.instanceMethod yX2_clear, Cond.selects RX2 yX2_clear yX2_clear, Cond.code yX2_clear cX2_clear 2 none, Cond.methodLink RX3 76 yX1_begin, Cond.instanceMethod yX1_begin, Cond.selects RX1 yX1_begin yX1_begin, Cond.code yX1_begin cX1_begin 2 none, Cond.methodLink RX1 43 yX2_set]
def wsX6_dam : List Cond := .code yX6_dam cX6_dam 3 (some .int) :: ((wsX6_dam_r1 ++ (wsX6_dam_r2 ++ (wsX6_dam_r3 ++ (wsX6_dam_r4 ++ (wsX6_dam_r5 ++ (wsX6_dam_r6 ++ (wsX6_dam_r7 ++ wsX6_dam_r8))))))) ++ wsX60 ++ wsX30 ++ wsX10 ++ wsX20 ++ wsX40 ++ wsX00)
def wsX6_leastRiver_r1 : List Cond := [Cond.fieldLink RX6 33 "WhiteRivers" "search" "LWhiteRivers$Search;", Cond.fieldLink RX6 10 "WhiteRivers" "page" "LWhiteRivers$Page;", Cond.methodLink RX6 170 yX3_solve, Cond.instanceMethod yX3_solve, Cond.selects RX3 yX3_solve yX3_solve, Cond.initialized RX3, Cond.code yX3_solve cX3_solve 3 none, Cond.fieldLink RX3 22 "WhiteRivers$Search" "limit" "I", Cond.fieldLink RX3 28 "WhiteRivers$Search" "page" "LWhiteRivers$Page;", Cond.constant RX3 18 (1000000000), Cond.fieldLink RX3 19 "WhiteRivers$Search" "bestPrice" "I", Cond.fieldLink RX3 9 "WhiteRivers$Search" "bestLines" "I", Cond.fieldLink RX3 15 "WhiteRivers$Search" "bestRiver" "I", Cond.methodLink RX3 57 yX1_copyFrom, Cond.instanceMethod yX1_copyFrom, Cond.selects RX1 yX1_copyFrom yX1_copyFrom, Cond.initialized RX1, Cond.code yX1_copyFrom cX1_copyFrom 2 none, Cond.fieldLink RX1 9 "WhiteRivers$Page" "width" "I", Cond.fieldLink RX1 15 "WhiteRivers$Page" "slack" "I", Cond.fieldLink RX1 18 "WhiteRivers$Page" "words" "I", Cond.fieldLink RX1 26 "WhiteRivers$Page" "lengths" "LWhiteRivers$Row;", Cond.fieldLink RX1 30 "WhiteRivers$Page" "begins" "LWhiteRivers$Row;", Cond.fieldLink RX1 33 "WhiteRivers$Page" "frozen" "LWhiteRivers$Row;"]
def wsX6_leastRiver_r2 : List Cond := [Cond.methodLink RX1 36 yX2_copyFrom, Cond.instanceMethod yX2_copyFrom, Cond.selects RX2 yX2_copyFrom yX2_copyFrom, Cond.initialized RX2, Cond.code yX2_copyFrom cX2_copyFrom 3 none, Cond.fieldLink RX2 13 "WhiteRivers$Row" "cells" "[I", Cond.methodLink RX2 19 yX2_get, Cond.instanceMethod yX2_get, Cond.selects RX2 yX2_get yX2_get, Cond.code yX2_get cX2_get 2 (some .int), Cond.methodLink RX3 61 yX3_setPrices, Cond.instanceMethod yX3_setPrices, Cond.selects RX3 yX3_setPrices yX3_setPrices, Cond.code yX3_setPrices cX3_setPrices 5 none, Cond.fieldLink RX3 48 "WhiteRivers$Search" "leastPrices" "LWhiteRivers$Row;", Cond.fieldLink RX3 79 "WhiteRivers$Page" "words" "I", Cond.fieldLink RX3 44 "WhiteRivers$Search" "prices" "LWhiteRivers$Row;", Cond.methodLink RX3 93 Lib.Math.min.name, Cond.static Lib.Math.min.name, Cond.initialized "java/lang/Math", Cond.code Lib.Math.min.name Lib.Math.min.code 2 (some .int), Cond.methodLink RX3 82 yX2_set, Cond.instanceMethod yX2_set, Cond.selects RX2 yX2_set yX2_set]
def wsX6_leastRiver_r3 : List Cond := [Cond.code yX2_set cX2_set 3 none, Cond.methodLink RX3 86 yX3_priceOf, Cond.instanceMethod yX3_priceOf, Cond.selects RX3 yX3_priceOf yX3_priceOf, Cond.code yX3_priceOf cX3_priceOf 5 (some .int), Cond.fieldLink RX3 112 "WhiteRivers$Page" "slack" "I", Cond.constant RX3 68 (100000), Cond.methodLink RX3 98 yX1_isLine, Cond.instanceMethod yX1_isLine, Cond.selects RX1 yX1_isLine yX1_isLine, Cond.code yX1_isLine cX1_isLine 3 (some .boolean), Cond.methodLink RX1 47 yX2_get, Cond.methodLink RX1 55 yX1_endOf, Cond.instanceMethod yX1_endOf, Cond.selects RX1 yX1_endOf yX1_endOf, Cond.code yX1_endOf cX1_endOf 3 (some .int), Cond.methodLink RX3 102 yX1_extra, Cond.instanceMethod yX1_extra, Cond.selects RX1 yX1_extra yX1_extra, Cond.code yX1_extra cX1_extra 5 (some .int), Cond.methodLink RX3 105 yX1_hasFrozen, Cond.instanceMethod yX1_hasFrozen, Cond.selects RX1 yX1_hasFrozen yX1_hasFrozen, Cond.code yX1_hasFrozen cX1_hasFrozen 4 (some .boolean)]
def wsX6_leastRiver_r4 : List Cond := [Cond.methodLink RX1 58 yX1_isFrozen, Cond.instanceMethod yX1_isFrozen, Cond.selects RX1 yX1_isFrozen yX1_isFrozen, Cond.code yX1_isFrozen cX1_isFrozen 2 (some .boolean), Cond.methodLink RX3 108 yX1_isFrozen, Cond.methodLink RX3 115 yX1_badness, Cond.instanceMethod yX1_badness, Cond.selects RX1 yX1_badness yX1_badness, Cond.code yX1_badness cX1_badness 4 (some .int), Cond.methodLink RX1 62 yX1_extra, Cond.methodLink RX3 90 yX3_cellOf, Cond.static yX3_cellOf, Cond.code yX3_cellOf cX3_cellOf 2 (some .int), Cond.methodLink RX3 69 yX2_get, Cond.methodLink RX3 64 yX3_tryLines, Cond.static yX3_tryLines, Cond.code yX3_tryLines cX3_tryLines 9 none, Cond.fieldLink RX3 35 "WhiteRivers$Search" "sheet" "LWhiteRivers$Sheet;", Cond.fieldLink RX3 51 "WhiteRivers$Search" "tried" "LWhiteRivers$Row;", Cond.methodLink RX3 129 Lib.Math.max.name, Cond.static Lib.Math.max.name, Cond.code Lib.Math.max.name Lib.Math.max.code 2 (some .int), Cond.methodLink RX3 121 yX3_keepTried, Cond.instanceMethod yX3_keepTried]
def wsX6_leastRiver_r5 : List Cond := [Cond.selects RX3 yX3_keepTried yX3_keepTried, Cond.code yX3_keepTried cX3_keepTried 4 none, Cond.fieldLink RX3 54 "WhiteRivers$Search" "best" "LWhiteRivers$Row;", Cond.methodLink RX3 118 yX2_copyFrom, Cond.methodLink RX3 125 yX4_layLine, Cond.instanceMethod yX4_layLine, Cond.selects RX4 yX4_layLine yX4_layLine, Cond.initialized RX4, Cond.code yX4_layLine cX4_layLine 8 (some .int), Cond.fieldLink RX4 26 "WhiteRivers$Sheet" "reaches" "LWhiteRivers$Row;", Cond.methodLink RX4 58 Lib.Math.max.name, Cond.methodLink RX4 46 yX4_placeWords, Cond.instanceMethod yX4_placeWords, Cond.selects RX4 yX4_placeWords yX4_placeWords, Cond.code yX4_placeWords cX4_placeWords 11 none, Cond.fieldLink RX4 33 "WhiteRivers$Page" "words" "I", Cond.fieldLink RX4 14 "WhiteRivers$Sheet" "columns" "LWhiteRivers$Row;", Cond.fieldLink RX4 20 "WhiteRivers$Sheet" "gapColumns" "LWhiteRivers$Row;", Cond.fieldLink RX4 23 "WhiteRivers$Sheet" "gapWidths" "LWhiteRivers$Row;", Cond.methodLink RX4 64 yX1_extra, Cond.methodLink RX4 54 yX2_set, Cond.methodLink RX4 67 yX1_lengthOf, Cond.instanceMethod yX1_lengthOf, Cond.selects RX1 yX1_lengthOf yX1_lengthOf]
def wsX6_leastRiver_r6 : List Cond := [Cond.code yX1_lengthOf cX1_lengthOf 2 (some .int), Cond.methodLink RX4 50 yX4_reachAbove, Cond.instanceMethod yX4_reachAbove, Cond.selects RX4 yX4_reachAbove yX4_reachAbove, Cond.code yX4_reachAbove cX4_reachAbove 6 (some .int), Cond.methodLink RX4 70 yX4_meet, Cond.instanceMethod yX4_meet, Cond.selects RX4 yX4_meet yX4_meet, Cond.code yX4_meet cX4_meet 7 (some .boolean), Cond.methodLink RX4 74 Lib.Math.min.name, Cond.methodLink RX4 29 yX2_get, Cond.methodLink RX6 174 yX3_hasFound, Cond.instanceMethod yX3_hasFound, Cond.selects RX3 yX3_hasFound yX3_hasFound, Cond.code yX3_hasFound cX3_hasFound 1 (some .boolean)]
def wsX6_leastRiver : List Cond := .code yX6_leastRiver cX6_leastRiver 2 (some .int) :: ((wsX6_leastRiver_r1 ++ (wsX6_leastRiver_r2 ++ (wsX6_leastRiver_r3 ++ (wsX6_leastRiver_r4 ++ (wsX6_leastRiver_r5 ++ wsX6_leastRiver_r6))))) ++ wsX60 ++ wsX30 ++ wsX10 ++ wsX20 ++ wsX40)
def wsX6_type : List Cond := .code yX6_type cX6_type 2 (some .int) :: ([.fieldLink RX6 40 "WhiteRivers" "text" "LWhiteRivers$Text;", .fieldLink RX6 124 "WhiteRivers$Text" "length" "I", .methodLink RX6 44 yX6_isWithin, .static yX6_isWithin, .initialized RX6, .code yX6_isWithin cX6_isWithin 3 (some .boolean), .methodLink RX6 196 yX5_append, .instanceMethod yX5_append, .selects RX5 yX5_append yX5_append, .initialized RX5, .code yX5_append cX5_append 2 none, .fieldLink RX5 20 "WhiteRivers$Text" "characters" "LWhiteRivers$Row;", .fieldLink RX5 9 "WhiteRivers$Text" "length" "I", .methodLink RX5 24 yX2_set, .instanceMethod yX2_set, .selects RX2 yX2_set yX2_set, .initialized RX2, .code yX2_set cX2_set 3 none, .fieldLink RX2 13 "WhiteRivers$Row" "cells" "[I"] ++ wsX60 ++ wsX50 ++ wsX20)
def wsX6_clearText : List Cond := .code yX6_clearText cX6_clearText 2 (some .int) :: ([.fieldLink RX6 40 "WhiteRivers" "text" "LWhiteRivers$Text;", .fieldLink RX6 124 "WhiteRivers$Text" "length" "I"] ++ wsX60 ++ wsX50)
def wsX6_fault : List Cond := .code yX6_fault cX6_fault 1 (some .int) :: ([.fieldLink RX6 40 "WhiteRivers" "text" "LWhiteRivers$Text;", .methodLink RX6 197 yX5_firstFault, .instanceMethod yX5_firstFault, .selects RX5 yX5_firstFault yX5_firstFault, .initialized RX5, .code yX5_firstFault cX5_firstFault 4 (some .int), .fieldLink RX5 9 "WhiteRivers$Text" "length" "I", .fieldLink RX5 20 "WhiteRivers$Text" "characters" "LWhiteRivers$Row;", .methodLink RX5 28 yX2_get, .instanceMethod yX2_get, .selects RX2 yX2_get yX2_get, .initialized RX2, .code yX2_get cX2_get 2 (some .int), .fieldLink RX2 13 "WhiteRivers$Row" "cells" "[I"] ++ wsX60 ++ wsX50 ++ wsX20)
def wsX6_read_r1 : List Cond := [Cond.fieldLink RX6 40 "WhiteRivers" "text" "LWhiteRivers$Text;", Cond.fieldLink RX6 10 "WhiteRivers" "page" "LWhiteRivers$Page;", Cond.fieldLink RX6 68 "WhiteRivers$Page" "words" "I", Cond.methodLink RX6 197 yX5_firstFault, Cond.instanceMethod yX5_firstFault, Cond.selects RX5 yX5_firstFault yX5_firstFault, Cond.initialized RX5, Cond.code yX5_firstFault cX5_firstFault 4 (some .int), Cond.fieldLink RX5 9 "WhiteRivers$Text" "length" "I", Cond.fieldLink RX5 20 "WhiteRivers$Text" "characters" "LWhiteRivers$Row;", Cond.methodLink RX5 28 yX2_get, Cond.instanceMethod yX2_get, Cond.selects RX2 yX2_get yX2_get, Cond.initialized RX2, Cond.code yX2_get cX2_get 2 (some .int), Cond.fieldLink RX2 13 "WhiteRivers$Row" "cells" "[I", Cond.methodLink RX6 52 yX6_beginChange, Cond.instanceMethod yX6_beginChange, Cond.selects RX6 yX6_beginChange yX6_beginChange, Cond.initialized RX6, Cond.code yX6_beginChange cX6_beginChange 1 none, Cond.fieldLink RX6 19 "WhiteRivers" "history" "LWhiteRivers$History;", Cond.fieldLink RX6 33 "WhiteRivers" "search" "LWhiteRivers$Search;", Cond.methodLink RX6 203 yX0_keep]
def wsX6_read_r2 : List Cond := [Cond.instanceMethod yX0_keep, Cond.selects RX0 yX0_keep yX0_keep, Cond.initialized RX0, Cond.code yX0_keep cX0_keep 3 none, Cond.fieldLink RX0 9 "WhiteRivers$History" "states" "I", Cond.fieldLink RX0 17 "WhiteRivers$History" "pages" "[LWhiteRivers$Page;", Cond.methodLink RX0 22 yX0_dropOldest, Cond.instanceMethod yX0_dropOldest, Cond.selects RX0 yX0_dropOldest yX0_dropOldest, Cond.code yX0_dropOldest cX0_dropOldest 3 none, Cond.methodLink RX0 25 yX0_pageAt, Cond.instanceMethod yX0_pageAt, Cond.selects RX0 yX0_pageAt yX0_pageAt, Cond.code yX0_pageAt cX0_pageAt 2 (some (.object "WhiteRivers$Page")), Cond.methodLink RX0 29 yX1_copyFrom, Cond.instanceMethod yX1_copyFrom, Cond.selects RX1 yX1_copyFrom yX1_copyFrom, Cond.initialized RX1, Cond.code yX1_copyFrom cX1_copyFrom 2 none, Cond.fieldLink RX1 9 "WhiteRivers$Page" "width" "I", Cond.fieldLink RX1 15 "WhiteRivers$Page" "slack" "I", Cond.fieldLink RX1 18 "WhiteRivers$Page" "words" "I", Cond.fieldLink RX1 26 "WhiteRivers$Page" "lengths" "LWhiteRivers$Row;", Cond.fieldLink RX1 30 "WhiteRivers$Page" "begins" "LWhiteRivers$Row;"]
def wsX6_read_r3 : List Cond := [Cond.fieldLink RX1 33 "WhiteRivers$Page" "frozen" "LWhiteRivers$Row;", Cond.methodLink RX1 36 yX2_copyFrom, Cond.instanceMethod yX2_copyFrom, Cond.selects RX2 yX2_copyFrom yX2_copyFrom, Cond.code yX2_copyFrom cX2_copyFrom 3 none, Cond.methodLink RX2 19 yX2_get, Cond.methodLink RX6 148 yX3_forget, Cond.instanceMethod yX3_forget, Cond.selects RX3 yX3_forget yX3_forget, Cond.initialized RX3, Cond.code yX3_forget cX3_forget 1 none, Cond.fieldLink RX3 22 "WhiteRivers$Search" "limit" "I", Cond.methodLink RX6 200 yX5_giveWords, Cond.instanceMethod yX5_giveWords, Cond.selects RX5 yX5_giveWords yX5_giveWords, Cond.code yX5_giveWords cX5_giveWords 4 none, Cond.methodLink RX5 32 yX1_removeAll, Cond.instanceMethod yX1_removeAll, Cond.selects RX1 yX1_removeAll yX1_removeAll, Cond.code yX1_removeAll cX1_removeAll 1 none, Cond.methodLink RX1 40 yX2_clear, Cond.instanceMethod yX2_clear, Cond.selects RX2 yX2_clear yX2_clear, Cond.code yX2_clear cX2_clear 2 none]
def wsX6_read_r4 : List Cond := [Cond.methodLink RX5 37 yX1_append, Cond.instanceMethod yX1_append, Cond.selects RX1 yX1_append yX1_append, Cond.code yX1_append cX1_append 2 none, Cond.methodLink RX1 43 yX2_set, Cond.instanceMethod yX2_set, Cond.selects RX2 yX2_set yX2_set, Cond.code yX2_set cX2_set 3 none, Cond.methodLink RX6 59 yX1_fill, Cond.instanceMethod yX1_fill, Cond.selects RX1 yX1_fill yX1_fill, Cond.code yX1_fill cX1_fill 3 none, Cond.methodLink RX1 69 yX1_joinAll, Cond.instanceMethod yX1_joinAll, Cond.selects RX1 yX1_joinAll yX1_joinAll, Cond.code yX1_joinAll cX1_joinAll 1 none, Cond.methodLink RX1 72 yX1_fits, Cond.instanceMethod yX1_fits, Cond.selects RX1 yX1_fits yX1_fits, Cond.code yX1_fits cX1_fits 3 (some .boolean), Cond.methodLink RX1 62 yX1_extra, Cond.instanceMethod yX1_extra, Cond.selects RX1 yX1_extra yX1_extra, Cond.code yX1_extra cX1_extra 5 (some .int)]
def wsX6_read_r5 : List Cond := [Cond.methodLink RX1 47 yX2_get, Cond.methodLink RX1 76 yX1_begin, Cond.instanceMethod yX1_begin, Cond.selects RX1 yX1_begin yX1_begin, Cond.code yX1_begin cX1_begin 2 none]
def wsX6_read : List Cond := .code yX6_read cX6_read 1 (some .int) :: ((wsX6_read_r1 ++ (wsX6_read_r2 ++ (wsX6_read_r3 ++ (wsX6_read_r4 ++ wsX6_read_r5)))) ++ wsX60 ++ wsX10 ++ wsX50 ++ wsX20 ++ wsX00 ++ wsX30)
def wsX7_init : List Cond := .code yX7_init cX7_init 1 none :: ([.methodLink RX7 1 objectInit, .instanceMethod objectInit, .code objectInit ⟨#[0xb1]⟩ 1 none, .arrayClass .int, .fieldLink RX7 7 "WhiteRiversModel" "d" "[I", .fieldLink RX7 13 "WhiteRiversModel" "was" "[I", .arrayClass .char, .fieldLink RX7 16 "WhiteRiversModel" "text" "[C", .fieldLink RX7 20 "WhiteRiversModel" "column" "[I", .fieldLink RX7 23 "WhiteRiversModel" "gapAt" "[I", .fieldLink RX7 26 "WhiteRiversModel" "wide" "[I", .fieldLink RX7 29 "WhiteRiversModel" "reach" "[I", .fieldLink RX7 32 "WhiteRiversModel" "at" "[I", .fieldLink RX7 35 "WhiteRiversModel" "next" "[I", .fieldLink RX7 38 "WhiteRiversModel" "changed" "[I", .fieldLink RX7 41 "WhiteRiversModel" "bad" "[I", .fieldLink RX7 44 "WhiteRiversModel" "longest" "[I", .fieldLink RX7 47 "WhiteRiversModel" "best" "[I"] ++ wsX70)
def wsX7_in : List Cond := .code yX7_in cX7_in 3 (some .boolean) :: ([])
def wsX7_isLine : List Cond := .code yX7_isLine cX7_isLine 2 (some .boolean) :: ([.fieldLink RX7 7 "WhiteRiversModel" "d" "[I", .methodLink RX7 50 yX7_in, .static yX7_in, .initialized RX7, .code yX7_in cX7_in 3 (some .boolean)] ++ wsX70)
def wsX7_records : List Cond := .code yX7_records cX7_records 2 none :: ([.fieldLink RX7 54 "WhiteRiversModel" "states" "I", .fieldLink RX7 13 "WhiteRiversModel" "was" "[I", .fieldLink RX7 7 "WhiteRiversModel" "d" "[I"] ++ wsX70)
def wsX7_first : List Cond := .code yX7_first cX7_first 2 (some .int) :: ([.fieldLink RX7 7 "WhiteRiversModel" "d" "[I"] ++ wsX70)
def wsX7_behind : List Cond := .code yX7_behind cX7_behind 2 (some .int) :: ([.fieldLink RX7 7 "WhiteRiversModel" "d" "[I"] ++ wsX70)
def wsX7_needs : List Cond := .code yX7_needs cX7_needs 5 (some .int) :: ([.fieldLink RX7 7 "WhiteRiversModel" "d" "[I"] ++ wsX70)
def wsX7_fits : List Cond := .code yX7_fits cX7_fits 3 (some .boolean) :: ([.fieldLink RX7 7 "WhiteRiversModel" "d" "[I", .methodLink RX7 58 yX7_needs, .instanceMethod yX7_needs, .selects RX7 yX7_needs yX7_needs, .initialized RX7, .code yX7_needs cX7_needs 5 (some .int)] ++ wsX70)
def wsX7_mostFrom : List Cond := .code yX7_mostFrom cX7_mostFrom 3 (some .int) :: ([.fieldLink RX7 7 "WhiteRiversModel" "d" "[I", .methodLink RX7 62 yX7_fits, .instanceMethod yX7_fits, .selects RX7 yX7_fits yX7_fits, .initialized RX7, .code yX7_fits cX7_fits 3 (some .boolean), .methodLink RX7 58 yX7_needs, .instanceMethod yX7_needs, .selects RX7 yX7_needs yX7_needs, .code yX7_needs cX7_needs 5 (some .int)] ++ wsX70)
def wsX7_fills : List Cond := .code yX7_fills cX7_fills 2 none :: ([.fieldLink RX7 7 "WhiteRiversModel" "d" "[I", .methodLink RX7 66 yX7_mostFrom, .instanceMethod yX7_mostFrom, .selects RX7 yX7_mostFrom yX7_mostFrom, .initialized RX7, .code yX7_mostFrom cX7_mostFrom 3 (some .int), .methodLink RX7 62 yX7_fits, .instanceMethod yX7_fits, .selects RX7 yX7_fits yX7_fits, .code yX7_fits cX7_fits 3 (some .boolean), .methodLink RX7 58 yX7_needs, .instanceMethod yX7_needs, .selects RX7 yX7_needs yX7_needs, .code yX7_needs cX7_needs 5 (some .int)] ++ wsX70)
def wsX7_frozen : List Cond := .code yX7_frozen cX7_frozen 3 (some .int) :: ([.fieldLink RX7 7 "WhiteRiversModel" "d" "[I"] ++ wsX70)
def wsX7_meets : List Cond := .code yX7_meets cX7_meets 3 (some .boolean) :: ([.fieldLink RX7 23 "WhiteRiversModel" "gapAt" "[I", .fieldLink RX7 26 "WhiteRiversModel" "wide" "[I"] ++ wsX70)
def wsX7_lays : List Cond := .code yX7_lays cX7_lays 10 (some .int) :: ([.fieldLink RX7 7 "WhiteRiversModel" "d" "[I", .fieldLink RX7 20 "WhiteRiversModel" "column" "[I", .fieldLink RX7 23 "WhiteRiversModel" "gapAt" "[I", .fieldLink RX7 26 "WhiteRiversModel" "wide" "[I", .fieldLink RX7 29 "WhiteRiversModel" "reach" "[I", .methodLink RX7 58 yX7_needs, .instanceMethod yX7_needs, .selects RX7 yX7_needs yX7_needs, .initialized RX7, .code yX7_needs cX7_needs 5 (some .int), .methodLink RX7 70 yX7_meets, .instanceMethod yX7_meets, .selects RX7 yX7_meets yX7_meets, .code yX7_meets cX7_meets 3 (some .boolean)] ++ wsX70)
def wsX7_laysAll_r1 : List Cond := [Cond.fieldLink RX7 7 "WhiteRiversModel" "d" "[I", Cond.methodLink RX7 73 yX7_first, Cond.instanceMethod yX7_first, Cond.selects RX7 yX7_first yX7_first, Cond.initialized RX7, Cond.code yX7_first cX7_first 2 (some .int), Cond.methodLink RX7 76 yX7_behind, Cond.instanceMethod yX7_behind, Cond.selects RX7 yX7_behind yX7_behind, Cond.code yX7_behind cX7_behind 2 (some .int), Cond.methodLink RX7 79 yX7_lays, Cond.instanceMethod yX7_lays, Cond.selects RX7 yX7_lays yX7_lays, Cond.code yX7_lays cX7_lays 10 (some .int), Cond.fieldLink RX7 20 "WhiteRiversModel" "column" "[I", Cond.fieldLink RX7 23 "WhiteRiversModel" "gapAt" "[I", Cond.fieldLink RX7 26 "WhiteRiversModel" "wide" "[I", Cond.fieldLink RX7 29 "WhiteRiversModel" "reach" "[I", Cond.methodLink RX7 58 yX7_needs, Cond.instanceMethod yX7_needs, Cond.selects RX7 yX7_needs yX7_needs, Cond.code yX7_needs cX7_needs 5 (some .int), Cond.methodLink RX7 70 yX7_meets, Cond.instanceMethod yX7_meets]
def wsX7_laysAll_r2 : List Cond := [Cond.selects RX7 yX7_meets yX7_meets, Cond.code yX7_meets cX7_meets 3 (some .boolean)]
def wsX7_laysAll : List Cond := .code yX7_laysAll cX7_laysAll 4 (some .int) :: ((wsX7_laysAll_r1 ++ wsX7_laysAll_r2) ++ wsX70)
def wsX7_lineOf : List Cond := .code yX7_lineOf cX7_lineOf 3 (some .int) :: ([.methodLink RX7 76 yX7_behind, .instanceMethod yX7_behind, .selects RX7 yX7_behind yX7_behind, .initialized RX7, .code yX7_behind cX7_behind 2 (some .int), .fieldLink RX7 7 "WhiteRiversModel" "d" "[I"] ++ wsX70)
def wsX7_meetsOf : List Cond := .code yX7_meetsOf cX7_meetsOf 5 (some .int) :: ([.methodLink RX7 73 yX7_first, .instanceMethod yX7_first, .selects RX7 yX7_first yX7_first, .initialized RX7, .code yX7_first cX7_first 2 (some .int), .fieldLink RX7 7 "WhiteRiversModel" "d" "[I", .methodLink RX7 76 yX7_behind, .instanceMethod yX7_behind, .selects RX7 yX7_behind yX7_behind, .code yX7_behind cX7_behind 2 (some .int), .methodLink RX7 70 yX7_meets, .instanceMethod yX7_meets, .selects RX7 yX7_meets yX7_meets, .code yX7_meets cX7_meets 3 (some .boolean), .fieldLink RX7 23 "WhiteRiversModel" "gapAt" "[I", .fieldLink RX7 26 "WhiteRiversModel" "wide" "[I"] ++ wsX70)
def wsX7_above : List Cond := .code yX7_above cX7_above 3 (some .int) :: ([.methodLink RX7 83 yX7_meetsOf, .instanceMethod yX7_meetsOf, .selects RX7 yX7_meetsOf yX7_meetsOf, .initialized RX7, .code yX7_meetsOf cX7_meetsOf 5 (some .int), .methodLink RX7 73 yX7_first, .instanceMethod yX7_first, .selects RX7 yX7_first yX7_first, .code yX7_first cX7_first 2 (some .int), .fieldLink RX7 7 "WhiteRiversModel" "d" "[I", .methodLink RX7 76 yX7_behind, .instanceMethod yX7_behind, .selects RX7 yX7_behind yX7_behind, .code yX7_behind cX7_behind 2 (some .int), .methodLink RX7 70 yX7_meets, .instanceMethod yX7_meets, .selects RX7 yX7_meets yX7_meets, .code yX7_meets cX7_meets 3 (some .boolean), .fieldLink RX7 23 "WhiteRiversModel" "gapAt" "[I", .fieldLink RX7 26 "WhiteRiversModel" "wide" "[I"] ++ wsX70)
def wsX7_below : List Cond := .code yX7_below cX7_below 3 (some .int) :: ([.fieldLink RX7 7 "WhiteRiversModel" "d" "[I", .methodLink RX7 83 yX7_meetsOf, .instanceMethod yX7_meetsOf, .selects RX7 yX7_meetsOf yX7_meetsOf, .initialized RX7, .code yX7_meetsOf cX7_meetsOf 5 (some .int), .methodLink RX7 73 yX7_first, .instanceMethod yX7_first, .selects RX7 yX7_first yX7_first, .code yX7_first cX7_first 2 (some .int), .methodLink RX7 76 yX7_behind, .instanceMethod yX7_behind, .selects RX7 yX7_behind yX7_behind, .code yX7_behind cX7_behind 2 (some .int), .methodLink RX7 70 yX7_meets, .instanceMethod yX7_meets, .selects RX7 yX7_meets yX7_meets, .code yX7_meets cX7_meets 3 (some .boolean), .fieldLink RX7 23 "WhiteRiversModel" "gapAt" "[I", .fieldLink RX7 26 "WhiteRiversModel" "wide" "[I"] ++ wsX70)
def wsX7_setWidth_r1 : List Cond := [Cond.fieldLink RX7 7 "WhiteRiversModel" "d" "[I", Cond.methodLink RX7 50 yX7_in, Cond.static yX7_in, Cond.initialized RX7, Cond.code yX7_in cX7_in 3 (some .boolean), Cond.methodLink RX7 86 yX7_frozen, Cond.instanceMethod yX7_frozen, Cond.selects RX7 yX7_frozen yX7_frozen, Cond.code yX7_frozen cX7_frozen 3 (some .int), Cond.methodLink RX7 90 yX7_records, Cond.instanceMethod yX7_records, Cond.selects RX7 yX7_records yX7_records, Cond.code yX7_records cX7_records 2 none, Cond.fieldLink RX7 54 "WhiteRiversModel" "states" "I", Cond.fieldLink RX7 13 "WhiteRiversModel" "was" "[I", Cond.methodLink RX7 93 yX7_fills, Cond.instanceMethod yX7_fills, Cond.selects RX7 yX7_fills yX7_fills, Cond.code yX7_fills cX7_fills 2 none, Cond.methodLink RX7 66 yX7_mostFrom, Cond.instanceMethod yX7_mostFrom, Cond.selects RX7 yX7_mostFrom yX7_mostFrom, Cond.code yX7_mostFrom cX7_mostFrom 3 (some .int), Cond.methodLink RX7 62 yX7_fits]
def wsX7_setWidth_r2 : List Cond := [Cond.instanceMethod yX7_fits, Cond.selects RX7 yX7_fits yX7_fits, Cond.code yX7_fits cX7_fits 3 (some .boolean), Cond.methodLink RX7 58 yX7_needs, Cond.instanceMethod yX7_needs, Cond.selects RX7 yX7_needs yX7_needs, Cond.code yX7_needs cX7_needs 5 (some .int)]
def wsX7_setWidth : List Cond := .code yX7_setWidth cX7_setWidth 2 (some .int) :: ((wsX7_setWidth_r1 ++ wsX7_setWidth_r2) ++ wsX70)
def wsX7_setSlack : List Cond := .code yX7_setSlack cX7_setSlack 3 (some .int) :: ([.fieldLink RX7 7 "WhiteRiversModel" "d" "[I", .methodLink RX7 50 yX7_in, .static yX7_in, .initialized RX7, .code yX7_in cX7_in 3 (some .boolean), .methodLink RX7 90 yX7_records, .instanceMethod yX7_records, .selects RX7 yX7_records yX7_records, .code yX7_records cX7_records 2 none, .fieldLink RX7 54 "WhiteRiversModel" "states" "I", .fieldLink RX7 13 "WhiteRiversModel" "was" "[I"] ++ wsX70)
def wsX7_add : List Cond := .code yX7_add cX7_add 3 (some .int) :: ([.fieldLink RX7 7 "WhiteRiversModel" "d" "[I", .methodLink RX7 50 yX7_in, .static yX7_in, .initialized RX7, .code yX7_in cX7_in 3 (some .boolean), .methodLink RX7 90 yX7_records, .instanceMethod yX7_records, .selects RX7 yX7_records yX7_records, .code yX7_records cX7_records 2 none, .fieldLink RX7 54 "WhiteRiversModel" "states" "I", .fieldLink RX7 13 "WhiteRiversModel" "was" "[I", .methodLink RX7 73 yX7_first, .instanceMethod yX7_first, .selects RX7 yX7_first yX7_first, .code yX7_first cX7_first 2 (some .int), .methodLink RX7 62 yX7_fits, .instanceMethod yX7_fits, .selects RX7 yX7_fits yX7_fits, .code yX7_fits cX7_fits 3 (some .boolean), .methodLink RX7 58 yX7_needs, .instanceMethod yX7_needs, .selects RX7 yX7_needs yX7_needs, .code yX7_needs cX7_needs 5 (some .int)] ++ wsX70)
def wsX7_remove : List Cond := .code yX7_remove cX7_remove 2 (some .int) :: ([.fieldLink RX7 7 "WhiteRiversModel" "d" "[I", .methodLink RX7 90 yX7_records, .instanceMethod yX7_records, .selects RX7 yX7_records yX7_records, .initialized RX7, .code yX7_records cX7_records 2 none, .fieldLink RX7 54 "WhiteRiversModel" "states" "I", .fieldLink RX7 13 "WhiteRiversModel" "was" "[I", .methodLink RX7 73 yX7_first, .instanceMethod yX7_first, .selects RX7 yX7_first yX7_first, .code yX7_first cX7_first 2 (some .int)] ++ wsX70)
def wsX7_pull_r1 : List Cond := [Cond.fieldLink RX7 7 "WhiteRiversModel" "d" "[I", Cond.methodLink RX7 96 yX7_isLine, Cond.instanceMethod yX7_isLine, Cond.selects RX7 yX7_isLine yX7_isLine, Cond.initialized RX7, Cond.code yX7_isLine cX7_isLine 2 (some .boolean), Cond.methodLink RX7 50 yX7_in, Cond.static yX7_in, Cond.code yX7_in cX7_in 3 (some .boolean), Cond.methodLink RX7 73 yX7_first, Cond.instanceMethod yX7_first, Cond.selects RX7 yX7_first yX7_first, Cond.code yX7_first cX7_first 2 (some .int), Cond.methodLink RX7 76 yX7_behind, Cond.instanceMethod yX7_behind, Cond.selects RX7 yX7_behind yX7_behind, Cond.code yX7_behind cX7_behind 2 (some .int), Cond.methodLink RX7 62 yX7_fits, Cond.instanceMethod yX7_fits, Cond.selects RX7 yX7_fits yX7_fits, Cond.code yX7_fits cX7_fits 3 (some .boolean), Cond.methodLink RX7 58 yX7_needs, Cond.instanceMethod yX7_needs, Cond.selects RX7 yX7_needs yX7_needs]
def wsX7_pull_r2 : List Cond := [Cond.code yX7_needs cX7_needs 5 (some .int), Cond.methodLink RX7 90 yX7_records, Cond.instanceMethod yX7_records, Cond.selects RX7 yX7_records yX7_records, Cond.code yX7_records cX7_records 2 none, Cond.fieldLink RX7 54 "WhiteRiversModel" "states" "I", Cond.fieldLink RX7 13 "WhiteRiversModel" "was" "[I"]
def wsX7_pull : List Cond := .code yX7_pull cX7_pull 3 (some .int) :: ((wsX7_pull_r1 ++ wsX7_pull_r2) ++ wsX70)
def wsX7_push_r1 : List Cond := [Cond.fieldLink RX7 7 "WhiteRiversModel" "d" "[I", Cond.methodLink RX7 96 yX7_isLine, Cond.instanceMethod yX7_isLine, Cond.selects RX7 yX7_isLine yX7_isLine, Cond.initialized RX7, Cond.code yX7_isLine cX7_isLine 2 (some .boolean), Cond.methodLink RX7 50 yX7_in, Cond.static yX7_in, Cond.code yX7_in cX7_in 3 (some .boolean), Cond.methodLink RX7 76 yX7_behind, Cond.instanceMethod yX7_behind, Cond.selects RX7 yX7_behind yX7_behind, Cond.code yX7_behind cX7_behind 2 (some .int), Cond.methodLink RX7 73 yX7_first, Cond.instanceMethod yX7_first, Cond.selects RX7 yX7_first yX7_first, Cond.code yX7_first cX7_first 2 (some .int), Cond.methodLink RX7 62 yX7_fits, Cond.instanceMethod yX7_fits, Cond.selects RX7 yX7_fits yX7_fits, Cond.code yX7_fits cX7_fits 3 (some .boolean), Cond.methodLink RX7 58 yX7_needs, Cond.instanceMethod yX7_needs, Cond.selects RX7 yX7_needs yX7_needs]
def wsX7_push_r2 : List Cond := [Cond.code yX7_needs cX7_needs 5 (some .int), Cond.methodLink RX7 90 yX7_records, Cond.instanceMethod yX7_records, Cond.selects RX7 yX7_records yX7_records, Cond.code yX7_records cX7_records 2 none, Cond.fieldLink RX7 54 "WhiteRiversModel" "states" "I", Cond.fieldLink RX7 13 "WhiteRiversModel" "was" "[I"]
def wsX7_push : List Cond := .code yX7_push cX7_push 4 (some .int) :: ((wsX7_push_r1 ++ wsX7_push_r2) ++ wsX70)
def wsX7_freeze : List Cond := .code yX7_freeze cX7_freeze 4 (some .int) :: ([.fieldLink RX7 7 "WhiteRiversModel" "d" "[I", .methodLink RX7 96 yX7_isLine, .instanceMethod yX7_isLine, .selects RX7 yX7_isLine yX7_isLine, .initialized RX7, .code yX7_isLine cX7_isLine 2 (some .boolean), .methodLink RX7 50 yX7_in, .static yX7_in, .code yX7_in cX7_in 3 (some .boolean), .methodLink RX7 90 yX7_records, .instanceMethod yX7_records, .selects RX7 yX7_records yX7_records, .code yX7_records cX7_records 2 none, .fieldLink RX7 54 "WhiteRiversModel" "states" "I", .fieldLink RX7 13 "WhiteRiversModel" "was" "[I"] ++ wsX70)
def wsX7_reflow_r1 : List Cond := [Cond.fieldLink RX7 7 "WhiteRiversModel" "d" "[I", Cond.methodLink RX7 86 yX7_frozen, Cond.instanceMethod yX7_frozen, Cond.selects RX7 yX7_frozen yX7_frozen, Cond.initialized RX7, Cond.code yX7_frozen cX7_frozen 3 (some .int), Cond.methodLink RX7 90 yX7_records, Cond.instanceMethod yX7_records, Cond.selects RX7 yX7_records yX7_records, Cond.code yX7_records cX7_records 2 none, Cond.fieldLink RX7 54 "WhiteRiversModel" "states" "I", Cond.fieldLink RX7 13 "WhiteRiversModel" "was" "[I", Cond.methodLink RX7 93 yX7_fills, Cond.instanceMethod yX7_fills, Cond.selects RX7 yX7_fills yX7_fills, Cond.code yX7_fills cX7_fills 2 none, Cond.methodLink RX7 66 yX7_mostFrom, Cond.instanceMethod yX7_mostFrom, Cond.selects RX7 yX7_mostFrom yX7_mostFrom, Cond.code yX7_mostFrom cX7_mostFrom 3 (some .int), Cond.methodLink RX7 62 yX7_fits, Cond.instanceMethod yX7_fits, Cond.selects RX7 yX7_fits yX7_fits, Cond.code yX7_fits cX7_fits 3 (some .boolean)]
def wsX7_reflow_r2 : List Cond := [Cond.methodLink RX7 58 yX7_needs, Cond.instanceMethod yX7_needs, Cond.selects RX7 yX7_needs yX7_needs, Cond.code yX7_needs cX7_needs 5 (some .int)]
def wsX7_reflow : List Cond := .code yX7_reflow cX7_reflow 1 (some .int) :: ((wsX7_reflow_r1 ++ wsX7_reflow_r2) ++ wsX70)
def wsX7_extraOf : List Cond := .code yX7_extraOf cX7_extraOf 2 (some .int) :: ([.fieldLink RX7 7 "WhiteRiversModel" "d" "[I", .methodLink RX7 73 yX7_first, .instanceMethod yX7_first, .selects RX7 yX7_first yX7_first, .initialized RX7, .code yX7_first cX7_first 2 (some .int), .methodLink RX7 76 yX7_behind, .instanceMethod yX7_behind, .selects RX7 yX7_behind yX7_behind, .code yX7_behind cX7_behind 2 (some .int), .methodLink RX7 58 yX7_needs, .instanceMethod yX7_needs, .selects RX7 yX7_needs yX7_needs, .code yX7_needs cX7_needs 5 (some .int)] ++ wsX70)
def wsX7_badOf : List Cond := .code yX7_badOf cX7_badOf 2 (some .int) :: ([.fieldLink RX7 7 "WhiteRiversModel" "d" "[I", .methodLink RX7 100 yX7_extraOf, .instanceMethod yX7_extraOf, .selects RX7 yX7_extraOf yX7_extraOf, .initialized RX7, .code yX7_extraOf cX7_extraOf 2 (some .int), .methodLink RX7 73 yX7_first, .instanceMethod yX7_first, .selects RX7 yX7_first yX7_first, .code yX7_first cX7_first 2 (some .int), .methodLink RX7 76 yX7_behind, .instanceMethod yX7_behind, .selects RX7 yX7_behind yX7_behind, .code yX7_behind cX7_behind 2 (some .int), .methodLink RX7 58 yX7_needs, .instanceMethod yX7_needs, .selects RX7 yX7_needs yX7_needs, .code yX7_needs cX7_needs 5 (some .int)] ++ wsX70)
def wsX7_badness : List Cond := .code yX7_badness cX7_badness 3 (some .int) :: ([.fieldLink RX7 7 "WhiteRiversModel" "d" "[I", .methodLink RX7 103 yX7_badOf, .instanceMethod yX7_badOf, .selects RX7 yX7_badOf yX7_badOf, .initialized RX7, .code yX7_badOf cX7_badOf 2 (some .int), .methodLink RX7 100 yX7_extraOf, .instanceMethod yX7_extraOf, .selects RX7 yX7_extraOf yX7_extraOf, .code yX7_extraOf cX7_extraOf 2 (some .int), .methodLink RX7 73 yX7_first, .instanceMethod yX7_first, .selects RX7 yX7_first yX7_first, .code yX7_first cX7_first 2 (some .int), .methodLink RX7 76 yX7_behind, .instanceMethod yX7_behind, .selects RX7 yX7_behind yX7_behind, .code yX7_behind cX7_behind 2 (some .int), .methodLink RX7 58 yX7_needs, .instanceMethod yX7_needs, .selects RX7 yX7_needs yX7_needs, .code yX7_needs cX7_needs 5 (some .int)] ++ wsX70)
def wsX7_gapsWith_r1 : List Cond := [Cond.fieldLink RX7 7 "WhiteRiversModel" "d" "[I", Cond.fieldLink RX7 29 "WhiteRiversModel" "reach" "[I", Cond.methodLink RX7 106 yX7_laysAll, Cond.instanceMethod yX7_laysAll, Cond.selects RX7 yX7_laysAll yX7_laysAll, Cond.initialized RX7, Cond.code yX7_laysAll cX7_laysAll 4 (some .int), Cond.methodLink RX7 73 yX7_first, Cond.instanceMethod yX7_first, Cond.selects RX7 yX7_first yX7_first, Cond.code yX7_first cX7_first 2 (some .int), Cond.methodLink RX7 76 yX7_behind, Cond.instanceMethod yX7_behind, Cond.selects RX7 yX7_behind yX7_behind, Cond.code yX7_behind cX7_behind 2 (some .int), Cond.methodLink RX7 79 yX7_lays, Cond.instanceMethod yX7_lays, Cond.selects RX7 yX7_lays yX7_lays, Cond.code yX7_lays cX7_lays 10 (some .int), Cond.fieldLink RX7 20 "WhiteRiversModel" "column" "[I", Cond.fieldLink RX7 23 "WhiteRiversModel" "gapAt" "[I", Cond.fieldLink RX7 26 "WhiteRiversModel" "wide" "[I", Cond.methodLink RX7 58 yX7_needs, Cond.instanceMethod yX7_needs]
def wsX7_gapsWith_r2 : List Cond := [Cond.selects RX7 yX7_needs yX7_needs, Cond.code yX7_needs cX7_needs 5 (some .int), Cond.methodLink RX7 70 yX7_meets, Cond.instanceMethod yX7_meets, Cond.selects RX7 yX7_meets yX7_meets, Cond.code yX7_meets cX7_meets 3 (some .boolean), Cond.methodLink RX7 109 yX7_above, Cond.instanceMethod yX7_above, Cond.selects RX7 yX7_above yX7_above, Cond.code yX7_above cX7_above 3 (some .int), Cond.methodLink RX7 83 yX7_meetsOf, Cond.instanceMethod yX7_meetsOf, Cond.selects RX7 yX7_meetsOf yX7_meetsOf, Cond.code yX7_meetsOf cX7_meetsOf 5 (some .int)]
def wsX7_gapsWith : List Cond := .code yX7_gapsWith cX7_gapsWith 5 (some .int) :: ((wsX7_gapsWith_r1 ++ wsX7_gapsWith_r2) ++ wsX70)
def wsX7_count_r1 : List Cond := [Cond.fieldLink RX7 7 "WhiteRiversModel" "d" "[I", Cond.fieldLink RX7 54 "WhiteRiversModel" "states" "I", Cond.fieldLink RX7 118 "WhiteRiversModel" "typed" "I", Cond.methodLink RX7 112 yX7_badness, Cond.instanceMethod yX7_badness, Cond.selects RX7 yX7_badness yX7_badness, Cond.initialized RX7, Cond.code yX7_badness cX7_badness 3 (some .int), Cond.methodLink RX7 103 yX7_badOf, Cond.instanceMethod yX7_badOf, Cond.selects RX7 yX7_badOf yX7_badOf, Cond.code yX7_badOf cX7_badOf 2 (some .int), Cond.methodLink RX7 100 yX7_extraOf, Cond.instanceMethod yX7_extraOf, Cond.selects RX7 yX7_extraOf yX7_extraOf, Cond.code yX7_extraOf cX7_extraOf 2 (some .int), Cond.methodLink RX7 73 yX7_first, Cond.instanceMethod yX7_first, Cond.selects RX7 yX7_first yX7_first, Cond.code yX7_first cX7_first 2 (some .int), Cond.methodLink RX7 76 yX7_behind, Cond.instanceMethod yX7_behind, Cond.selects RX7 yX7_behind yX7_behind, Cond.code yX7_behind cX7_behind 2 (some .int)]
def wsX7_count_r2 : List Cond := [Cond.methodLink RX7 58 yX7_needs, Cond.instanceMethod yX7_needs, Cond.selects RX7 yX7_needs yX7_needs, Cond.code yX7_needs cX7_needs 5 (some .int), Cond.methodLink RX7 106 yX7_laysAll, Cond.instanceMethod yX7_laysAll, Cond.selects RX7 yX7_laysAll yX7_laysAll, Cond.code yX7_laysAll cX7_laysAll 4 (some .int), Cond.methodLink RX7 79 yX7_lays, Cond.instanceMethod yX7_lays, Cond.selects RX7 yX7_lays yX7_lays, Cond.code yX7_lays cX7_lays 10 (some .int), Cond.fieldLink RX7 20 "WhiteRiversModel" "column" "[I", Cond.fieldLink RX7 23 "WhiteRiversModel" "gapAt" "[I", Cond.fieldLink RX7 26 "WhiteRiversModel" "wide" "[I", Cond.fieldLink RX7 29 "WhiteRiversModel" "reach" "[I", Cond.methodLink RX7 70 yX7_meets, Cond.instanceMethod yX7_meets, Cond.selects RX7 yX7_meets yX7_meets, Cond.code yX7_meets cX7_meets 3 (some .boolean), Cond.methodLink RX7 115 yX7_gapsWith, Cond.instanceMethod yX7_gapsWith, Cond.selects RX7 yX7_gapsWith yX7_gapsWith, Cond.code yX7_gapsWith cX7_gapsWith 5 (some .int)]
def wsX7_count_r3 : List Cond := [Cond.methodLink RX7 109 yX7_above, Cond.instanceMethod yX7_above, Cond.selects RX7 yX7_above yX7_above, Cond.code yX7_above cX7_above 3 (some .int), Cond.methodLink RX7 83 yX7_meetsOf, Cond.instanceMethod yX7_meetsOf, Cond.selects RX7 yX7_meetsOf yX7_meetsOf, Cond.code yX7_meetsOf cX7_meetsOf 5 (some .int), Cond.methodLink RX7 86 yX7_frozen, Cond.instanceMethod yX7_frozen, Cond.selects RX7 yX7_frozen yX7_frozen, Cond.code yX7_frozen cX7_frozen 3 (some .int)]
def wsX7_count : List Cond := .code yX7_count cX7_count 2 (some .int) :: ((wsX7_count_r1 ++ (wsX7_count_r2 ++ wsX7_count_r3)) ++ wsX70)
def wsX7_word_r1 : List Cond := [Cond.fieldLink RX7 7 "WhiteRiversModel" "d" "[I", Cond.fieldLink RX7 20 "WhiteRiversModel" "column" "[I", Cond.methodLink RX7 50 yX7_in, Cond.static yX7_in, Cond.initialized RX7, Cond.code yX7_in cX7_in 3 (some .boolean), Cond.methodLink RX7 106 yX7_laysAll, Cond.instanceMethod yX7_laysAll, Cond.selects RX7 yX7_laysAll yX7_laysAll, Cond.code yX7_laysAll cX7_laysAll 4 (some .int), Cond.methodLink RX7 73 yX7_first, Cond.instanceMethod yX7_first, Cond.selects RX7 yX7_first yX7_first, Cond.code yX7_first cX7_first 2 (some .int), Cond.methodLink RX7 76 yX7_behind, Cond.instanceMethod yX7_behind, Cond.selects RX7 yX7_behind yX7_behind, Cond.code yX7_behind cX7_behind 2 (some .int), Cond.methodLink RX7 79 yX7_lays, Cond.instanceMethod yX7_lays, Cond.selects RX7 yX7_lays yX7_lays, Cond.code yX7_lays cX7_lays 10 (some .int), Cond.fieldLink RX7 23 "WhiteRiversModel" "gapAt" "[I", Cond.fieldLink RX7 26 "WhiteRiversModel" "wide" "[I"]
def wsX7_word_r2 : List Cond := [Cond.fieldLink RX7 29 "WhiteRiversModel" "reach" "[I", Cond.methodLink RX7 58 yX7_needs, Cond.instanceMethod yX7_needs, Cond.selects RX7 yX7_needs yX7_needs, Cond.code yX7_needs cX7_needs 5 (some .int), Cond.methodLink RX7 70 yX7_meets, Cond.instanceMethod yX7_meets, Cond.selects RX7 yX7_meets yX7_meets, Cond.code yX7_meets cX7_meets 3 (some .boolean), Cond.methodLink RX7 121 yX7_lineOf, Cond.instanceMethod yX7_lineOf, Cond.selects RX7 yX7_lineOf yX7_lineOf, Cond.code yX7_lineOf cX7_lineOf 3 (some .int)]
def wsX7_word : List Cond := .code yX7_word cX7_word 3 (some .int) :: ((wsX7_word_r1 ++ wsX7_word_r2) ++ wsX70)
def wsX7_line_r1 : List Cond := [Cond.fieldLink RX7 7 "WhiteRiversModel" "d" "[I", Cond.fieldLink RX7 29 "WhiteRiversModel" "reach" "[I", Cond.methodLink RX7 96 yX7_isLine, Cond.instanceMethod yX7_isLine, Cond.selects RX7 yX7_isLine yX7_isLine, Cond.initialized RX7, Cond.code yX7_isLine cX7_isLine 2 (some .boolean), Cond.methodLink RX7 50 yX7_in, Cond.static yX7_in, Cond.code yX7_in cX7_in 3 (some .boolean), Cond.methodLink RX7 73 yX7_first, Cond.instanceMethod yX7_first, Cond.selects RX7 yX7_first yX7_first, Cond.code yX7_first cX7_first 2 (some .int), Cond.methodLink RX7 76 yX7_behind, Cond.instanceMethod yX7_behind, Cond.selects RX7 yX7_behind yX7_behind, Cond.code yX7_behind cX7_behind 2 (some .int), Cond.methodLink RX7 100 yX7_extraOf, Cond.instanceMethod yX7_extraOf, Cond.selects RX7 yX7_extraOf yX7_extraOf, Cond.code yX7_extraOf cX7_extraOf 2 (some .int), Cond.methodLink RX7 58 yX7_needs, Cond.instanceMethod yX7_needs]
def wsX7_line_r2 : List Cond := [Cond.selects RX7 yX7_needs yX7_needs, Cond.code yX7_needs cX7_needs 5 (some .int), Cond.methodLink RX7 103 yX7_badOf, Cond.instanceMethod yX7_badOf, Cond.selects RX7 yX7_badOf yX7_badOf, Cond.code yX7_badOf cX7_badOf 2 (some .int), Cond.methodLink RX7 106 yX7_laysAll, Cond.instanceMethod yX7_laysAll, Cond.selects RX7 yX7_laysAll yX7_laysAll, Cond.code yX7_laysAll cX7_laysAll 4 (some .int), Cond.methodLink RX7 79 yX7_lays, Cond.instanceMethod yX7_lays, Cond.selects RX7 yX7_lays yX7_lays, Cond.code yX7_lays cX7_lays 10 (some .int), Cond.fieldLink RX7 20 "WhiteRiversModel" "column" "[I", Cond.fieldLink RX7 23 "WhiteRiversModel" "gapAt" "[I", Cond.fieldLink RX7 26 "WhiteRiversModel" "wide" "[I", Cond.methodLink RX7 70 yX7_meets, Cond.instanceMethod yX7_meets, Cond.selects RX7 yX7_meets yX7_meets, Cond.code yX7_meets cX7_meets 3 (some .boolean)]
def wsX7_line : List Cond := .code yX7_line cX7_line 5 (some .int) :: ((wsX7_line_r1 ++ wsX7_line_r2) ++ wsX70)
def wsX7_undo : List Cond := .code yX7_undo cX7_undo 2 (some .int) :: ([.fieldLink RX7 54 "WhiteRiversModel" "states" "I", .fieldLink RX7 7 "WhiteRiversModel" "d" "[I", .fieldLink RX7 13 "WhiteRiversModel" "was" "[I"] ++ wsX70)
def wsX7_gap_r1 : List Cond := [Cond.fieldLink RX7 23 "WhiteRiversModel" "gapAt" "[I", Cond.fieldLink RX7 26 "WhiteRiversModel" "wide" "[I", Cond.fieldLink RX7 29 "WhiteRiversModel" "reach" "[I", Cond.methodLink RX7 96 yX7_isLine, Cond.instanceMethod yX7_isLine, Cond.selects RX7 yX7_isLine yX7_isLine, Cond.initialized RX7, Cond.code yX7_isLine cX7_isLine 2 (some .boolean), Cond.fieldLink RX7 7 "WhiteRiversModel" "d" "[I", Cond.methodLink RX7 50 yX7_in, Cond.static yX7_in, Cond.code yX7_in cX7_in 3 (some .boolean), Cond.methodLink RX7 76 yX7_behind, Cond.instanceMethod yX7_behind, Cond.selects RX7 yX7_behind yX7_behind, Cond.code yX7_behind cX7_behind 2 (some .int), Cond.methodLink RX7 73 yX7_first, Cond.instanceMethod yX7_first, Cond.selects RX7 yX7_first yX7_first, Cond.code yX7_first cX7_first 2 (some .int), Cond.methodLink RX7 106 yX7_laysAll, Cond.instanceMethod yX7_laysAll, Cond.selects RX7 yX7_laysAll yX7_laysAll, Cond.code yX7_laysAll cX7_laysAll 4 (some .int)]
def wsX7_gap_r2 : List Cond := [Cond.methodLink RX7 79 yX7_lays, Cond.instanceMethod yX7_lays, Cond.selects RX7 yX7_lays yX7_lays, Cond.code yX7_lays cX7_lays 10 (some .int), Cond.fieldLink RX7 20 "WhiteRiversModel" "column" "[I", Cond.methodLink RX7 58 yX7_needs, Cond.instanceMethod yX7_needs, Cond.selects RX7 yX7_needs yX7_needs, Cond.code yX7_needs cX7_needs 5 (some .int), Cond.methodLink RX7 70 yX7_meets, Cond.instanceMethod yX7_meets, Cond.selects RX7 yX7_meets yX7_meets, Cond.code yX7_meets cX7_meets 3 (some .boolean), Cond.methodLink RX7 109 yX7_above, Cond.instanceMethod yX7_above, Cond.selects RX7 yX7_above yX7_above, Cond.code yX7_above cX7_above 3 (some .int), Cond.methodLink RX7 83 yX7_meetsOf, Cond.instanceMethod yX7_meetsOf, Cond.selects RX7 yX7_meetsOf yX7_meetsOf, Cond.code yX7_meetsOf cX7_meetsOf 5 (some .int), Cond.methodLink RX7 124 yX7_below, Cond.instanceMethod yX7_below, Cond.selects RX7 yX7_below yX7_below]
def wsX7_gap_r3 : List Cond := [Cond.code yX7_below cX7_below 3 (some .int)]
def wsX7_gap : List Cond := .code yX7_gap cX7_gap 5 (some .int) :: ((wsX7_gap_r1 ++ (wsX7_gap_r2 ++ wsX7_gap_r3)) ++ wsX70)
def wsX7_river_r1 : List Cond := [Cond.fieldLink RX7 29 "WhiteRiversModel" "reach" "[I", Cond.methodLink RX7 50 yX7_in, Cond.static yX7_in, Cond.initialized RX7, Cond.code yX7_in cX7_in 3 (some .boolean), Cond.methodLink RX7 106 yX7_laysAll, Cond.instanceMethod yX7_laysAll, Cond.selects RX7 yX7_laysAll yX7_laysAll, Cond.code yX7_laysAll cX7_laysAll 4 (some .int), Cond.fieldLink RX7 7 "WhiteRiversModel" "d" "[I", Cond.methodLink RX7 73 yX7_first, Cond.instanceMethod yX7_first, Cond.selects RX7 yX7_first yX7_first, Cond.code yX7_first cX7_first 2 (some .int), Cond.methodLink RX7 76 yX7_behind, Cond.instanceMethod yX7_behind, Cond.selects RX7 yX7_behind yX7_behind, Cond.code yX7_behind cX7_behind 2 (some .int), Cond.methodLink RX7 79 yX7_lays, Cond.instanceMethod yX7_lays, Cond.selects RX7 yX7_lays yX7_lays, Cond.code yX7_lays cX7_lays 10 (some .int), Cond.fieldLink RX7 20 "WhiteRiversModel" "column" "[I", Cond.fieldLink RX7 23 "WhiteRiversModel" "gapAt" "[I"]
def wsX7_river_r2 : List Cond := [Cond.fieldLink RX7 26 "WhiteRiversModel" "wide" "[I", Cond.methodLink RX7 58 yX7_needs, Cond.instanceMethod yX7_needs, Cond.selects RX7 yX7_needs yX7_needs, Cond.code yX7_needs cX7_needs 5 (some .int), Cond.methodLink RX7 70 yX7_meets, Cond.instanceMethod yX7_meets, Cond.selects RX7 yX7_meets yX7_meets, Cond.code yX7_meets cX7_meets 3 (some .boolean), Cond.methodLink RX7 121 yX7_lineOf, Cond.instanceMethod yX7_lineOf, Cond.selects RX7 yX7_lineOf yX7_lineOf, Cond.code yX7_lineOf cX7_lineOf 3 (some .int)]
def wsX7_river : List Cond := .code yX7_river cX7_river 8 (some .int) :: ((wsX7_river_r1 ++ wsX7_river_r2) ++ wsX70)
def wsX7_columnIn : List Cond := .code yX7_columnIn cX7_columnIn 3 (some .boolean) :: ([.fieldLink RX7 20 "WhiteRiversModel" "column" "[I", .fieldLink RX7 7 "WhiteRiversModel" "d" "[I"] ++ wsX70)
def wsX7_at_r1 : List Cond := [Cond.fieldLink RX7 7 "WhiteRiversModel" "d" "[I", Cond.methodLink RX7 96 yX7_isLine, Cond.instanceMethod yX7_isLine, Cond.selects RX7 yX7_isLine yX7_isLine, Cond.initialized RX7, Cond.code yX7_isLine cX7_isLine 2 (some .boolean), Cond.methodLink RX7 50 yX7_in, Cond.static yX7_in, Cond.code yX7_in cX7_in 3 (some .boolean), Cond.methodLink RX7 106 yX7_laysAll, Cond.instanceMethod yX7_laysAll, Cond.selects RX7 yX7_laysAll yX7_laysAll, Cond.code yX7_laysAll cX7_laysAll 4 (some .int), Cond.methodLink RX7 73 yX7_first, Cond.instanceMethod yX7_first, Cond.selects RX7 yX7_first yX7_first, Cond.code yX7_first cX7_first 2 (some .int), Cond.methodLink RX7 76 yX7_behind, Cond.instanceMethod yX7_behind, Cond.selects RX7 yX7_behind yX7_behind, Cond.code yX7_behind cX7_behind 2 (some .int), Cond.methodLink RX7 79 yX7_lays, Cond.instanceMethod yX7_lays, Cond.selects RX7 yX7_lays yX7_lays]
def wsX7_at_r2 : List Cond := [Cond.code yX7_lays cX7_lays 10 (some .int), Cond.fieldLink RX7 20 "WhiteRiversModel" "column" "[I", Cond.fieldLink RX7 23 "WhiteRiversModel" "gapAt" "[I", Cond.fieldLink RX7 26 "WhiteRiversModel" "wide" "[I", Cond.fieldLink RX7 29 "WhiteRiversModel" "reach" "[I", Cond.methodLink RX7 58 yX7_needs, Cond.instanceMethod yX7_needs, Cond.selects RX7 yX7_needs yX7_needs, Cond.code yX7_needs cX7_needs 5 (some .int), Cond.methodLink RX7 70 yX7_meets, Cond.instanceMethod yX7_meets, Cond.selects RX7 yX7_meets yX7_meets, Cond.code yX7_meets cX7_meets 3 (some .boolean), Cond.methodLink RX7 127 yX7_columnIn, Cond.instanceMethod yX7_columnIn, Cond.selects RX7 yX7_columnIn yX7_columnIn, Cond.code yX7_columnIn cX7_columnIn 3 (some .boolean)]
def wsX7_at : List Cond := .code yX7_at cX7_at 4 (some .int) :: ((wsX7_at_r1 ++ wsX7_at_r2) ++ wsX70)
def wsX7_nowLine : List Cond := .code yX7_nowLine cX7_nowLine 4 (some .int) :: ([.fieldLink RX7 7 "WhiteRiversModel" "d" "[I", .methodLink RX7 73 yX7_first, .instanceMethod yX7_first, .selects RX7 yX7_first yX7_first, .initialized RX7, .code yX7_first cX7_first 2 (some .int), .methodLink RX7 76 yX7_behind, .instanceMethod yX7_behind, .selects RX7 yX7_behind yX7_behind, .code yX7_behind cX7_behind 2 (some .int)] ++ wsX70)
def wsX7_may : List Cond := .code yX7_may cX7_may 5 (some .boolean) :: ([.fieldLink RX7 7 "WhiteRiversModel" "d" "[I", .methodLink RX7 130 yX7_nowLine, .instanceMethod yX7_nowLine, .selects RX7 yX7_nowLine yX7_nowLine, .initialized RX7, .code yX7_nowLine cX7_nowLine 4 (some .int), .methodLink RX7 73 yX7_first, .instanceMethod yX7_first, .selects RX7 yX7_first yX7_first, .code yX7_first cX7_first 2 (some .int), .methodLink RX7 76 yX7_behind, .instanceMethod yX7_behind, .selects RX7 yX7_behind yX7_behind, .code yX7_behind cX7_behind 2 (some .int), .methodLink RX7 58 yX7_needs, .instanceMethod yX7_needs, .selects RX7 yX7_needs yX7_needs, .code yX7_needs cX7_needs 5 (some .int)] ++ wsX70)
def wsX7_takes : List Cond := .code yX7_takes cX7_takes 3 none :: ([.fieldLink RX7 133 "WhiteRiversModel" "bestLines" "I", .fieldLink RX7 38 "WhiteRiversModel" "changed" "[I", .fieldLink RX7 136 "WhiteRiversModel" "bestChanged" "I", .fieldLink RX7 41 "WhiteRiversModel" "bad" "[I", .fieldLink RX7 139 "WhiteRiversModel" "bestBad" "I", .fieldLink RX7 44 "WhiteRiversModel" "longest" "[I", .fieldLink RX7 142 "WhiteRiversModel" "bestRiver" "I", .fieldLink RX7 47 "WhiteRiversModel" "best" "[I", .fieldLink RX7 32 "WhiteRiversModel" "at" "[I"] ++ wsX70)
def wsX7_plans_r1 : List Cond := [Cond.fieldLink RX7 136 "WhiteRiversModel" "bestChanged" "I", Cond.fieldLink RX7 35 "WhiteRiversModel" "next" "[I", Cond.fieldLink RX7 32 "WhiteRiversModel" "at" "[I", Cond.fieldLink RX7 7 "WhiteRiversModel" "d" "[I", Cond.fieldLink RX7 38 "WhiteRiversModel" "changed" "[I", Cond.fieldLink RX7 41 "WhiteRiversModel" "bad" "[I", Cond.fieldLink RX7 139 "WhiteRiversModel" "bestBad" "I", Cond.fieldLink RX7 44 "WhiteRiversModel" "longest" "[I", Cond.methodLink RX7 66 yX7_mostFrom, Cond.instanceMethod yX7_mostFrom, Cond.selects RX7 yX7_mostFrom yX7_mostFrom, Cond.initialized RX7, Cond.code yX7_mostFrom cX7_mostFrom 3 (some .int), Cond.methodLink RX7 62 yX7_fits, Cond.instanceMethod yX7_fits, Cond.selects RX7 yX7_fits yX7_fits, Cond.code yX7_fits cX7_fits 3 (some .boolean), Cond.methodLink RX7 58 yX7_needs, Cond.instanceMethod yX7_needs, Cond.selects RX7 yX7_needs yX7_needs, Cond.code yX7_needs cX7_needs 5 (some .int), Cond.methodLink RX7 145 yX7_takes, Cond.instanceMethod yX7_takes, Cond.selects RX7 yX7_takes yX7_takes]
def wsX7_plans_r2 : List Cond := [Cond.code yX7_takes cX7_takes 3 none, Cond.fieldLink RX7 133 "WhiteRiversModel" "bestLines" "I", Cond.fieldLink RX7 142 "WhiteRiversModel" "bestRiver" "I", Cond.fieldLink RX7 47 "WhiteRiversModel" "best" "[I", Cond.methodLink RX7 149 yX7_may, Cond.instanceMethod yX7_may, Cond.selects RX7 yX7_may yX7_may, Cond.code yX7_may cX7_may 5 (some .boolean), Cond.methodLink RX7 130 yX7_nowLine, Cond.instanceMethod yX7_nowLine, Cond.selects RX7 yX7_nowLine yX7_nowLine, Cond.code yX7_nowLine cX7_nowLine 4 (some .int), Cond.methodLink RX7 73 yX7_first, Cond.instanceMethod yX7_first, Cond.selects RX7 yX7_first yX7_first, Cond.code yX7_first cX7_first 2 (some .int), Cond.methodLink RX7 76 yX7_behind, Cond.instanceMethod yX7_behind, Cond.selects RX7 yX7_behind yX7_behind, Cond.code yX7_behind cX7_behind 2 (some .int), Cond.methodLink RX7 79 yX7_lays, Cond.instanceMethod yX7_lays, Cond.selects RX7 yX7_lays yX7_lays, Cond.code yX7_lays cX7_lays 10 (some .int)]
def wsX7_plans_r3 : List Cond := [Cond.fieldLink RX7 20 "WhiteRiversModel" "column" "[I", Cond.fieldLink RX7 23 "WhiteRiversModel" "gapAt" "[I", Cond.fieldLink RX7 26 "WhiteRiversModel" "wide" "[I", Cond.fieldLink RX7 29 "WhiteRiversModel" "reach" "[I", Cond.methodLink RX7 70 yX7_meets, Cond.instanceMethod yX7_meets, Cond.selects RX7 yX7_meets yX7_meets, Cond.code yX7_meets cX7_meets 3 (some .boolean)]
def wsX7_plans : List Cond := .code yX7_plans cX7_plans 8 (some .boolean) :: ((wsX7_plans_r1 ++ (wsX7_plans_r2 ++ wsX7_plans_r3)) ++ wsX70)
def wsX7_isLength : List Cond := .code yX7_isLength cX7_isLength 1 (some .boolean) :: ([.methodLink RX7 50 yX7_in, .static yX7_in, .initialized RX7, .code yX7_in cX7_in 3 (some .boolean)])
def wsX7_plan_r1 : List Cond := [Cond.fieldLink RX7 136 "WhiteRiversModel" "bestChanged" "I", Cond.fieldLink RX7 133 "WhiteRiversModel" "bestLines" "I", Cond.fieldLink RX7 139 "WhiteRiversModel" "bestBad" "I", Cond.fieldLink RX7 142 "WhiteRiversModel" "bestRiver" "I", Cond.methodLink RX7 152 yX7_isLength, Cond.static yX7_isLength, Cond.initialized RX7, Cond.code yX7_isLength cX7_isLength 1 (some .boolean), Cond.methodLink RX7 50 yX7_in, Cond.static yX7_in, Cond.code yX7_in cX7_in 3 (some .boolean), Cond.methodLink RX7 155 yX7_plans, Cond.instanceMethod yX7_plans, Cond.selects RX7 yX7_plans yX7_plans, Cond.code yX7_plans cX7_plans 8 (some .boolean), Cond.fieldLink RX7 35 "WhiteRiversModel" "next" "[I", Cond.fieldLink RX7 32 "WhiteRiversModel" "at" "[I", Cond.fieldLink RX7 7 "WhiteRiversModel" "d" "[I", Cond.fieldLink RX7 38 "WhiteRiversModel" "changed" "[I", Cond.fieldLink RX7 41 "WhiteRiversModel" "bad" "[I", Cond.fieldLink RX7 44 "WhiteRiversModel" "longest" "[I", Cond.methodLink RX7 66 yX7_mostFrom, Cond.instanceMethod yX7_mostFrom, Cond.selects RX7 yX7_mostFrom yX7_mostFrom]
def wsX7_plan_r2 : List Cond := [Cond.code yX7_mostFrom cX7_mostFrom 3 (some .int), Cond.methodLink RX7 62 yX7_fits, Cond.instanceMethod yX7_fits, Cond.selects RX7 yX7_fits yX7_fits, Cond.code yX7_fits cX7_fits 3 (some .boolean), Cond.methodLink RX7 58 yX7_needs, Cond.instanceMethod yX7_needs, Cond.selects RX7 yX7_needs yX7_needs, Cond.code yX7_needs cX7_needs 5 (some .int), Cond.methodLink RX7 145 yX7_takes, Cond.instanceMethod yX7_takes, Cond.selects RX7 yX7_takes yX7_takes, Cond.code yX7_takes cX7_takes 3 none, Cond.fieldLink RX7 47 "WhiteRiversModel" "best" "[I", Cond.methodLink RX7 149 yX7_may, Cond.instanceMethod yX7_may, Cond.selects RX7 yX7_may yX7_may, Cond.code yX7_may cX7_may 5 (some .boolean), Cond.methodLink RX7 130 yX7_nowLine, Cond.instanceMethod yX7_nowLine, Cond.selects RX7 yX7_nowLine yX7_nowLine, Cond.code yX7_nowLine cX7_nowLine 4 (some .int), Cond.methodLink RX7 73 yX7_first, Cond.instanceMethod yX7_first]
def wsX7_plan_r3 : List Cond := [Cond.selects RX7 yX7_first yX7_first, Cond.code yX7_first cX7_first 2 (some .int), Cond.methodLink RX7 76 yX7_behind, Cond.instanceMethod yX7_behind, Cond.selects RX7 yX7_behind yX7_behind, Cond.code yX7_behind cX7_behind 2 (some .int), Cond.methodLink RX7 79 yX7_lays, Cond.instanceMethod yX7_lays, Cond.selects RX7 yX7_lays yX7_lays, Cond.code yX7_lays cX7_lays 10 (some .int), Cond.fieldLink RX7 20 "WhiteRiversModel" "column" "[I", Cond.fieldLink RX7 23 "WhiteRiversModel" "gapAt" "[I", Cond.fieldLink RX7 26 "WhiteRiversModel" "wide" "[I", Cond.fieldLink RX7 29 "WhiteRiversModel" "reach" "[I", Cond.methodLink RX7 70 yX7_meets, Cond.instanceMethod yX7_meets, Cond.selects RX7 yX7_meets yX7_meets, Cond.code yX7_meets cX7_meets 3 (some .boolean)]
def wsX7_plan : List Cond := .code yX7_plan cX7_plan 3 (some .int) :: ((wsX7_plan_r1 ++ (wsX7_plan_r2 ++ wsX7_plan_r3)) ++ wsX70)
def wsX7_planned_r1 : List Cond := [Cond.fieldLink RX7 133 "WhiteRiversModel" "bestLines" "I", Cond.fieldLink RX7 47 "WhiteRiversModel" "best" "[I", Cond.methodLink RX7 152 yX7_isLength, Cond.static yX7_isLength, Cond.initialized RX7, Cond.code yX7_isLength cX7_isLength 1 (some .boolean), Cond.methodLink RX7 50 yX7_in, Cond.static yX7_in, Cond.code yX7_in cX7_in 3 (some .boolean), Cond.methodLink RX7 155 yX7_plans, Cond.instanceMethod yX7_plans, Cond.selects RX7 yX7_plans yX7_plans, Cond.code yX7_plans cX7_plans 8 (some .boolean), Cond.fieldLink RX7 136 "WhiteRiversModel" "bestChanged" "I", Cond.fieldLink RX7 35 "WhiteRiversModel" "next" "[I", Cond.fieldLink RX7 32 "WhiteRiversModel" "at" "[I", Cond.fieldLink RX7 7 "WhiteRiversModel" "d" "[I", Cond.fieldLink RX7 38 "WhiteRiversModel" "changed" "[I", Cond.fieldLink RX7 41 "WhiteRiversModel" "bad" "[I", Cond.fieldLink RX7 139 "WhiteRiversModel" "bestBad" "I", Cond.fieldLink RX7 44 "WhiteRiversModel" "longest" "[I", Cond.methodLink RX7 66 yX7_mostFrom, Cond.instanceMethod yX7_mostFrom, Cond.selects RX7 yX7_mostFrom yX7_mostFrom]
def wsX7_planned_r2 : List Cond := [Cond.code yX7_mostFrom cX7_mostFrom 3 (some .int), Cond.methodLink RX7 62 yX7_fits, Cond.instanceMethod yX7_fits, Cond.selects RX7 yX7_fits yX7_fits, Cond.code yX7_fits cX7_fits 3 (some .boolean), Cond.methodLink RX7 58 yX7_needs, Cond.instanceMethod yX7_needs, Cond.selects RX7 yX7_needs yX7_needs, Cond.code yX7_needs cX7_needs 5 (some .int), Cond.methodLink RX7 145 yX7_takes, Cond.instanceMethod yX7_takes, Cond.selects RX7 yX7_takes yX7_takes, Cond.code yX7_takes cX7_takes 3 none, Cond.fieldLink RX7 142 "WhiteRiversModel" "bestRiver" "I", Cond.methodLink RX7 149 yX7_may, Cond.instanceMethod yX7_may, Cond.selects RX7 yX7_may yX7_may, Cond.code yX7_may cX7_may 5 (some .boolean), Cond.methodLink RX7 130 yX7_nowLine, Cond.instanceMethod yX7_nowLine, Cond.selects RX7 yX7_nowLine yX7_nowLine, Cond.code yX7_nowLine cX7_nowLine 4 (some .int), Cond.methodLink RX7 73 yX7_first, Cond.instanceMethod yX7_first]
def wsX7_planned_r3 : List Cond := [Cond.selects RX7 yX7_first yX7_first, Cond.code yX7_first cX7_first 2 (some .int), Cond.methodLink RX7 76 yX7_behind, Cond.instanceMethod yX7_behind, Cond.selects RX7 yX7_behind yX7_behind, Cond.code yX7_behind cX7_behind 2 (some .int), Cond.methodLink RX7 79 yX7_lays, Cond.instanceMethod yX7_lays, Cond.selects RX7 yX7_lays yX7_lays, Cond.code yX7_lays cX7_lays 10 (some .int), Cond.fieldLink RX7 20 "WhiteRiversModel" "column" "[I", Cond.fieldLink RX7 23 "WhiteRiversModel" "gapAt" "[I", Cond.fieldLink RX7 26 "WhiteRiversModel" "wide" "[I", Cond.fieldLink RX7 29 "WhiteRiversModel" "reach" "[I", Cond.methodLink RX7 70 yX7_meets, Cond.instanceMethod yX7_meets, Cond.selects RX7 yX7_meets yX7_meets, Cond.code yX7_meets cX7_meets 3 (some .boolean)]
def wsX7_planned : List Cond := .code yX7_planned cX7_planned 3 (some .int) :: ((wsX7_planned_r1 ++ (wsX7_planned_r2 ++ wsX7_planned_r3)) ++ wsX70)
def wsX7_dam_r1 : List Cond := [Cond.fieldLink RX7 133 "WhiteRiversModel" "bestLines" "I", Cond.fieldLink RX7 47 "WhiteRiversModel" "best" "[I", Cond.fieldLink RX7 35 "WhiteRiversModel" "next" "[I", Cond.fieldLink RX7 7 "WhiteRiversModel" "d" "[I", Cond.fieldLink RX7 136 "WhiteRiversModel" "bestChanged" "I", Cond.methodLink RX7 152 yX7_isLength, Cond.static yX7_isLength, Cond.initialized RX7, Cond.code yX7_isLength cX7_isLength 1 (some .boolean), Cond.methodLink RX7 50 yX7_in, Cond.static yX7_in, Cond.code yX7_in cX7_in 3 (some .boolean), Cond.methodLink RX7 155 yX7_plans, Cond.instanceMethod yX7_plans, Cond.selects RX7 yX7_plans yX7_plans, Cond.code yX7_plans cX7_plans 8 (some .boolean), Cond.fieldLink RX7 32 "WhiteRiversModel" "at" "[I", Cond.fieldLink RX7 38 "WhiteRiversModel" "changed" "[I", Cond.fieldLink RX7 41 "WhiteRiversModel" "bad" "[I", Cond.fieldLink RX7 139 "WhiteRiversModel" "bestBad" "I", Cond.fieldLink RX7 44 "WhiteRiversModel" "longest" "[I", Cond.methodLink RX7 66 yX7_mostFrom, Cond.instanceMethod yX7_mostFrom, Cond.selects RX7 yX7_mostFrom yX7_mostFrom]
def wsX7_dam_r2 : List Cond := [Cond.code yX7_mostFrom cX7_mostFrom 3 (some .int), Cond.methodLink RX7 62 yX7_fits, Cond.instanceMethod yX7_fits, Cond.selects RX7 yX7_fits yX7_fits, Cond.code yX7_fits cX7_fits 3 (some .boolean), Cond.methodLink RX7 58 yX7_needs, Cond.instanceMethod yX7_needs, Cond.selects RX7 yX7_needs yX7_needs, Cond.code yX7_needs cX7_needs 5 (some .int), Cond.methodLink RX7 145 yX7_takes, Cond.instanceMethod yX7_takes, Cond.selects RX7 yX7_takes yX7_takes, Cond.code yX7_takes cX7_takes 3 none, Cond.fieldLink RX7 142 "WhiteRiversModel" "bestRiver" "I", Cond.methodLink RX7 149 yX7_may, Cond.instanceMethod yX7_may, Cond.selects RX7 yX7_may yX7_may, Cond.code yX7_may cX7_may 5 (some .boolean), Cond.methodLink RX7 130 yX7_nowLine, Cond.instanceMethod yX7_nowLine, Cond.selects RX7 yX7_nowLine yX7_nowLine, Cond.code yX7_nowLine cX7_nowLine 4 (some .int), Cond.methodLink RX7 73 yX7_first, Cond.instanceMethod yX7_first]
def wsX7_dam_r3 : List Cond := [Cond.selects RX7 yX7_first yX7_first, Cond.code yX7_first cX7_first 2 (some .int), Cond.methodLink RX7 76 yX7_behind, Cond.instanceMethod yX7_behind, Cond.selects RX7 yX7_behind yX7_behind, Cond.code yX7_behind cX7_behind 2 (some .int), Cond.methodLink RX7 79 yX7_lays, Cond.instanceMethod yX7_lays, Cond.selects RX7 yX7_lays yX7_lays, Cond.code yX7_lays cX7_lays 10 (some .int), Cond.fieldLink RX7 20 "WhiteRiversModel" "column" "[I", Cond.fieldLink RX7 23 "WhiteRiversModel" "gapAt" "[I", Cond.fieldLink RX7 26 "WhiteRiversModel" "wide" "[I", Cond.fieldLink RX7 29 "WhiteRiversModel" "reach" "[I", Cond.methodLink RX7 70 yX7_meets, Cond.instanceMethod yX7_meets, Cond.selects RX7 yX7_meets yX7_meets, Cond.code yX7_meets cX7_meets 3 (some .boolean), Cond.methodLink RX7 90 yX7_records, Cond.instanceMethod yX7_records, Cond.selects RX7 yX7_records yX7_records, Cond.code yX7_records cX7_records 2 none, Cond.fieldLink RX7 54 "WhiteRiversModel" "states" "I", Cond.fieldLink RX7 13 "WhiteRiversModel" "was" "[I"]
def wsX7_dam : List Cond := .code yX7_dam cX7_dam 4 (some .int) :: ((wsX7_dam_r1 ++ (wsX7_dam_r2 ++ wsX7_dam_r3)) ++ wsX70)
def wsX7_leastRiver_r1 : List Cond := [Cond.methodLink RX7 155 yX7_plans, Cond.instanceMethod yX7_plans, Cond.selects RX7 yX7_plans yX7_plans, Cond.initialized RX7, Cond.code yX7_plans cX7_plans 8 (some .boolean), Cond.fieldLink RX7 136 "WhiteRiversModel" "bestChanged" "I", Cond.fieldLink RX7 35 "WhiteRiversModel" "next" "[I", Cond.fieldLink RX7 32 "WhiteRiversModel" "at" "[I", Cond.fieldLink RX7 7 "WhiteRiversModel" "d" "[I", Cond.fieldLink RX7 38 "WhiteRiversModel" "changed" "[I", Cond.fieldLink RX7 41 "WhiteRiversModel" "bad" "[I", Cond.fieldLink RX7 139 "WhiteRiversModel" "bestBad" "I", Cond.fieldLink RX7 44 "WhiteRiversModel" "longest" "[I", Cond.methodLink RX7 66 yX7_mostFrom, Cond.instanceMethod yX7_mostFrom, Cond.selects RX7 yX7_mostFrom yX7_mostFrom, Cond.code yX7_mostFrom cX7_mostFrom 3 (some .int), Cond.methodLink RX7 62 yX7_fits, Cond.instanceMethod yX7_fits, Cond.selects RX7 yX7_fits yX7_fits, Cond.code yX7_fits cX7_fits 3 (some .boolean), Cond.methodLink RX7 58 yX7_needs, Cond.instanceMethod yX7_needs, Cond.selects RX7 yX7_needs yX7_needs]
def wsX7_leastRiver_r2 : List Cond := [Cond.code yX7_needs cX7_needs 5 (some .int), Cond.methodLink RX7 145 yX7_takes, Cond.instanceMethod yX7_takes, Cond.selects RX7 yX7_takes yX7_takes, Cond.code yX7_takes cX7_takes 3 none, Cond.fieldLink RX7 133 "WhiteRiversModel" "bestLines" "I", Cond.fieldLink RX7 142 "WhiteRiversModel" "bestRiver" "I", Cond.fieldLink RX7 47 "WhiteRiversModel" "best" "[I", Cond.methodLink RX7 149 yX7_may, Cond.instanceMethod yX7_may, Cond.selects RX7 yX7_may yX7_may, Cond.code yX7_may cX7_may 5 (some .boolean), Cond.methodLink RX7 130 yX7_nowLine, Cond.instanceMethod yX7_nowLine, Cond.selects RX7 yX7_nowLine yX7_nowLine, Cond.code yX7_nowLine cX7_nowLine 4 (some .int), Cond.methodLink RX7 73 yX7_first, Cond.instanceMethod yX7_first, Cond.selects RX7 yX7_first yX7_first, Cond.code yX7_first cX7_first 2 (some .int), Cond.methodLink RX7 76 yX7_behind, Cond.instanceMethod yX7_behind, Cond.selects RX7 yX7_behind yX7_behind, Cond.code yX7_behind cX7_behind 2 (some .int)]
def wsX7_leastRiver_r3 : List Cond := [Cond.methodLink RX7 79 yX7_lays, Cond.instanceMethod yX7_lays, Cond.selects RX7 yX7_lays yX7_lays, Cond.code yX7_lays cX7_lays 10 (some .int), Cond.fieldLink RX7 20 "WhiteRiversModel" "column" "[I", Cond.fieldLink RX7 23 "WhiteRiversModel" "gapAt" "[I", Cond.fieldLink RX7 26 "WhiteRiversModel" "wide" "[I", Cond.fieldLink RX7 29 "WhiteRiversModel" "reach" "[I", Cond.methodLink RX7 70 yX7_meets, Cond.instanceMethod yX7_meets, Cond.selects RX7 yX7_meets yX7_meets, Cond.code yX7_meets cX7_meets 3 (some .boolean)]
def wsX7_leastRiver : List Cond := .code yX7_leastRiver cX7_leastRiver 2 (some .int) :: ((wsX7_leastRiver_r1 ++ (wsX7_leastRiver_r2 ++ wsX7_leastRiver_r3)) ++ wsX70)
def wsX7_type : List Cond := .code yX7_type cX7_type 2 (some .int) :: ([.fieldLink RX7 118 "WhiteRiversModel" "typed" "I", .fieldLink RX7 16 "WhiteRiversModel" "text" "[C", .methodLink RX7 50 yX7_in, .static yX7_in, .initialized RX7, .code yX7_in cX7_in 3 (some .boolean)] ++ wsX70)
def wsX7_clearText : List Cond := .code yX7_clearText cX7_clearText 2 (some .int) :: ([.fieldLink RX7 118 "WhiteRiversModel" "typed" "I"] ++ wsX70)
def wsX7_fault : List Cond := .code yX7_fault cX7_fault 5 (some .int) :: ([.fieldLink RX7 118 "WhiteRiversModel" "typed" "I", .fieldLink RX7 16 "WhiteRiversModel" "text" "[C"] ++ wsX70)
def wsX7_read_r1 : List Cond := [Cond.fieldLink RX7 7 "WhiteRiversModel" "d" "[I", Cond.fieldLink RX7 118 "WhiteRiversModel" "typed" "I", Cond.fieldLink RX7 16 "WhiteRiversModel" "text" "[C", Cond.methodLink RX7 158 yX7_fault, Cond.instanceMethod yX7_fault, Cond.selects RX7 yX7_fault yX7_fault, Cond.initialized RX7, Cond.code yX7_fault cX7_fault 5 (some .int), Cond.methodLink RX7 90 yX7_records, Cond.instanceMethod yX7_records, Cond.selects RX7 yX7_records yX7_records, Cond.code yX7_records cX7_records 2 none, Cond.fieldLink RX7 54 "WhiteRiversModel" "states" "I", Cond.fieldLink RX7 13 "WhiteRiversModel" "was" "[I", Cond.methodLink RX7 93 yX7_fills, Cond.instanceMethod yX7_fills, Cond.selects RX7 yX7_fills yX7_fills, Cond.code yX7_fills cX7_fills 2 none, Cond.methodLink RX7 66 yX7_mostFrom, Cond.instanceMethod yX7_mostFrom, Cond.selects RX7 yX7_mostFrom yX7_mostFrom, Cond.code yX7_mostFrom cX7_mostFrom 3 (some .int), Cond.methodLink RX7 62 yX7_fits, Cond.instanceMethod yX7_fits]
def wsX7_read_r2 : List Cond := [Cond.selects RX7 yX7_fits yX7_fits, Cond.code yX7_fits cX7_fits 3 (some .boolean), Cond.methodLink RX7 58 yX7_needs, Cond.instanceMethod yX7_needs, Cond.selects RX7 yX7_needs yX7_needs, Cond.code yX7_needs cX7_needs 5 (some .int)]
def wsX7_read : List Cond := .code yX7_read cX7_read 3 (some .int) :: ((wsX7_read_r1 ++ wsX7_read_r2) ++ wsX70)
def wsJ9_max_7cf53 : List Cond := .code yJ9_max_7cf53 cJ9_max_7cf53 2 (some .int) :: ([])
def wsJ9_min_7cf53 : List Cond := .code yJ9_min_7cf53 cJ9_min_7cf53 2 (some .int) :: ([])
def wsL_law_r1 : List Cond := [Cond.classLink RL 7 RX6, Cond.instantiable RX6 5, Cond.initialized RX6, Cond.classLink RL 10 RX7, Cond.instantiable RX7 19, Cond.initialized RX7, Cond.methodLink RL 9 yX6_init, Cond.instanceMethod yX6_init, Cond.code yX6_init cX6_init 1 none, Cond.methodLink RX6 1 objectInit, Cond.instanceMethod objectInit, Cond.code objectInit ⟨#[0xb1]⟩ 1 none, Cond.classLink RX6 7 RX1, Cond.instantiable RX1 6, Cond.initialized RX1, Cond.fieldLink RX6 10 "WhiteRivers" "page" "LWhiteRivers$Page;", Cond.classLink RX6 16 RX0, Cond.instantiable RX0 2, Cond.initialized RX0, Cond.fieldLink RX6 19 "WhiteRivers" "history" "LWhiteRivers$History;", Cond.classLink RX6 23 RX4, Cond.instantiable RX4 4, Cond.initialized RX4, Cond.fieldLink RX6 26 "WhiteRivers" "sheet" "LWhiteRivers$Sheet;"]
def wsL_law_r2 : List Cond := [Cond.classLink RX6 30 RX3, Cond.instantiable RX3 10, Cond.initialized RX3, Cond.fieldLink RX6 33 "WhiteRivers" "search" "LWhiteRivers$Search;", Cond.classLink RX6 37 RX5, Cond.instantiable RX5 2, Cond.initialized RX5, Cond.fieldLink RX6 40 "WhiteRivers" "text" "LWhiteRivers$Text;", Cond.instanceMethod yX1_init, Cond.code yX1_init cX1_init 1 none, Cond.methodLink RX1 3 objectInit, Cond.fieldLink RX1 9 "WhiteRivers$Page" "width" "I", Cond.fieldLink RX1 15 "WhiteRivers$Page" "slack" "I", Cond.fieldLink RX1 18 "WhiteRivers$Page" "words" "I", Cond.classLink RX1 21 RX2, Cond.instantiable RX2 1, Cond.initialized RX2, Cond.fieldLink RX1 26 "WhiteRivers$Page" "lengths" "LWhiteRivers$Row;", Cond.fieldLink RX1 30 "WhiteRivers$Page" "begins" "LWhiteRivers$Row;", Cond.fieldLink RX1 33 "WhiteRivers$Page" "frozen" "LWhiteRivers$Row;", Cond.methodLink RX1 23 yX2_init, Cond.instanceMethod yX2_init, Cond.code yX2_init cX2_init 2 none, Cond.methodLink RX2 1 objectInit]
def wsL_law_r3 : List Cond := [Cond.methodLink RX2 7 Lib.Math.max.name, Cond.static Lib.Math.max.name, Cond.initialized "java/lang/Math", Cond.code Lib.Math.max.name Lib.Math.max.code 2 (some .int), Cond.arrayClass .int, Cond.fieldLink RX2 13 "WhiteRivers$Row" "cells" "[I", Cond.methodLink RX6 18 yX0_init, Cond.instanceMethod yX0_init, Cond.code yX0_init cX0_init 2 none, Cond.methodLink RX0 3 objectInit, Cond.fieldLink RX0 9 "WhiteRivers$History" "states" "I", Cond.classLink RX0 15 RX1, Cond.fieldLink RX0 17 "WhiteRivers$History" "pages" "[LWhiteRivers$Page;", Cond.instanceMethod yX4_init, Cond.code yX4_init cX4_init 1 none, Cond.methodLink RX4 3 objectInit, Cond.classLink RX4 9 RX2, Cond.fieldLink RX4 14 "WhiteRivers$Sheet" "columns" "LWhiteRivers$Row;", Cond.fieldLink RX4 20 "WhiteRivers$Sheet" "gapColumns" "LWhiteRivers$Row;", Cond.fieldLink RX4 23 "WhiteRivers$Sheet" "gapWidths" "LWhiteRivers$Row;", Cond.fieldLink RX4 26 "WhiteRivers$Sheet" "reaches" "LWhiteRivers$Row;", Cond.methodLink RX4 11 yX2_init, Cond.instanceMethod yX3_init, Cond.code yX3_init cX3_init 1 none]
def wsL_law_r4 : List Cond := [Cond.methodLink RX3 3 objectInit, Cond.fieldLink RX3 9 "WhiteRivers$Search" "bestLines" "I", Cond.fieldLink RX3 15 "WhiteRivers$Search" "bestRiver" "I", Cond.constant RX3 18 (1000000000), Cond.fieldLink RX3 19 "WhiteRivers$Search" "bestPrice" "I", Cond.fieldLink RX3 22 "WhiteRivers$Search" "limit" "I", Cond.classLink RX3 25 RX1, Cond.fieldLink RX3 28 "WhiteRivers$Search" "page" "LWhiteRivers$Page;", Cond.classLink RX3 32 RX4, Cond.fieldLink RX3 35 "WhiteRivers$Search" "sheet" "LWhiteRivers$Sheet;", Cond.classLink RX3 39 RX2, Cond.fieldLink RX3 44 "WhiteRivers$Search" "prices" "LWhiteRivers$Row;", Cond.fieldLink RX3 48 "WhiteRivers$Search" "leastPrices" "LWhiteRivers$Row;", Cond.fieldLink RX3 51 "WhiteRivers$Search" "tried" "LWhiteRivers$Row;", Cond.fieldLink RX3 54 "WhiteRivers$Search" "best" "LWhiteRivers$Row;", Cond.methodLink RX3 41 yX2_init, Cond.instanceMethod yX5_init, Cond.code yX5_init cX5_init 1 none, Cond.methodLink RX5 3 objectInit, Cond.fieldLink RX5 9 "WhiteRivers$Text" "length" "I", Cond.classLink RX5 15 RX2, Cond.fieldLink RX5 20 "WhiteRivers$Text" "characters" "LWhiteRivers$Row;", Cond.methodLink RX5 17 yX2_init, Cond.methodLink RL 12 yX7_init]
def wsL_law_r5 : List Cond := [Cond.instanceMethod yX7_init, Cond.code yX7_init cX7_init 1 none, Cond.methodLink RX7 1 objectInit, Cond.fieldLink RX7 7 "WhiteRiversModel" "d" "[I", Cond.fieldLink RX7 13 "WhiteRiversModel" "was" "[I", Cond.arrayClass .char, Cond.fieldLink RX7 16 "WhiteRiversModel" "text" "[C", Cond.fieldLink RX7 20 "WhiteRiversModel" "column" "[I", Cond.fieldLink RX7 23 "WhiteRiversModel" "gapAt" "[I", Cond.fieldLink RX7 26 "WhiteRiversModel" "wide" "[I", Cond.fieldLink RX7 29 "WhiteRiversModel" "reach" "[I", Cond.fieldLink RX7 32 "WhiteRiversModel" "at" "[I", Cond.fieldLink RX7 35 "WhiteRiversModel" "next" "[I", Cond.fieldLink RX7 38 "WhiteRiversModel" "changed" "[I", Cond.fieldLink RX7 41 "WhiteRiversModel" "bad" "[I", Cond.fieldLink RX7 44 "WhiteRiversModel" "longest" "[I", Cond.fieldLink RX7 47 "WhiteRiversModel" "best" "[I", Cond.methodLink RL 13 yX6_setWidth, Cond.instanceMethod yX6_setWidth, Cond.selects RX6 yX6_setWidth yX6_setWidth, Cond.code yX6_setWidth cX6_setWidth 2 (some .int), Cond.fieldLink RX6 55 "WhiteRivers$Page" "width" "I", Cond.methodLink RX6 44 yX6_isWithin, Cond.static yX6_isWithin]
def wsL_law_r6 : List Cond := [Cond.code yX6_isWithin cX6_isWithin 3 (some .boolean), Cond.methodLink RX6 48 yX1_frozenLines, Cond.instanceMethod yX1_frozenLines, Cond.selects RX1 yX1_frozenLines yX1_frozenLines, Cond.code yX1_frozenLines cX1_frozenLines 3 (some .int), Cond.methodLink RX1 47 yX2_get, Cond.instanceMethod yX2_get, Cond.selects RX2 yX2_get yX2_get, Cond.code yX2_get cX2_get 2 (some .int), Cond.methodLink RX6 52 yX6_beginChange, Cond.instanceMethod yX6_beginChange, Cond.selects RX6 yX6_beginChange yX6_beginChange, Cond.code yX6_beginChange cX6_beginChange 1 none, Cond.methodLink RX6 203 yX0_keep, Cond.instanceMethod yX0_keep, Cond.selects RX0 yX0_keep yX0_keep, Cond.code yX0_keep cX0_keep 3 none, Cond.methodLink RX0 22 yX0_dropOldest, Cond.instanceMethod yX0_dropOldest, Cond.selects RX0 yX0_dropOldest yX0_dropOldest, Cond.code yX0_dropOldest cX0_dropOldest 3 none, Cond.methodLink RX0 25 yX0_pageAt, Cond.instanceMethod yX0_pageAt, Cond.selects RX0 yX0_pageAt yX0_pageAt]
def wsL_law_r7 : List Cond := [Cond.code yX0_pageAt cX0_pageAt 2 (some (.object "WhiteRivers$Page")), Cond.methodLink RX0 29 yX1_copyFrom, Cond.instanceMethod yX1_copyFrom, Cond.selects RX1 yX1_copyFrom yX1_copyFrom, Cond.code yX1_copyFrom cX1_copyFrom 2 none, Cond.methodLink RX1 36 yX2_copyFrom, Cond.instanceMethod yX2_copyFrom, Cond.selects RX2 yX2_copyFrom yX2_copyFrom, Cond.code yX2_copyFrom cX2_copyFrom 3 none, Cond.methodLink RX2 19 yX2_get, Cond.methodLink RX6 148 yX3_forget, Cond.instanceMethod yX3_forget, Cond.selects RX3 yX3_forget yX3_forget, Cond.code yX3_forget cX3_forget 1 none, Cond.methodLink RX6 59 yX1_fill, Cond.instanceMethod yX1_fill, Cond.selects RX1 yX1_fill yX1_fill, Cond.code yX1_fill cX1_fill 3 none, Cond.methodLink RX1 69 yX1_joinAll, Cond.instanceMethod yX1_joinAll, Cond.selects RX1 yX1_joinAll yX1_joinAll, Cond.code yX1_joinAll cX1_joinAll 1 none, Cond.methodLink RX1 40 yX2_clear, Cond.instanceMethod yX2_clear]
def wsL_law_r8 : List Cond := [Cond.selects RX2 yX2_clear yX2_clear, Cond.code yX2_clear cX2_clear 2 none, Cond.methodLink RX1 72 yX1_fits, Cond.instanceMethod yX1_fits, Cond.selects RX1 yX1_fits yX1_fits, Cond.code yX1_fits cX1_fits 3 (some .boolean), Cond.methodLink RX1 62 yX1_extra, Cond.instanceMethod yX1_extra, Cond.selects RX1 yX1_extra yX1_extra, Cond.code yX1_extra cX1_extra 5 (some .int), Cond.methodLink RX1 76 yX1_begin, Cond.instanceMethod yX1_begin, Cond.selects RX1 yX1_begin yX1_begin, Cond.code yX1_begin cX1_begin 2 none, Cond.methodLink RX1 43 yX2_set, Cond.instanceMethod yX2_set, Cond.selects RX2 yX2_set yX2_set, Cond.code yX2_set cX2_set 3 none, Cond.methodLink RX6 62 yX1_lines, Cond.instanceMethod yX1_lines, Cond.selects RX1 yX1_lines yX1_lines, Cond.code yX1_lines cX1_lines 3 (some .int), Cond.methodLink RL 17 yX7_setWidth, Cond.instanceMethod yX7_setWidth]
def wsL_law_r9 : List Cond := [Cond.selects RX7 yX7_setWidth yX7_setWidth, Cond.code yX7_setWidth cX7_setWidth 2 (some .int), Cond.methodLink RX7 50 yX7_in, Cond.static yX7_in, Cond.code yX7_in cX7_in 3 (some .boolean), Cond.methodLink RX7 86 yX7_frozen, Cond.instanceMethod yX7_frozen, Cond.selects RX7 yX7_frozen yX7_frozen, Cond.code yX7_frozen cX7_frozen 3 (some .int), Cond.methodLink RX7 90 yX7_records, Cond.instanceMethod yX7_records, Cond.selects RX7 yX7_records yX7_records, Cond.code yX7_records cX7_records 2 none, Cond.fieldLink RX7 54 "WhiteRiversModel" "states" "I", Cond.methodLink RX7 93 yX7_fills, Cond.instanceMethod yX7_fills, Cond.selects RX7 yX7_fills yX7_fills, Cond.code yX7_fills cX7_fills 2 none, Cond.methodLink RX7 66 yX7_mostFrom, Cond.instanceMethod yX7_mostFrom, Cond.selects RX7 yX7_mostFrom yX7_mostFrom, Cond.code yX7_mostFrom cX7_mostFrom 3 (some .int), Cond.methodLink RX7 62 yX7_fits, Cond.instanceMethod yX7_fits]
def wsL_law_r10 : List Cond := [Cond.selects RX7 yX7_fits yX7_fits, Cond.code yX7_fits cX7_fits 3 (some .boolean), Cond.methodLink RX7 58 yX7_needs, Cond.instanceMethod yX7_needs, Cond.selects RX7 yX7_needs yX7_needs, Cond.code yX7_needs cX7_needs 5 (some .int), Cond.methodLink RL 18 yX6_setSlack, Cond.instanceMethod yX6_setSlack, Cond.selects RX6 yX6_setSlack yX6_setSlack, Cond.code yX6_setSlack cX6_setSlack 3 (some .int), Cond.fieldLink RX6 65 "WhiteRivers$Page" "slack" "I", Cond.methodLink RL 21 yX7_setSlack, Cond.instanceMethod yX7_setSlack, Cond.selects RX7 yX7_setSlack yX7_setSlack, Cond.code yX7_setSlack cX7_setSlack 3 (some .int), Cond.methodLink RL 22 yX6_add, Cond.instanceMethod yX6_add, Cond.selects RX6 yX6_add yX6_add, Cond.code yX6_add cX6_add 4 (some .int), Cond.fieldLink RX6 68 "WhiteRivers$Page" "words" "I", Cond.methodLink RX6 71 yX1_firstOf, Cond.instanceMethod yX1_firstOf, Cond.selects RX1 yX1_firstOf yX1_firstOf, Cond.code yX1_firstOf cX1_firstOf 4 (some .int)]
def wsL_law_r11 : List Cond := [Cond.methodLink RX6 75 yX1_append, Cond.instanceMethod yX1_append, Cond.selects RX1 yX1_append yX1_append, Cond.code yX1_append cX1_append 2 none, Cond.methodLink RX6 79 yX1_isFrozen, Cond.instanceMethod yX1_isFrozen, Cond.selects RX1 yX1_isFrozen yX1_isFrozen, Cond.code yX1_isFrozen cX1_isFrozen 2 (some .boolean), Cond.methodLink RX6 83 yX1_fits, Cond.methodLink RX6 87 yX1_begin, Cond.methodLink RL 25 yX7_add, Cond.instanceMethod yX7_add, Cond.selects RX7 yX7_add yX7_add, Cond.code yX7_add cX7_add 3 (some .int), Cond.methodLink RX7 73 yX7_first, Cond.instanceMethod yX7_first, Cond.selects RX7 yX7_first yX7_first, Cond.code yX7_first cX7_first 2 (some .int), Cond.methodLink RL 26 yX6_remove, Cond.instanceMethod yX6_remove, Cond.selects RX6 yX6_remove yX6_remove, Cond.code yX6_remove cX6_remove 1 (some .int), Cond.methodLink RX6 90 yX1_dropLast, Cond.instanceMethod yX1_dropLast]
def wsL_law_r12 : List Cond := [Cond.selects RX1 yX1_dropLast yX1_dropLast, Cond.code yX1_dropLast cX1_dropLast 1 none, Cond.methodLink RL 30 yX7_remove, Cond.instanceMethod yX7_remove, Cond.selects RX7 yX7_remove yX7_remove, Cond.code yX7_remove cX7_remove 2 (some .int), Cond.methodLink RL 31 yX6_pull, Cond.instanceMethod yX6_pull, Cond.selects RX6 yX6_pull yX6_pull, Cond.code yX6_pull cX6_pull 4 (some .int), Cond.methodLink RX6 93 yX1_hasLine, Cond.instanceMethod yX1_hasLine, Cond.selects RX1 yX1_hasLine yX1_hasLine, Cond.code yX1_hasLine cX1_hasLine 2 (some .boolean), Cond.methodLink RX1 51 yX1_lines, Cond.methodLink RX6 96 yX1_endOf, Cond.instanceMethod yX1_endOf, Cond.selects RX1 yX1_endOf yX1_endOf, Cond.code yX1_endOf cX1_endOf 3 (some .int), Cond.methodLink RX6 99 yX1_join, Cond.instanceMethod yX1_join, Cond.selects RX1 yX1_join yX1_join, Cond.code yX1_join cX1_join 2 none, Cond.methodLink RL 34 yX7_pull]
def wsL_law_r13 : List Cond := [Cond.instanceMethod yX7_pull, Cond.selects RX7 yX7_pull yX7_pull, Cond.code yX7_pull cX7_pull 3 (some .int), Cond.methodLink RX7 96 yX7_isLine, Cond.instanceMethod yX7_isLine, Cond.selects RX7 yX7_isLine yX7_isLine, Cond.code yX7_isLine cX7_isLine 2 (some .boolean), Cond.methodLink RX7 76 yX7_behind, Cond.instanceMethod yX7_behind, Cond.selects RX7 yX7_behind yX7_behind, Cond.code yX7_behind cX7_behind 2 (some .int), Cond.methodLink RL 35 yX6_push, Cond.instanceMethod yX6_push, Cond.selects RX6 yX6_push yX6_push, Cond.code yX6_push cX6_push 6 (some .int), Cond.methodLink RL 38 yX7_push, Cond.instanceMethod yX7_push, Cond.selects RX7 yX7_push yX7_push, Cond.code yX7_push cX7_push 4 (some .int), Cond.methodLink RL 39 yX6_freeze, Cond.instanceMethod yX6_freeze, Cond.selects RX6 yX6_freeze yX6_freeze, Cond.code yX6_freeze cX6_freeze 5 (some .int), Cond.methodLink RX6 102 yX1_setFrozen]
def wsL_law_r14 : List Cond := [Cond.instanceMethod yX1_setFrozen, Cond.selects RX1 yX1_setFrozen yX1_setFrozen, Cond.code yX1_setFrozen cX1_setFrozen 3 none, Cond.methodLink RL 43 yX7_freeze, Cond.instanceMethod yX7_freeze, Cond.selects RX7 yX7_freeze yX7_freeze, Cond.code yX7_freeze cX7_freeze 4 (some .int), Cond.methodLink RL 44 yX6_reflow, Cond.instanceMethod yX6_reflow, Cond.selects RX6 yX6_reflow yX6_reflow, Cond.code yX6_reflow cX6_reflow 1 (some .int), Cond.methodLink RL 47 yX7_reflow, Cond.instanceMethod yX7_reflow, Cond.selects RX7 yX7_reflow yX7_reflow, Cond.code yX7_reflow cX7_reflow 1 (some .int), Cond.methodLink RL 48 yX6_count, Cond.instanceMethod yX6_count, Cond.selects RX6 yX6_count yX6_count, Cond.code yX6_count cX6_count 2 (some .int), Cond.fieldLink RX6 121 "WhiteRivers$History" "states" "I", Cond.fieldLink RX6 124 "WhiteRivers$Text" "length" "I", Cond.methodLink RX6 106 yX4_layAll, Cond.instanceMethod yX4_layAll, Cond.selects RX4 yX4_layAll yX4_layAll]
def wsL_law_r15 : List Cond := [Cond.code yX4_layAll cX4_layAll 6 none, Cond.fieldLink RX4 33 "WhiteRivers$Page" "words" "I", Cond.methodLink RX4 39 yX1_endOf, Cond.methodLink RX4 42 yX4_layLine, Cond.instanceMethod yX4_layLine, Cond.selects RX4 yX4_layLine yX4_layLine, Cond.code yX4_layLine cX4_layLine 8 (some .int), Cond.methodLink RX4 58 Lib.Math.max.name, Cond.methodLink RX4 46 yX4_placeWords, Cond.instanceMethod yX4_placeWords, Cond.selects RX4 yX4_placeWords yX4_placeWords, Cond.code yX4_placeWords cX4_placeWords 11 none, Cond.methodLink RX4 64 yX1_extra, Cond.methodLink RX4 54 yX2_set, Cond.methodLink RX4 67 yX1_lengthOf, Cond.instanceMethod yX1_lengthOf, Cond.selects RX1 yX1_lengthOf yX1_lengthOf, Cond.code yX1_lengthOf cX1_lengthOf 2 (some .int), Cond.methodLink RX4 50 yX4_reachAbove, Cond.instanceMethod yX4_reachAbove, Cond.selects RX4 yX4_reachAbove yX4_reachAbove, Cond.code yX4_reachAbove cX4_reachAbove 6 (some .int), Cond.methodLink RX4 70 yX4_meet, Cond.instanceMethod yX4_meet]
def wsL_law_r16 : List Cond := [Cond.selects RX4 yX4_meet yX4_meet, Cond.code yX4_meet cX4_meet 7 (some .boolean), Cond.methodLink RX4 74 Lib.Math.min.name, Cond.static Lib.Math.min.name, Cond.code Lib.Math.min.name Lib.Math.min.code 2 (some .int), Cond.methodLink RX4 29 yX2_get, Cond.methodLink RX6 110 yX1_badnessOfAll, Cond.instanceMethod yX1_badnessOfAll, Cond.selects RX1 yX1_badnessOfAll yX1_badnessOfAll, Cond.code yX1_badnessOfAll cX1_badnessOfAll 3 (some .int), Cond.methodLink RX1 55 yX1_endOf, Cond.methodLink RX1 66 yX1_badness, Cond.instanceMethod yX1_badness, Cond.selects RX1 yX1_badness yX1_badness, Cond.code yX1_badness cX1_badness 4 (some .int), Cond.methodLink RX6 113 yX4_greatestReach, Cond.instanceMethod yX4_greatestReach, Cond.selects RX4 yX4_greatestReach yX4_greatestReach, Cond.code yX4_greatestReach cX4_greatestReach 5 (some .int), Cond.methodLink RX6 117 yX4_joints, Cond.instanceMethod yX4_joints, Cond.selects RX4 yX4_joints yX4_joints, Cond.code yX4_joints cX4_joints 5 (some .int), Cond.methodLink RX4 80 yX1_lineOf]
def wsL_law_r17 : List Cond := [Cond.instanceMethod yX1_lineOf, Cond.selects RX1 yX1_lineOf yX1_lineOf, Cond.code yX1_lineOf cX1_lineOf 4 (some .int), Cond.methodLink RX4 83 yX1_firstOf, Cond.methodLink RX4 86 yX4_gapsThatMeet, Cond.instanceMethod yX4_gapsThatMeet, Cond.selects RX4 yX4_gapsThatMeet yX4_gapsThatMeet, Cond.code yX4_gapsThatMeet cX4_gapsThatMeet 6 (some .int), Cond.methodLink RX6 127 yX4_gapsOfGreatestReach, Cond.instanceMethod yX4_gapsOfGreatestReach, Cond.selects RX4 yX4_gapsOfGreatestReach yX4_gapsOfGreatestReach, Cond.code yX4_gapsOfGreatestReach cX4_gapsOfGreatestReach 5 (some .int), Cond.methodLink RX4 77 yX4_greatestReach, Cond.methodLink RL 51 yX7_count, Cond.instanceMethod yX7_count, Cond.selects RX7 yX7_count yX7_count, Cond.code yX7_count cX7_count 2 (some .int), Cond.fieldLink RX7 118 "WhiteRiversModel" "typed" "I", Cond.methodLink RX7 112 yX7_badness, Cond.instanceMethod yX7_badness, Cond.selects RX7 yX7_badness yX7_badness, Cond.code yX7_badness cX7_badness 3 (some .int), Cond.methodLink RX7 103 yX7_badOf, Cond.instanceMethod yX7_badOf]
def wsL_law_r18 : List Cond := [Cond.selects RX7 yX7_badOf yX7_badOf, Cond.code yX7_badOf cX7_badOf 2 (some .int), Cond.methodLink RX7 100 yX7_extraOf, Cond.instanceMethod yX7_extraOf, Cond.selects RX7 yX7_extraOf yX7_extraOf, Cond.code yX7_extraOf cX7_extraOf 2 (some .int), Cond.methodLink RX7 106 yX7_laysAll, Cond.instanceMethod yX7_laysAll, Cond.selects RX7 yX7_laysAll yX7_laysAll, Cond.code yX7_laysAll cX7_laysAll 4 (some .int), Cond.methodLink RX7 79 yX7_lays, Cond.instanceMethod yX7_lays, Cond.selects RX7 yX7_lays yX7_lays, Cond.code yX7_lays cX7_lays 10 (some .int), Cond.methodLink RX7 70 yX7_meets, Cond.instanceMethod yX7_meets, Cond.selects RX7 yX7_meets yX7_meets, Cond.code yX7_meets cX7_meets 3 (some .boolean), Cond.methodLink RX7 115 yX7_gapsWith, Cond.instanceMethod yX7_gapsWith, Cond.selects RX7 yX7_gapsWith yX7_gapsWith, Cond.code yX7_gapsWith cX7_gapsWith 5 (some .int), Cond.methodLink RX7 109 yX7_above, Cond.instanceMethod yX7_above]
def wsL_law_r19 : List Cond := [Cond.selects RX7 yX7_above yX7_above, Cond.code yX7_above cX7_above 3 (some .int), Cond.methodLink RX7 83 yX7_meetsOf, Cond.instanceMethod yX7_meetsOf, Cond.selects RX7 yX7_meetsOf yX7_meetsOf, Cond.code yX7_meetsOf cX7_meetsOf 5 (some .int), Cond.methodLink RL 52 yX6_word, Cond.instanceMethod yX6_word, Cond.selects RX6 yX6_word yX6_word, Cond.code yX6_word cX6_word 3 (some .int), Cond.methodLink RX6 130 yX1_lengthOf, Cond.methodLink RX6 133 yX1_lineOf, Cond.methodLink RX6 136 yX4_columnOf, Cond.instanceMethod yX4_columnOf, Cond.selects RX4 yX4_columnOf yX4_columnOf, Cond.code yX4_columnOf cX4_columnOf 2 (some .int), Cond.methodLink RL 55 yX7_word, Cond.instanceMethod yX7_word, Cond.selects RX7 yX7_word yX7_word, Cond.code yX7_word cX7_word 3 (some .int), Cond.methodLink RX7 121 yX7_lineOf, Cond.instanceMethod yX7_lineOf, Cond.selects RX7 yX7_lineOf yX7_lineOf, Cond.code yX7_lineOf cX7_lineOf 3 (some .int)]
def wsL_law_r20 : List Cond := [Cond.methodLink RL 56 yX6_line, Cond.instanceMethod yX6_line, Cond.selects RX6 yX6_line yX6_line, Cond.code yX6_line cX6_line 5 (some .int), Cond.methodLink RX6 139 yX1_extra, Cond.methodLink RX6 142 yX1_badness, Cond.methodLink RL 59 yX7_line, Cond.instanceMethod yX7_line, Cond.selects RX7 yX7_line yX7_line, Cond.code yX7_line cX7_line 5 (some .int), Cond.methodLink RL 60 yX6_undo, Cond.instanceMethod yX6_undo, Cond.selects RX6 yX6_undo yX6_undo, Cond.code yX6_undo cX6_undo 1 (some .int), Cond.methodLink RX6 145 yX0_restoreLatest, Cond.instanceMethod yX0_restoreLatest, Cond.selects RX0 yX0_restoreLatest yX0_restoreLatest, Cond.code yX0_restoreLatest cX0_restoreLatest 3 none, Cond.methodLink RL 63 yX7_undo, Cond.instanceMethod yX7_undo, Cond.selects RX7 yX7_undo yX7_undo, Cond.code yX7_undo cX7_undo 2 (some .int), Cond.methodLink RL 64 yX6_gap, Cond.instanceMethod yX6_gap]
def wsL_law_r21 : List Cond := [Cond.selects RX6 yX6_gap yX6_gap, Cond.code yX6_gap cX6_gap 7 (some .int), Cond.methodLink RX6 151 yX4_gapColumn, Cond.instanceMethod yX4_gapColumn, Cond.selects RX4 yX4_gapColumn yX4_gapColumn, Cond.code yX4_gapColumn cX4_gapColumn 2 (some .int), Cond.methodLink RX6 154 yX4_gapWidth, Cond.instanceMethod yX4_gapWidth, Cond.selects RX4 yX4_gapWidth yX4_gapWidth, Cond.code yX4_gapWidth cX4_gapWidth 2 (some .int), Cond.methodLink RX6 157 yX4_reachOf, Cond.instanceMethod yX4_reachOf, Cond.selects RX4 yX4_reachOf yX4_reachOf, Cond.code yX4_reachOf cX4_reachOf 2 (some .int), Cond.methodLink RX6 160 yX4_gapsThatMeet, Cond.methodLink RL 68 yX7_gap, Cond.instanceMethod yX7_gap, Cond.selects RX7 yX7_gap yX7_gap, Cond.code yX7_gap cX7_gap 5 (some .int), Cond.methodLink RX7 124 yX7_below, Cond.instanceMethod yX7_below, Cond.selects RX7 yX7_below yX7_below, Cond.code yX7_below cX7_below 3 (some .int), Cond.methodLink RL 69 yX6_river]
def wsL_law_r22 : List Cond := [Cond.instanceMethod yX6_river, Cond.selects RX6 yX6_river yX6_river, Cond.code yX6_river cX6_river 6 (some .int), Cond.methodLink RX6 164 yX4_firstOfReach, Cond.instanceMethod yX4_firstOfReach, Cond.selects RX4 yX4_firstOfReach yX4_firstOfReach, Cond.code yX4_firstOfReach cX4_firstOfReach 5 (some .int), Cond.methodLink RX6 167 yX6_gapAbove, Cond.instanceMethod yX6_gapAbove, Cond.selects RX6 yX6_gapAbove yX6_gapAbove, Cond.code yX6_gapAbove cX6_gapAbove 6 (some .int), Cond.methodLink RX6 206 yX4_meet, Cond.methodLink RL 72 yX7_river, Cond.instanceMethod yX7_river, Cond.selects RX7 yX7_river yX7_river, Cond.code yX7_river cX7_river 8 (some .int), Cond.methodLink RL 73 yX6_at, Cond.instanceMethod yX6_at, Cond.selects RX6 yX6_at yX6_at, Cond.code yX6_at cX6_at 7 (some .int), Cond.methodLink RL 76 yX7_at, Cond.instanceMethod yX7_at, Cond.selects RX7 yX7_at yX7_at, Cond.code yX7_at cX7_at 4 (some .int)]
def wsL_law_r23 : List Cond := [Cond.methodLink RX7 127 yX7_columnIn, Cond.instanceMethod yX7_columnIn, Cond.selects RX7 yX7_columnIn yX7_columnIn, Cond.code yX7_columnIn cX7_columnIn 3 (some .boolean), Cond.methodLink RL 77 yX6_plan, Cond.instanceMethod yX6_plan, Cond.selects RX6 yX6_plan yX6_plan, Cond.code yX6_plan cX6_plan 3 (some .int), Cond.fieldLink RX6 181 "WhiteRivers$Search" "bestLines" "I", Cond.fieldLink RX6 187 "WhiteRivers$Search" "bestRiver" "I", Cond.methodLink RX6 170 yX3_solve, Cond.instanceMethod yX3_solve, Cond.selects RX3 yX3_solve yX3_solve, Cond.code yX3_solve cX3_solve 3 none, Cond.methodLink RX3 57 yX1_copyFrom, Cond.methodLink RX3 61 yX3_setPrices, Cond.instanceMethod yX3_setPrices, Cond.selects RX3 yX3_setPrices yX3_setPrices, Cond.code yX3_setPrices cX3_setPrices 5 none, Cond.fieldLink RX3 79 "WhiteRivers$Page" "words" "I", Cond.methodLink RX3 93 Lib.Math.min.name, Cond.methodLink RX3 82 yX2_set, Cond.methodLink RX3 86 yX3_priceOf, Cond.instanceMethod yX3_priceOf]
def wsL_law_r24 : List Cond := [Cond.selects RX3 yX3_priceOf yX3_priceOf, Cond.code yX3_priceOf cX3_priceOf 5 (some .int), Cond.fieldLink RX3 112 "WhiteRivers$Page" "slack" "I", Cond.constant RX3 68 (100000), Cond.methodLink RX3 98 yX1_isLine, Cond.instanceMethod yX1_isLine, Cond.selects RX1 yX1_isLine yX1_isLine, Cond.code yX1_isLine cX1_isLine 3 (some .boolean), Cond.methodLink RX3 102 yX1_extra, Cond.methodLink RX3 105 yX1_hasFrozen, Cond.instanceMethod yX1_hasFrozen, Cond.selects RX1 yX1_hasFrozen yX1_hasFrozen, Cond.code yX1_hasFrozen cX1_hasFrozen 4 (some .boolean), Cond.methodLink RX1 58 yX1_isFrozen, Cond.methodLink RX3 108 yX1_isFrozen, Cond.methodLink RX3 115 yX1_badness, Cond.methodLink RX3 90 yX3_cellOf, Cond.static yX3_cellOf, Cond.code yX3_cellOf cX3_cellOf 2 (some .int), Cond.methodLink RX3 69 yX2_get, Cond.methodLink RX3 64 yX3_tryLines, Cond.static yX3_tryLines, Cond.code yX3_tryLines cX3_tryLines 9 none, Cond.methodLink RX3 129 Lib.Math.max.name]
def wsL_law_r25 : List Cond := [Cond.methodLink RX3 121 yX3_keepTried, Cond.instanceMethod yX3_keepTried, Cond.selects RX3 yX3_keepTried yX3_keepTried, Cond.code yX3_keepTried cX3_keepTried 4 none, Cond.methodLink RX3 118 yX2_copyFrom, Cond.methodLink RX3 125 yX4_layLine, Cond.methodLink RX6 174 yX3_hasFound, Cond.instanceMethod yX3_hasFound, Cond.selects RX3 yX3_hasFound yX3_hasFound, Cond.code yX3_hasFound cX3_hasFound 1 (some .boolean), Cond.methodLink RX6 178 yX3_bestChanged, Cond.instanceMethod yX3_bestChanged, Cond.selects RX3 yX3_bestChanged yX3_bestChanged, Cond.code yX3_bestChanged cX3_bestChanged 1 (some .int), Cond.methodLink RX6 184 yX3_bestBadness, Cond.instanceMethod yX3_bestBadness, Cond.selects RX3 yX3_bestBadness yX3_bestBadness, Cond.code yX3_bestBadness cX3_bestBadness 1 (some .int), Cond.methodLink RL 80 yX7_plan, Cond.instanceMethod yX7_plan, Cond.selects RX7 yX7_plan yX7_plan, Cond.code yX7_plan cX7_plan 3 (some .int), Cond.fieldLink RX7 136 "WhiteRiversModel" "bestChanged" "I", Cond.fieldLink RX7 133 "WhiteRiversModel" "bestLines" "I"]
def wsL_law_r26 : List Cond := [Cond.fieldLink RX7 139 "WhiteRiversModel" "bestBad" "I", Cond.fieldLink RX7 142 "WhiteRiversModel" "bestRiver" "I", Cond.methodLink RX7 152 yX7_isLength, Cond.static yX7_isLength, Cond.code yX7_isLength cX7_isLength 1 (some .boolean), Cond.methodLink RX7 155 yX7_plans, Cond.instanceMethod yX7_plans, Cond.selects RX7 yX7_plans yX7_plans, Cond.code yX7_plans cX7_plans 8 (some .boolean), Cond.methodLink RX7 145 yX7_takes, Cond.instanceMethod yX7_takes, Cond.selects RX7 yX7_takes yX7_takes, Cond.code yX7_takes cX7_takes 3 none, Cond.methodLink RX7 149 yX7_may, Cond.instanceMethod yX7_may, Cond.selects RX7 yX7_may yX7_may, Cond.code yX7_may cX7_may 5 (some .boolean), Cond.methodLink RX7 130 yX7_nowLine, Cond.instanceMethod yX7_nowLine, Cond.selects RX7 yX7_nowLine yX7_nowLine, Cond.code yX7_nowLine cX7_nowLine 4 (some .int), Cond.methodLink RL 81 yX6_planned, Cond.instanceMethod yX6_planned, Cond.selects RX6 yX6_planned yX6_planned]
def wsL_law_r27 : List Cond := [Cond.code yX6_planned cX6_planned 3 (some .int), Cond.methodLink RX6 190 yX3_bestWords, Cond.instanceMethod yX3_bestWords, Cond.selects RX3 yX3_bestWords yX3_bestWords, Cond.code yX3_bestWords cX3_bestWords 2 (some .int), Cond.methodLink RL 84 yX7_planned, Cond.instanceMethod yX7_planned, Cond.selects RX7 yX7_planned yX7_planned, Cond.code yX7_planned cX7_planned 3 (some .int), Cond.methodLink RL 85 yX6_dam, Cond.instanceMethod yX6_dam, Cond.selects RX6 yX6_dam yX6_dam, Cond.code yX6_dam cX6_dam 3 (some .int), Cond.methodLink RX6 193 yX3_divide, Cond.instanceMethod yX3_divide, Cond.selects RX3 yX3_divide yX3_divide, Cond.code yX3_divide cX3_divide 4 none, Cond.methodLink RX3 73 yX1_joinAll, Cond.methodLink RX3 76 yX1_begin, Cond.methodLink RL 88 yX7_dam, Cond.instanceMethod yX7_dam, Cond.selects RX7 yX7_dam yX7_dam, Cond.code yX7_dam cX7_dam 4 (some .int), Cond.methodLink RL 89 yX6_leastRiver]
def wsL_law_r28 : List Cond := [Cond.instanceMethod yX6_leastRiver, Cond.selects RX6 yX6_leastRiver yX6_leastRiver, Cond.code yX6_leastRiver cX6_leastRiver 2 (some .int), Cond.methodLink RL 92 yX7_leastRiver, Cond.instanceMethod yX7_leastRiver, Cond.selects RX7 yX7_leastRiver yX7_leastRiver, Cond.code yX7_leastRiver cX7_leastRiver 2 (some .int), Cond.methodLink RL 93 yX6_type, Cond.instanceMethod yX6_type, Cond.selects RX6 yX6_type yX6_type, Cond.code yX6_type cX6_type 2 (some .int), Cond.methodLink RX6 196 yX5_append, Cond.instanceMethod yX5_append, Cond.selects RX5 yX5_append yX5_append, Cond.code yX5_append cX5_append 2 none, Cond.methodLink RX5 24 yX2_set, Cond.methodLink RL 96 yX7_type, Cond.instanceMethod yX7_type, Cond.selects RX7 yX7_type yX7_type, Cond.code yX7_type cX7_type 2 (some .int), Cond.methodLink RL 97 yX6_clearText, Cond.instanceMethod yX6_clearText, Cond.selects RX6 yX6_clearText yX6_clearText, Cond.code yX6_clearText cX6_clearText 2 (some .int)]
def wsL_law_r29 : List Cond := [Cond.methodLink RL 100 yX7_clearText, Cond.instanceMethod yX7_clearText, Cond.selects RX7 yX7_clearText yX7_clearText, Cond.code yX7_clearText cX7_clearText 2 (some .int), Cond.methodLink RL 101 yX6_fault, Cond.instanceMethod yX6_fault, Cond.selects RX6 yX6_fault yX6_fault, Cond.code yX6_fault cX6_fault 1 (some .int), Cond.methodLink RX6 197 yX5_firstFault, Cond.instanceMethod yX5_firstFault, Cond.selects RX5 yX5_firstFault yX5_firstFault, Cond.code yX5_firstFault cX5_firstFault 4 (some .int), Cond.methodLink RX5 28 yX2_get, Cond.methodLink RL 104 yX7_fault, Cond.instanceMethod yX7_fault, Cond.selects RX7 yX7_fault yX7_fault, Cond.code yX7_fault cX7_fault 5 (some .int), Cond.methodLink RL 105 yX6_read, Cond.instanceMethod yX6_read, Cond.selects RX6 yX6_read yX6_read, Cond.code yX6_read cX6_read 1 (some .int), Cond.methodLink RX6 200 yX5_giveWords, Cond.instanceMethod yX5_giveWords, Cond.selects RX5 yX5_giveWords yX5_giveWords]
def wsL_law_r30 : List Cond := [Cond.code yX5_giveWords cX5_giveWords 4 none, Cond.methodLink RX5 32 yX1_removeAll, Cond.instanceMethod yX1_removeAll, Cond.selects RX1 yX1_removeAll yX1_removeAll, Cond.code yX1_removeAll cX1_removeAll 1 none, Cond.methodLink RX5 37 yX1_append, Cond.methodLink RL 108 yX7_read, Cond.instanceMethod yX7_read, Cond.selects RX7 yX7_read yX7_read, Cond.code yX7_read cX7_read 3 (some .int), Cond.methodLink RX7 158 yX7_fault]
def wsL_law : List Cond := (wsL_law_r1 ++ (wsL_law_r2 ++ (wsL_law_r3 ++ (wsL_law_r4 ++ (wsL_law_r5 ++ (wsL_law_r6 ++ (wsL_law_r7 ++ (wsL_law_r8 ++ (wsL_law_r9 ++ (wsL_law_r10 ++ (wsL_law_r11 ++ (wsL_law_r12 ++ (wsL_law_r13 ++ (wsL_law_r14 ++ (wsL_law_r15 ++ (wsL_law_r16 ++ (wsL_law_r17 ++ (wsL_law_r18 ++ (wsL_law_r19 ++ (wsL_law_r20 ++ (wsL_law_r21 ++ (wsL_law_r22 ++ (wsL_law_r23 ++ (wsL_law_r24 ++ (wsL_law_r25 ++ (wsL_law_r26 ++ (wsL_law_r27 ++ (wsL_law_r28 ++ (wsL_law_r29 ++ wsL_law_r30))))))))))))))))))))))))))))) ++ wsX60 ++ wsX70 ++ wsX10 ++ wsX00 ++ wsX40 ++ wsX30 ++ wsX50 ++ wsX20 ++ ([] : List Cond)
end
section
set_option maxRecDepth 20000 in
theorem ggX0_init_X1_init : GoodIn wsX0_init wsX1_init := goodIn_r _ [10, 11, 2, 3, 12, 13, 14, 15, 16, 17, 18, 19, 20, 21, 22, 23, 24, 25, 26, 27, 28, 29, 30, 33, 34, 35, 36, 37, 38, 39] (by decide +kernel) (by decide +kernel)
set_option maxRecDepth 20000 in
theorem gX0_init_X1_init_n21 : GoodIn wsX0_init (wsX1_init) := ggX0_init_X1_init
theorem dX0_init_0 : decode cX0_init 0 = .ok (.aload_n 0, 1) := by decide +kernel
theorem dX0_init_1 : decode cX0_init 1 = .ok (.invokespecial 3, 3) := by decide +kernel
theorem dX0_init_4 : decode cX0_init 4 = .ok (.aload_n 0, 1) := by decide +kernel
theorem dX0_init_5 : decode cX0_init 5 = .ok (.iconst 0, 1) := by decide +kernel
theorem dX0_init_6 : decode cX0_init 6 = .ok (.putfield 9, 3) := by decide +kernel
theorem dX0_init_9 : decode cX0_init 9 = .ok (.aload_n 0, 1) := by decide +kernel
theorem dX0_init_10 : decode cX0_init 10 = .ok (.iconst 5, 1) := by decide +kernel
theorem dX0_init_11 : decode cX0_init 11 = .ok (.anewarray 15, 3) := by decide +kernel
theorem dX0_init_14 : decode cX0_init 14 = .ok (.putfield 17, 3) := by decide +kernel
theorem dX0_init_17 : decode cX0_init 17 = .ok (.iconst 0, 1) := by decide +kernel
theorem dX0_init_18 : decode cX0_init 18 = .ok (.istore_n 1, 1) := by decide +kernel
theorem dX0_init_19 : decode cX0_init 19 = .ok (.iload_n 1, 1) := by decide +kernel
theorem dX0_init_20 : decode cX0_init 20 = .ok (.aload_n 0, 1) := by decide +kernel
theorem dX0_init_21 : decode cX0_init 21 = .ok (.getfield 17, 3) := by decide +kernel
theorem dX0_init_24 : decode cX0_init 24 = .ok (.arraylength, 1) := by decide +kernel
theorem dX0_init_25 : decode cX0_init 25 = .ok (.if_icmp .ge 22, 3) := by decide +kernel
theorem dX0_init_28 : decode cX0_init 28 = .ok (.aload_n 0, 1) := by decide +kernel
theorem dX0_init_29 : decode cX0_init 29 = .ok (.getfield 17, 3) := by decide +kernel
theorem dX0_init_32 : decode cX0_init 32 = .ok (.iload_n 1, 1) := by decide +kernel
theorem dX0_init_33 : decode cX0_init 33 = .ok (.new 15, 3) := by decide +kernel
theorem dX0_init_36 : decode cX0_init 36 = .ok (.dup, 1) := by decide +kernel
theorem dX0_init_37 : decode cX0_init 37 = .ok (.invokespecial 21, 3) := by decide +kernel
theorem dX0_init_40 : decode cX0_init 40 = .ok (.aastore, 1) := by decide +kernel
theorem dX0_init_41 : decode cX0_init 41 = .ok (.iinc 1 1, 3) := by decide +kernel
theorem dX0_init_44 : decode cX0_init 44 = .ok (.goto (-25), 3) := by decide +kernel
theorem dX0_init_47 : decode cX0_init 47 = .ok (.return_, 1) := by decide +kernel
set_option maxRecDepth 20000 in
theorem ggX0_keep_X0_dropOldest : GoodIn wsX0_keep wsX0_dropOldest := goodIn_r _ [7, 2, 1, 8, 9, 10, 6, 11, 33, 34] (by decide +kernel) (by decide +kernel)
set_option maxRecDepth 20000 in
theorem gX0_keep_X0_dropOldest : GoodIn wsX0_keep (wsV RX0 22 RX0 yX0_dropOldest wsX0_dropOldest) := goodIn_app (goodIn_of _ (by decide +kernel)) ggX0_keep_X0_dropOldest
set_option maxRecDepth 20000 in
theorem ggX0_keep_X0_pageAt : GoodIn wsX0_keep wsX0_pageAt := goodIn_r _ [11, 2, 33, 34] (by decide +kernel) (by decide +kernel)
set_option maxRecDepth 20000 in
theorem gX0_keep_X0_pageAt : GoodIn wsX0_keep (wsV RX0 25 RX0 yX0_pageAt wsX0_pageAt) := goodIn_app (goodIn_of _ (by decide +kernel)) ggX0_keep_X0_pageAt
set_option maxRecDepth 20000 in
theorem ggX0_keep_X1_copyFrom : GoodIn wsX0_keep wsX1_copyFrom := goodIn_r _ [16, 17, 18, 19, 20, 21, 22, 23, 24, 25, 26, 27, 28, 29, 30, 31, 32, 35, 36, 37, 38, 39, 40, 41] (by decide +kernel) (by decide +kernel)
set_option maxRecDepth 20000 in
theorem gX0_keep_X1_copyFrom : GoodIn wsX0_keep (wsV RX0 29 RX1 yX1_copyFrom wsX1_copyFrom) := goodIn_app (goodIn_of _ (by decide +kernel)) ggX0_keep_X1_copyFrom
theorem dX0_keep_0 : decode cX0_keep 0 = .ok (.aload_n 0, 1) := by decide +kernel
theorem dX0_keep_1 : decode cX0_keep 1 = .ok (.getfield 9, 3) := by decide +kernel
theorem dX0_keep_4 : decode cX0_keep 4 = .ok (.aload_n 0, 1) := by decide +kernel
theorem dX0_keep_5 : decode cX0_keep 5 = .ok (.getfield 17, 3) := by decide +kernel
theorem dX0_keep_8 : decode cX0_keep 8 = .ok (.arraylength, 1) := by decide +kernel
theorem dX0_keep_9 : decode cX0_keep 9 = .ok (.if_icmp .lt 7, 3) := by decide +kernel
theorem dX0_keep_12 : decode cX0_keep 12 = .ok (.aload_n 0, 1) := by decide +kernel
theorem dX0_keep_13 : decode cX0_keep 13 = .ok (.invokevirtual 22, 3) := by decide +kernel
theorem dX0_keep_16 : decode cX0_keep 16 = .ok (.aload_n 0, 1) := by decide +kernel
theorem dX0_keep_17 : decode cX0_keep 17 = .ok (.aload_n 0, 1) := by decide +kernel
theorem dX0_keep_18 : decode cX0_keep 18 = .ok (.getfield 9, 3) := by decide +kernel
theorem dX0_keep_21 : decode cX0_keep 21 = .ok (.invokevirtual 25, 3) := by decide +kernel
theorem dX0_keep_24 : decode cX0_keep 24 = .ok (.astore_n 2, 1) := by decide +kernel
theorem dX0_keep_25 : decode cX0_keep 25 = .ok (.aload_n 2, 1) := by decide +kernel
theorem dX0_keep_26 : decode cX0_keep 26 = .ok (.ifnull 18, 3) := by decide +kernel
theorem dX0_keep_29 : decode cX0_keep 29 = .ok (.aload_n 2, 1) := by decide +kernel
theorem dX0_keep_30 : decode cX0_keep 30 = .ok (.aload_n 1, 1) := by decide +kernel
theorem dX0_keep_31 : decode cX0_keep 31 = .ok (.invokevirtual 29, 3) := by decide +kernel
theorem dX0_keep_34 : decode cX0_keep 34 = .ok (.aload_n 0, 1) := by decide +kernel
theorem dX0_keep_35 : decode cX0_keep 35 = .ok (.dup, 1) := by decide +kernel
theorem dX0_keep_36 : decode cX0_keep 36 = .ok (.getfield 9, 3) := by decide +kernel
theorem dX0_keep_39 : decode cX0_keep 39 = .ok (.iconst 1, 1) := by decide +kernel
theorem dX0_keep_40 : decode cX0_keep 40 = .ok (.iadd, 1) := by decide +kernel
theorem dX0_keep_41 : decode cX0_keep 41 = .ok (.putfield 9, 3) := by decide +kernel
theorem dX0_keep_44 : decode cX0_keep 44 = .ok (.return_, 1) := by decide +kernel
set_option maxRecDepth 20000 in
theorem ggX0_restoreLatest_X0_pageAt : GoodIn wsX0_restoreLatest wsX0_pageAt := goodIn_r _ [6, 7, 29, 30] (by decide +kernel) (by decide +kernel)
set_option maxRecDepth 20000 in
theorem gX0_restoreLatest_X0_pageAt : GoodIn wsX0_restoreLatest (wsV RX0 25 RX0 yX0_pageAt wsX0_pageAt) := goodIn_app (goodIn_of _ (by decide +kernel)) ggX0_restoreLatest_X0_pageAt
set_option maxRecDepth 20000 in
theorem ggX0_restoreLatest_X1_copyFrom : GoodIn wsX0_restoreLatest wsX1_copyFrom := goodIn_r _ [12, 13, 14, 15, 16, 17, 18, 19, 20, 21, 22, 23, 24, 25, 26, 27, 28, 31, 32, 33, 34, 35, 36, 37] (by decide +kernel) (by decide +kernel)
set_option maxRecDepth 20000 in
theorem gX0_restoreLatest_X1_copyFrom : GoodIn wsX0_restoreLatest (wsV RX0 29 RX1 yX1_copyFrom wsX1_copyFrom) := goodIn_app (goodIn_of _ (by decide +kernel)) ggX0_restoreLatest_X1_copyFrom
theorem dX0_restoreLatest_0 : decode cX0_restoreLatest 0 = .ok (.aload_n 0, 1) := by decide +kernel
theorem dX0_restoreLatest_1 : decode cX0_restoreLatest 1 = .ok (.aload_n 0, 1) := by decide +kernel
theorem dX0_restoreLatest_2 : decode cX0_restoreLatest 2 = .ok (.getfield 9, 3) := by decide +kernel
theorem dX0_restoreLatest_5 : decode cX0_restoreLatest 5 = .ok (.iconst 1, 1) := by decide +kernel
theorem dX0_restoreLatest_6 : decode cX0_restoreLatest 6 = .ok (.isub, 1) := by decide +kernel
theorem dX0_restoreLatest_7 : decode cX0_restoreLatest 7 = .ok (.invokevirtual 25, 3) := by decide +kernel
theorem dX0_restoreLatest_10 : decode cX0_restoreLatest 10 = .ok (.astore_n 2, 1) := by decide +kernel
theorem dX0_restoreLatest_11 : decode cX0_restoreLatest 11 = .ok (.aload_n 2, 1) := by decide +kernel
theorem dX0_restoreLatest_12 : decode cX0_restoreLatest 12 = .ok (.ifnull 18, 3) := by decide +kernel
theorem dX0_restoreLatest_15 : decode cX0_restoreLatest 15 = .ok (.aload_n 1, 1) := by decide +kernel
theorem dX0_restoreLatest_16 : decode cX0_restoreLatest 16 = .ok (.aload_n 2, 1) := by decide +kernel
theorem dX0_restoreLatest_17 : decode cX0_restoreLatest 17 = .ok (.invokevirtual 29, 3) := by decide +kernel
theorem dX0_restoreLatest_20 : decode cX0_restoreLatest 20 = .ok (.aload_n 0, 1) := by decide +kernel
theorem dX0_restoreLatest_21 : decode cX0_restoreLatest 21 = .ok (.dup, 1) := by decide +kernel
theorem dX0_restoreLatest_22 : decode cX0_restoreLatest 22 = .ok (.getfield 9, 3) := by decide +kernel
theorem dX0_restoreLatest_25 : decode cX0_restoreLatest 25 = .ok (.iconst 1, 1) := by decide +kernel
theorem dX0_restoreLatest_26 : decode cX0_restoreLatest 26 = .ok (.isub, 1) := by decide +kernel
theorem dX0_restoreLatest_27 : decode cX0_restoreLatest 27 = .ok (.putfield 9, 3) := by decide +kernel
theorem dX0_restoreLatest_30 : decode cX0_restoreLatest 30 = .ok (.return_, 1) := by decide +kernel
set_option maxRecDepth 20000 in
theorem ggX0_dropOldest_X0_pageAt : GoodIn wsX0_dropOldest wsX0_pageAt := goodIn_r _ [7, 1, 8, 9] (by decide +kernel) (by decide +kernel)
set_option maxRecDepth 20000 in
theorem gX0_dropOldest_X0_pageAt : GoodIn wsX0_dropOldest (wsV RX0 25 RX0 yX0_pageAt wsX0_pageAt) := goodIn_app (goodIn_of _ (by decide +kernel)) ggX0_dropOldest_X0_pageAt
theorem dX0_dropOldest_0 : decode cX0_dropOldest 0 = .ok (.aload_n 0, 1) := by decide +kernel
theorem dX0_dropOldest_1 : decode cX0_dropOldest 1 = .ok (.iconst 0, 1) := by decide +kernel
theorem dX0_dropOldest_2 : decode cX0_dropOldest 2 = .ok (.invokevirtual 25, 3) := by decide +kernel
theorem dX0_dropOldest_5 : decode cX0_dropOldest 5 = .ok (.astore_n 1, 1) := by decide +kernel
theorem dX0_dropOldest_6 : decode cX0_dropOldest 6 = .ok (.iconst 1, 1) := by decide +kernel
theorem dX0_dropOldest_7 : decode cX0_dropOldest 7 = .ok (.istore_n 2, 1) := by decide +kernel
theorem dX0_dropOldest_8 : decode cX0_dropOldest 8 = .ok (.iload_n 2, 1) := by decide +kernel
theorem dX0_dropOldest_9 : decode cX0_dropOldest 9 = .ok (.aload_n 0, 1) := by decide +kernel
theorem dX0_dropOldest_10 : decode cX0_dropOldest 10 = .ok (.getfield 17, 3) := by decide +kernel
theorem dX0_dropOldest_13 : decode cX0_dropOldest 13 = .ok (.arraylength, 1) := by decide +kernel
theorem dX0_dropOldest_14 : decode cX0_dropOldest 14 = .ok (.if_icmp .ge 23, 3) := by decide +kernel
theorem dX0_dropOldest_17 : decode cX0_dropOldest 17 = .ok (.aload_n 0, 1) := by decide +kernel
theorem dX0_dropOldest_18 : decode cX0_dropOldest 18 = .ok (.getfield 17, 3) := by decide +kernel
theorem dX0_dropOldest_21 : decode cX0_dropOldest 21 = .ok (.iload_n 2, 1) := by decide +kernel
theorem dX0_dropOldest_22 : decode cX0_dropOldest 22 = .ok (.iconst 1, 1) := by decide +kernel
theorem dX0_dropOldest_23 : decode cX0_dropOldest 23 = .ok (.isub, 1) := by decide +kernel
theorem dX0_dropOldest_24 : decode cX0_dropOldest 24 = .ok (.aload_n 0, 1) := by decide +kernel
theorem dX0_dropOldest_25 : decode cX0_dropOldest 25 = .ok (.getfield 17, 3) := by decide +kernel
theorem dX0_dropOldest_28 : decode cX0_dropOldest 28 = .ok (.iload_n 2, 1) := by decide +kernel
theorem dX0_dropOldest_29 : decode cX0_dropOldest 29 = .ok (.aaload, 1) := by decide +kernel
theorem dX0_dropOldest_30 : decode cX0_dropOldest 30 = .ok (.aastore, 1) := by decide +kernel
theorem dX0_dropOldest_31 : decode cX0_dropOldest 31 = .ok (.iinc 2 1, 3) := by decide +kernel
theorem dX0_dropOldest_34 : decode cX0_dropOldest 34 = .ok (.goto (-26), 3) := by decide +kernel
theorem dX0_dropOldest_37 : decode cX0_dropOldest 37 = .ok (.aload_n 0, 1) := by decide +kernel
theorem dX0_dropOldest_38 : decode cX0_dropOldest 38 = .ok (.getfield 17, 3) := by decide +kernel
theorem dX0_dropOldest_41 : decode cX0_dropOldest 41 = .ok (.arraylength, 1) := by decide +kernel
theorem dX0_dropOldest_42 : decode cX0_dropOldest 42 = .ok (.ifCond .le 16, 3) := by decide +kernel
theorem dX0_dropOldest_45 : decode cX0_dropOldest 45 = .ok (.aload_n 0, 1) := by decide +kernel
theorem dX0_dropOldest_46 : decode cX0_dropOldest 46 = .ok (.getfield 17, 3) := by decide +kernel
theorem dX0_dropOldest_49 : decode cX0_dropOldest 49 = .ok (.aload_n 0, 1) := by decide +kernel
theorem dX0_dropOldest_50 : decode cX0_dropOldest 50 = .ok (.getfield 17, 3) := by decide +kernel
theorem dX0_dropOldest_53 : decode cX0_dropOldest 53 = .ok (.arraylength, 1) := by decide +kernel
theorem dX0_dropOldest_54 : decode cX0_dropOldest 54 = .ok (.iconst 1, 1) := by decide +kernel
theorem dX0_dropOldest_55 : decode cX0_dropOldest 55 = .ok (.isub, 1) := by decide +kernel
theorem dX0_dropOldest_56 : decode cX0_dropOldest 56 = .ok (.aload_n 1, 1) := by decide +kernel
theorem dX0_dropOldest_57 : decode cX0_dropOldest 57 = .ok (.aastore, 1) := by decide +kernel
theorem dX0_dropOldest_58 : decode cX0_dropOldest 58 = .ok (.aload_n 0, 1) := by decide +kernel
theorem dX0_dropOldest_59 : decode cX0_dropOldest 59 = .ok (.aload_n 0, 1) := by decide +kernel
theorem dX0_dropOldest_60 : decode cX0_dropOldest 60 = .ok (.getfield 17, 3) := by decide +kernel
theorem dX0_dropOldest_63 : decode cX0_dropOldest 63 = .ok (.arraylength, 1) := by decide +kernel
theorem dX0_dropOldest_64 : decode cX0_dropOldest 64 = .ok (.iconst 1, 1) := by decide +kernel
theorem dX0_dropOldest_65 : decode cX0_dropOldest 65 = .ok (.isub, 1) := by decide +kernel
theorem dX0_dropOldest_66 : decode cX0_dropOldest 66 = .ok (.putfield 9, 3) := by decide +kernel
theorem dX0_dropOldest_69 : decode cX0_dropOldest 69 = .ok (.return_, 1) := by decide +kernel
theorem dX0_pageAt_0 : decode cX0_pageAt 0 = .ok (.iload_n 1, 1) := by decide +kernel
theorem dX0_pageAt_1 : decode cX0_pageAt 1 = .ok (.ifCond .lt 21, 3) := by decide +kernel
theorem dX0_pageAt_4 : decode cX0_pageAt 4 = .ok (.iload_n 1, 1) := by decide +kernel
theorem dX0_pageAt_5 : decode cX0_pageAt 5 = .ok (.aload_n 0, 1) := by decide +kernel
theorem dX0_pageAt_6 : decode cX0_pageAt 6 = .ok (.getfield 17, 3) := by decide +kernel
theorem dX0_pageAt_9 : decode cX0_pageAt 9 = .ok (.arraylength, 1) := by decide +kernel
theorem dX0_pageAt_10 : decode cX0_pageAt 10 = .ok (.if_icmp .ge 12, 3) := by decide +kernel
theorem dX0_pageAt_13 : decode cX0_pageAt 13 = .ok (.aload_n 0, 1) := by decide +kernel
theorem dX0_pageAt_14 : decode cX0_pageAt 14 = .ok (.getfield 17, 3) := by decide +kernel
theorem dX0_pageAt_17 : decode cX0_pageAt 17 = .ok (.iload_n 1, 1) := by decide +kernel
theorem dX0_pageAt_18 : decode cX0_pageAt 18 = .ok (.aaload, 1) := by decide +kernel
theorem dX0_pageAt_19 : decode cX0_pageAt 19 = .ok (.goto 4, 3) := by decide +kernel
theorem dX0_pageAt_22 : decode cX0_pageAt 22 = .ok (.aconst_null, 1) := by decide +kernel
theorem dX0_pageAt_23 : decode cX0_pageAt 23 = .ok (.areturn, 1) := by decide +kernel
set_option maxRecDepth 20000 in
theorem ggX1_init_X2_init : GoodIn wsX1_init wsX2_init := goodIn_r _ [15, 16, 2, 3, 17, 18, 19, 20, 21, 22, 29] (by decide +kernel) (by decide +kernel)
set_option maxRecDepth 20000 in
theorem gX1_init_X2_init : GoodIn wsX1_init (wsX2_init) := ggX1_init_X2_init
theorem dX1_init_0 : decode cX1_init 0 = .ok (.aload_n 0, 1) := by decide +kernel
theorem dX1_init_1 : decode cX1_init 1 = .ok (.invokespecial 3, 3) := by decide +kernel
theorem dX1_init_4 : decode cX1_init 4 = .ok (.aload_n 0, 1) := by decide +kernel
theorem dX1_init_5 : decode cX1_init 5 = .ok (.bipush 24, 2) := by decide +kernel
theorem dX1_init_7 : decode cX1_init 7 = .ok (.putfield 9, 3) := by decide +kernel
theorem dX1_init_10 : decode cX1_init 10 = .ok (.aload_n 0, 1) := by decide +kernel
theorem dX1_init_11 : decode cX1_init 11 = .ok (.bipush 6, 2) := by decide +kernel
theorem dX1_init_13 : decode cX1_init 13 = .ok (.putfield 15, 3) := by decide +kernel
theorem dX1_init_16 : decode cX1_init 16 = .ok (.aload_n 0, 1) := by decide +kernel
theorem dX1_init_17 : decode cX1_init 17 = .ok (.iconst 0, 1) := by decide +kernel
theorem dX1_init_18 : decode cX1_init 18 = .ok (.putfield 18, 3) := by decide +kernel
theorem dX1_init_21 : decode cX1_init 21 = .ok (.aload_n 0, 1) := by decide +kernel
theorem dX1_init_22 : decode cX1_init 22 = .ok (.new 21, 3) := by decide +kernel
theorem dX1_init_25 : decode cX1_init 25 = .ok (.dup, 1) := by decide +kernel
theorem dX1_init_26 : decode cX1_init 26 = .ok (.bipush 24, 2) := by decide +kernel
theorem dX1_init_28 : decode cX1_init 28 = .ok (.invokespecial 23, 3) := by decide +kernel
theorem dX1_init_31 : decode cX1_init 31 = .ok (.putfield 26, 3) := by decide +kernel
theorem dX1_init_34 : decode cX1_init 34 = .ok (.aload_n 0, 1) := by decide +kernel
theorem dX1_init_35 : decode cX1_init 35 = .ok (.new 21, 3) := by decide +kernel
theorem dX1_init_38 : decode cX1_init 38 = .ok (.dup, 1) := by decide +kernel
theorem dX1_init_39 : decode cX1_init 39 = .ok (.bipush 24, 2) := by decide +kernel
theorem dX1_init_41 : decode cX1_init 41 = .ok (.invokespecial 23, 3) := by decide +kernel
theorem dX1_init_44 : decode cX1_init 44 = .ok (.putfield 30, 3) := by decide +kernel
theorem dX1_init_47 : decode cX1_init 47 = .ok (.aload_n 0, 1) := by decide +kernel
theorem dX1_init_48 : decode cX1_init 48 = .ok (.new 21, 3) := by decide +kernel
theorem dX1_init_51 : decode cX1_init 51 = .ok (.dup, 1) := by decide +kernel
theorem dX1_init_52 : decode cX1_init 52 = .ok (.bipush 24, 2) := by decide +kernel
theorem dX1_init_54 : decode cX1_init 54 = .ok (.invokespecial 23, 3) := by decide +kernel
theorem dX1_init_57 : decode cX1_init 57 = .ok (.putfield 33, 3) := by decide +kernel
theorem dX1_init_60 : decode cX1_init 60 = .ok (.return_, 1) := by decide +kernel
set_option maxRecDepth 20000 in
theorem ggX1_copyFrom_X2_copyFrom : GoodIn wsX1_copyFrom wsX2_copyFrom := goodIn_r _ [11, 12, 13, 14, 15, 10, 16, 23] (by decide +kernel) (by decide +kernel)
set_option maxRecDepth 20000 in
theorem gX1_copyFrom_X2_copyFrom : GoodIn wsX1_copyFrom (wsV RX1 36 RX2 yX2_copyFrom wsX2_copyFrom) := goodIn_app (goodIn_of _ (by decide +kernel)) ggX1_copyFrom_X2_copyFrom
theorem dX1_copyFrom_0 : decode cX1_copyFrom 0 = .ok (.aload_n 0, 1) := by decide +kernel
theorem dX1_copyFrom_1 : decode cX1_copyFrom 1 = .ok (.aload_n 1, 1) := by decide +kernel
theorem dX1_copyFrom_2 : decode cX1_copyFrom 2 = .ok (.getfield 9, 3) := by decide +kernel
theorem dX1_copyFrom_5 : decode cX1_copyFrom 5 = .ok (.putfield 9, 3) := by decide +kernel
theorem dX1_copyFrom_8 : decode cX1_copyFrom 8 = .ok (.aload_n 0, 1) := by decide +kernel
theorem dX1_copyFrom_9 : decode cX1_copyFrom 9 = .ok (.aload_n 1, 1) := by decide +kernel
theorem dX1_copyFrom_10 : decode cX1_copyFrom 10 = .ok (.getfield 15, 3) := by decide +kernel
theorem dX1_copyFrom_13 : decode cX1_copyFrom 13 = .ok (.putfield 15, 3) := by decide +kernel
theorem dX1_copyFrom_16 : decode cX1_copyFrom 16 = .ok (.aload_n 0, 1) := by decide +kernel
theorem dX1_copyFrom_17 : decode cX1_copyFrom 17 = .ok (.aload_n 1, 1) := by decide +kernel
theorem dX1_copyFrom_18 : decode cX1_copyFrom 18 = .ok (.getfield 18, 3) := by decide +kernel
theorem dX1_copyFrom_21 : decode cX1_copyFrom 21 = .ok (.putfield 18, 3) := by decide +kernel
theorem dX1_copyFrom_24 : decode cX1_copyFrom 24 = .ok (.aload_n 0, 1) := by decide +kernel
theorem dX1_copyFrom_25 : decode cX1_copyFrom 25 = .ok (.getfield 26, 3) := by decide +kernel
theorem dX1_copyFrom_28 : decode cX1_copyFrom 28 = .ok (.aload_n 1, 1) := by decide +kernel
theorem dX1_copyFrom_29 : decode cX1_copyFrom 29 = .ok (.getfield 26, 3) := by decide +kernel
theorem dX1_copyFrom_32 : decode cX1_copyFrom 32 = .ok (.invokevirtual 36, 3) := by decide +kernel
theorem dX1_copyFrom_35 : decode cX1_copyFrom 35 = .ok (.aload_n 0, 1) := by decide +kernel
theorem dX1_copyFrom_36 : decode cX1_copyFrom 36 = .ok (.getfield 30, 3) := by decide +kernel
theorem dX1_copyFrom_39 : decode cX1_copyFrom 39 = .ok (.aload_n 1, 1) := by decide +kernel
theorem dX1_copyFrom_40 : decode cX1_copyFrom 40 = .ok (.getfield 30, 3) := by decide +kernel
theorem dX1_copyFrom_43 : decode cX1_copyFrom 43 = .ok (.invokevirtual 36, 3) := by decide +kernel
theorem dX1_copyFrom_46 : decode cX1_copyFrom 46 = .ok (.aload_n 0, 1) := by decide +kernel
theorem dX1_copyFrom_47 : decode cX1_copyFrom 47 = .ok (.getfield 33, 3) := by decide +kernel
theorem dX1_copyFrom_50 : decode cX1_copyFrom 50 = .ok (.aload_n 1, 1) := by decide +kernel
theorem dX1_copyFrom_51 : decode cX1_copyFrom 51 = .ok (.getfield 33, 3) := by decide +kernel
theorem dX1_copyFrom_54 : decode cX1_copyFrom 54 = .ok (.invokevirtual 36, 3) := by decide +kernel
theorem dX1_copyFrom_57 : decode cX1_copyFrom 57 = .ok (.return_, 1) := by decide +kernel
set_option maxRecDepth 20000 in
theorem ggX1_removeAll_X2_clear : GoodIn wsX1_removeAll wsX2_clear := goodIn_r _ [8, 9, 16] (by decide +kernel) (by decide +kernel)
set_option maxRecDepth 20000 in
theorem gX1_removeAll_X2_clear : GoodIn wsX1_removeAll (wsV RX1 40 RX2 yX2_clear wsX2_clear) := goodIn_app (goodIn_of _ (by decide +kernel)) ggX1_removeAll_X2_clear
theorem dX1_removeAll_0 : decode cX1_removeAll 0 = .ok (.aload_n 0, 1) := by decide +kernel
theorem dX1_removeAll_1 : decode cX1_removeAll 1 = .ok (.iconst 0, 1) := by decide +kernel
theorem dX1_removeAll_2 : decode cX1_removeAll 2 = .ok (.putfield 18, 3) := by decide +kernel
theorem dX1_removeAll_5 : decode cX1_removeAll 5 = .ok (.aload_n 0, 1) := by decide +kernel
theorem dX1_removeAll_6 : decode cX1_removeAll 6 = .ok (.getfield 30, 3) := by decide +kernel
theorem dX1_removeAll_9 : decode cX1_removeAll 9 = .ok (.invokevirtual 40, 3) := by decide +kernel
theorem dX1_removeAll_12 : decode cX1_removeAll 12 = .ok (.aload_n 0, 1) := by decide +kernel
theorem dX1_removeAll_13 : decode cX1_removeAll 13 = .ok (.getfield 33, 3) := by decide +kernel
theorem dX1_removeAll_16 : decode cX1_removeAll 16 = .ok (.invokevirtual 40, 3) := by decide +kernel
theorem dX1_removeAll_19 : decode cX1_removeAll 19 = .ok (.return_, 1) := by decide +kernel
set_option maxRecDepth 20000 in
theorem ggX1_append_X2_set : GoodIn wsX1_append wsX2_set := goodIn_r _ [7, 8, 15] (by decide +kernel) (by decide +kernel)
set_option maxRecDepth 20000 in
theorem gX1_append_X2_set : GoodIn wsX1_append (wsV RX1 43 RX2 yX2_set wsX2_set) := goodIn_app (goodIn_of _ (by decide +kernel)) ggX1_append_X2_set
theorem dX1_append_0 : decode cX1_append 0 = .ok (.aload_n 0, 1) := by decide +kernel
theorem dX1_append_1 : decode cX1_append 1 = .ok (.getfield 26, 3) := by decide +kernel
theorem dX1_append_4 : decode cX1_append 4 = .ok (.aload_n 0, 1) := by decide +kernel
theorem dX1_append_5 : decode cX1_append 5 = .ok (.getfield 18, 3) := by decide +kernel
theorem dX1_append_8 : decode cX1_append 8 = .ok (.iload_n 1, 1) := by decide +kernel
theorem dX1_append_9 : decode cX1_append 9 = .ok (.invokevirtual 43, 3) := by decide +kernel
theorem dX1_append_12 : decode cX1_append 12 = .ok (.aload_n 0, 1) := by decide +kernel
theorem dX1_append_13 : decode cX1_append 13 = .ok (.dup, 1) := by decide +kernel
theorem dX1_append_14 : decode cX1_append 14 = .ok (.getfield 18, 3) := by decide +kernel
theorem dX1_append_17 : decode cX1_append 17 = .ok (.iconst 1, 1) := by decide +kernel
theorem dX1_append_18 : decode cX1_append 18 = .ok (.iadd, 1) := by decide +kernel
theorem dX1_append_19 : decode cX1_append 19 = .ok (.putfield 18, 3) := by decide +kernel
theorem dX1_append_22 : decode cX1_append 22 = .ok (.return_, 1) := by decide +kernel
set_option maxRecDepth 20000 in
theorem ggX1_dropLast_X2_set : GoodIn wsX1_dropLast wsX2_set := goodIn_r _ [7, 8, 15] (by decide +kernel) (by decide +kernel)
set_option maxRecDepth 20000 in
theorem gX1_dropLast_X2_set : GoodIn wsX1_dropLast (wsV RX1 43 RX2 yX2_set wsX2_set) := goodIn_app (goodIn_of _ (by decide +kernel)) ggX1_dropLast_X2_set
theorem dX1_dropLast_0 : decode cX1_dropLast 0 = .ok (.aload_n 0, 1) := by decide +kernel
theorem dX1_dropLast_1 : decode cX1_dropLast 1 = .ok (.dup, 1) := by decide +kernel
theorem dX1_dropLast_2 : decode cX1_dropLast 2 = .ok (.getfield 18, 3) := by decide +kernel
theorem dX1_dropLast_5 : decode cX1_dropLast 5 = .ok (.iconst 1, 1) := by decide +kernel
theorem dX1_dropLast_6 : decode cX1_dropLast 6 = .ok (.isub, 1) := by decide +kernel
theorem dX1_dropLast_7 : decode cX1_dropLast 7 = .ok (.putfield 18, 3) := by decide +kernel
theorem dX1_dropLast_10 : decode cX1_dropLast 10 = .ok (.aload_n 0, 1) := by decide +kernel
theorem dX1_dropLast_11 : decode cX1_dropLast 11 = .ok (.getfield 30, 3) := by decide +kernel
theorem dX1_dropLast_14 : decode cX1_dropLast 14 = .ok (.aload_n 0, 1) := by decide +kernel
theorem dX1_dropLast_15 : decode cX1_dropLast 15 = .ok (.getfield 18, 3) := by decide +kernel
theorem dX1_dropLast_18 : decode cX1_dropLast 18 = .ok (.iconst 0, 1) := by decide +kernel
theorem dX1_dropLast_19 : decode cX1_dropLast 19 = .ok (.invokevirtual 43, 3) := by decide +kernel
theorem dX1_dropLast_22 : decode cX1_dropLast 22 = .ok (.return_, 1) := by decide +kernel
set_option maxRecDepth 20000 in
theorem ggX1_begin_X2_set : GoodIn wsX1_begin wsX2_set := goodIn_r _ [7, 8, 15] (by decide +kernel) (by decide +kernel)
set_option maxRecDepth 20000 in
theorem gX1_begin_X2_set : GoodIn wsX1_begin (wsV RX1 43 RX2 yX2_set wsX2_set) := goodIn_app (goodIn_of _ (by decide +kernel)) ggX1_begin_X2_set
theorem dX1_begin_0 : decode cX1_begin 0 = .ok (.iload_n 1, 1) := by decide +kernel
theorem dX1_begin_1 : decode cX1_begin 1 = .ok (.aload_n 0, 1) := by decide +kernel
theorem dX1_begin_2 : decode cX1_begin 2 = .ok (.getfield 18, 3) := by decide +kernel
theorem dX1_begin_5 : decode cX1_begin 5 = .ok (.if_icmp .ge 12, 3) := by decide +kernel
theorem dX1_begin_8 : decode cX1_begin 8 = .ok (.aload_n 0, 1) := by decide +kernel
theorem dX1_begin_9 : decode cX1_begin 9 = .ok (.getfield 30, 3) := by decide +kernel
theorem dX1_begin_12 : decode cX1_begin 12 = .ok (.iload_n 1, 1) := by decide +kernel
theorem dX1_begin_13 : decode cX1_begin 13 = .ok (.iconst 1, 1) := by decide +kernel
theorem dX1_begin_14 : decode cX1_begin 14 = .ok (.invokevirtual 43, 3) := by decide +kernel
theorem dX1_begin_17 : decode cX1_begin 17 = .ok (.return_, 1) := by decide +kernel
set_option maxRecDepth 20000 in
theorem ggX1_join_X2_set : GoodIn wsX1_join wsX2_set := goodIn_r _ [6, 7, 14] (by decide +kernel) (by decide +kernel)
set_option maxRecDepth 20000 in
theorem gX1_join_X2_set : GoodIn wsX1_join (wsV RX1 43 RX2 yX2_set wsX2_set) := goodIn_app (goodIn_of _ (by decide +kernel)) ggX1_join_X2_set
theorem dX1_join_0 : decode cX1_join 0 = .ok (.aload_n 0, 1) := by decide +kernel
theorem dX1_join_1 : decode cX1_join 1 = .ok (.getfield 30, 3) := by decide +kernel
theorem dX1_join_4 : decode cX1_join 4 = .ok (.iload_n 1, 1) := by decide +kernel
theorem dX1_join_5 : decode cX1_join 5 = .ok (.iconst 0, 1) := by decide +kernel
theorem dX1_join_6 : decode cX1_join 6 = .ok (.invokevirtual 43, 3) := by decide +kernel
theorem dX1_join_9 : decode cX1_join 9 = .ok (.return_, 1) := by decide +kernel
set_option maxRecDepth 20000 in
theorem ggX1_joinAll_X2_clear : GoodIn wsX1_joinAll wsX2_clear := goodIn_r _ [6, 7, 14] (by decide +kernel) (by decide +kernel)
set_option maxRecDepth 20000 in
theorem gX1_joinAll_X2_clear : GoodIn wsX1_joinAll (wsV RX1 40 RX2 yX2_clear wsX2_clear) := goodIn_app (goodIn_of _ (by decide +kernel)) ggX1_joinAll_X2_clear
theorem dX1_joinAll_0 : decode cX1_joinAll 0 = .ok (.aload_n 0, 1) := by decide +kernel
theorem dX1_joinAll_1 : decode cX1_joinAll 1 = .ok (.getfield 30, 3) := by decide +kernel
theorem dX1_joinAll_4 : decode cX1_joinAll 4 = .ok (.invokevirtual 40, 3) := by decide +kernel
theorem dX1_joinAll_7 : decode cX1_joinAll 7 = .ok (.return_, 1) := by decide +kernel
set_option maxRecDepth 20000 in
theorem ggX1_setFrozen_X2_set : GoodIn wsX1_setFrozen wsX2_set := goodIn_r _ [6, 7, 14] (by decide +kernel) (by decide +kernel)
set_option maxRecDepth 20000 in
theorem gX1_setFrozen_X2_set : GoodIn wsX1_setFrozen (wsV RX1 43 RX2 yX2_set wsX2_set) := goodIn_app (goodIn_of _ (by decide +kernel)) ggX1_setFrozen_X2_set
theorem dX1_setFrozen_0 : decode cX1_setFrozen 0 = .ok (.aload_n 0, 1) := by decide +kernel
theorem dX1_setFrozen_1 : decode cX1_setFrozen 1 = .ok (.getfield 33, 3) := by decide +kernel
theorem dX1_setFrozen_4 : decode cX1_setFrozen 4 = .ok (.iload_n 1, 1) := by decide +kernel
theorem dX1_setFrozen_5 : decode cX1_setFrozen 5 = .ok (.iload_n 2, 1) := by decide +kernel
theorem dX1_setFrozen_6 : decode cX1_setFrozen 6 = .ok (.invokevirtual 43, 3) := by decide +kernel
theorem dX1_setFrozen_9 : decode cX1_setFrozen 9 = .ok (.return_, 1) := by decide +kernel
set_option maxRecDepth 20000 in
theorem ggX1_isFrozen_X2_get : GoodIn wsX1_isFrozen wsX2_get := goodIn_r _ [6, 7, 14] (by decide +kernel) (by decide +kernel)
set_option maxRecDepth 20000 in
theorem gX1_isFrozen_X2_get : GoodIn wsX1_isFrozen (wsV RX1 47 RX2 yX2_get wsX2_get) := goodIn_app (goodIn_of _ (by decide +kernel)) ggX1_isFrozen_X2_get
theorem dX1_isFrozen_0 : decode cX1_isFrozen 0 = .ok (.aload_n 0, 1) := by decide +kernel
theorem dX1_isFrozen_1 : decode cX1_isFrozen 1 = .ok (.getfield 33, 3) := by decide +kernel
theorem dX1_isFrozen_4 : decode cX1_isFrozen 4 = .ok (.iload_n 1, 1) := by decide +kernel
theorem dX1_isFrozen_5 : decode cX1_isFrozen 5 = .ok (.invokevirtual 47, 3) := by decide +kernel
theorem dX1_isFrozen_8 : decode cX1_isFrozen 8 = .ok (.iconst 1, 1) := by decide +kernel
theorem dX1_isFrozen_9 : decode cX1_isFrozen 9 = .ok (.if_icmp .ne 7, 3) := by decide +kernel
theorem dX1_isFrozen_12 : decode cX1_isFrozen 12 = .ok (.iconst 1, 1) := by decide +kernel
theorem dX1_isFrozen_13 : decode cX1_isFrozen 13 = .ok (.goto 4, 3) := by decide +kernel
theorem dX1_isFrozen_16 : decode cX1_isFrozen 16 = .ok (.iconst 0, 1) := by decide +kernel
theorem dX1_isFrozen_17 : decode cX1_isFrozen 17 = .ok (.ireturn, 1) := by decide +kernel
set_option maxRecDepth 20000 in
theorem ggX1_lengthOf_X2_get : GoodIn wsX1_lengthOf wsX2_get := goodIn_r _ [6, 7, 14] (by decide +kernel) (by decide +kernel)
set_option maxRecDepth 20000 in
theorem gX1_lengthOf_X2_get : GoodIn wsX1_lengthOf (wsV RX1 47 RX2 yX2_get wsX2_get) := goodIn_app (goodIn_of _ (by decide +kernel)) ggX1_lengthOf_X2_get
theorem dX1_lengthOf_0 : decode cX1_lengthOf 0 = .ok (.aload_n 0, 1) := by decide +kernel
theorem dX1_lengthOf_1 : decode cX1_lengthOf 1 = .ok (.getfield 26, 3) := by decide +kernel
theorem dX1_lengthOf_4 : decode cX1_lengthOf 4 = .ok (.iload_n 1, 1) := by decide +kernel
theorem dX1_lengthOf_5 : decode cX1_lengthOf 5 = .ok (.invokevirtual 47, 3) := by decide +kernel
theorem dX1_lengthOf_8 : decode cX1_lengthOf 8 = .ok (.ireturn, 1) := by decide +kernel
set_option maxRecDepth 20000 in
theorem ggX1_lines_X2_get : GoodIn wsX1_lines wsX2_get := goodIn_r _ [7, 8, 15] (by decide +kernel) (by decide +kernel)
set_option maxRecDepth 20000 in
theorem gX1_lines_X2_get : GoodIn wsX1_lines (wsV RX1 47 RX2 yX2_get wsX2_get) := goodIn_app (goodIn_of _ (by decide +kernel)) ggX1_lines_X2_get
theorem dX1_lines_0 : decode cX1_lines 0 = .ok (.iconst 0, 1) := by decide +kernel
theorem dX1_lines_1 : decode cX1_lines 1 = .ok (.istore_n 1, 1) := by decide +kernel
theorem dX1_lines_2 : decode cX1_lines 2 = .ok (.iconst 0, 1) := by decide +kernel
theorem dX1_lines_3 : decode cX1_lines 3 = .ok (.istore_n 2, 1) := by decide +kernel
theorem dX1_lines_4 : decode cX1_lines 4 = .ok (.iload_n 2, 1) := by decide +kernel
theorem dX1_lines_5 : decode cX1_lines 5 = .ok (.aload_n 0, 1) := by decide +kernel
theorem dX1_lines_6 : decode cX1_lines 6 = .ok (.getfield 18, 3) := by decide +kernel
theorem dX1_lines_9 : decode cX1_lines 9 = .ok (.if_icmp .ge 20, 3) := by decide +kernel
theorem dX1_lines_12 : decode cX1_lines 12 = .ok (.iload_n 1, 1) := by decide +kernel
theorem dX1_lines_13 : decode cX1_lines 13 = .ok (.aload_n 0, 1) := by decide +kernel
theorem dX1_lines_14 : decode cX1_lines 14 = .ok (.getfield 30, 3) := by decide +kernel
theorem dX1_lines_17 : decode cX1_lines 17 = .ok (.iload_n 2, 1) := by decide +kernel
theorem dX1_lines_18 : decode cX1_lines 18 = .ok (.invokevirtual 47, 3) := by decide +kernel
theorem dX1_lines_21 : decode cX1_lines 21 = .ok (.iadd, 1) := by decide +kernel
theorem dX1_lines_22 : decode cX1_lines 22 = .ok (.istore_n 1, 1) := by decide +kernel
theorem dX1_lines_23 : decode cX1_lines 23 = .ok (.iinc 2 1, 3) := by decide +kernel
theorem dX1_lines_26 : decode cX1_lines 26 = .ok (.goto (-22), 3) := by decide +kernel
theorem dX1_lines_29 : decode cX1_lines 29 = .ok (.iload_n 1, 1) := by decide +kernel
theorem dX1_lines_30 : decode cX1_lines 30 = .ok (.ireturn, 1) := by decide +kernel
set_option maxRecDepth 20000 in
theorem ggX1_frozenLines_X2_get : GoodIn wsX1_frozenLines wsX2_get := goodIn_r _ [7, 8, 15] (by decide +kernel) (by decide +kernel)
set_option maxRecDepth 20000 in
theorem gX1_frozenLines_X2_get : GoodIn wsX1_frozenLines (wsV RX1 47 RX2 yX2_get wsX2_get) := goodIn_app (goodIn_of _ (by decide +kernel)) ggX1_frozenLines_X2_get
theorem dX1_frozenLines_0 : decode cX1_frozenLines 0 = .ok (.iconst 0, 1) := by decide +kernel
theorem dX1_frozenLines_1 : decode cX1_frozenLines 1 = .ok (.istore_n 1, 1) := by decide +kernel
theorem dX1_frozenLines_2 : decode cX1_frozenLines 2 = .ok (.iconst 0, 1) := by decide +kernel
theorem dX1_frozenLines_3 : decode cX1_frozenLines 3 = .ok (.istore_n 2, 1) := by decide +kernel
theorem dX1_frozenLines_4 : decode cX1_frozenLines 4 = .ok (.iload_n 2, 1) := by decide +kernel
theorem dX1_frozenLines_5 : decode cX1_frozenLines 5 = .ok (.aload_n 0, 1) := by decide +kernel
theorem dX1_frozenLines_6 : decode cX1_frozenLines 6 = .ok (.getfield 18, 3) := by decide +kernel
theorem dX1_frozenLines_9 : decode cX1_frozenLines 9 = .ok (.if_icmp .ge 20, 3) := by decide +kernel
theorem dX1_frozenLines_12 : decode cX1_frozenLines 12 = .ok (.iload_n 1, 1) := by decide +kernel
theorem dX1_frozenLines_13 : decode cX1_frozenLines 13 = .ok (.aload_n 0, 1) := by decide +kernel
theorem dX1_frozenLines_14 : decode cX1_frozenLines 14 = .ok (.getfield 33, 3) := by decide +kernel
theorem dX1_frozenLines_17 : decode cX1_frozenLines 17 = .ok (.iload_n 2, 1) := by decide +kernel
theorem dX1_frozenLines_18 : decode cX1_frozenLines 18 = .ok (.invokevirtual 47, 3) := by decide +kernel
theorem dX1_frozenLines_21 : decode cX1_frozenLines 21 = .ok (.iadd, 1) := by decide +kernel
theorem dX1_frozenLines_22 : decode cX1_frozenLines 22 = .ok (.istore_n 1, 1) := by decide +kernel
theorem dX1_frozenLines_23 : decode cX1_frozenLines 23 = .ok (.iinc 2 1, 3) := by decide +kernel
theorem dX1_frozenLines_26 : decode cX1_frozenLines 26 = .ok (.goto (-22), 3) := by decide +kernel
theorem dX1_frozenLines_29 : decode cX1_frozenLines 29 = .ok (.iload_n 1, 1) := by decide +kernel
theorem dX1_frozenLines_30 : decode cX1_frozenLines 30 = .ok (.ireturn, 1) := by decide +kernel
set_option maxRecDepth 20000 in
theorem ggX1_hasLine_X1_lines : GoodIn wsX1_hasLine wsX1_lines := goodIn_r _ [5, 6, 7, 8, 9, 10, 11, 12, 13, 14, 15, 16, 17, 18, 19, 20] (by decide +kernel) (by decide +kernel)
set_option maxRecDepth 20000 in
theorem gX1_hasLine_X1_lines : GoodIn wsX1_hasLine (wsV RX1 51 RX1 yX1_lines wsX1_lines) := goodIn_app (goodIn_of _ (by decide +kernel)) ggX1_hasLine_X1_lines
theorem dX1_hasLine_0 : decode cX1_hasLine 0 = .ok (.iload_n 1, 1) := by decide +kernel
theorem dX1_hasLine_1 : decode cX1_hasLine 1 = .ok (.ifCond .lt 15, 3) := by decide +kernel
theorem dX1_hasLine_4 : decode cX1_hasLine 4 = .ok (.iload_n 1, 1) := by decide +kernel
theorem dX1_hasLine_5 : decode cX1_hasLine 5 = .ok (.aload_n 0, 1) := by decide +kernel
theorem dX1_hasLine_6 : decode cX1_hasLine 6 = .ok (.invokevirtual 51, 3) := by decide +kernel
theorem dX1_hasLine_9 : decode cX1_hasLine 9 = .ok (.if_icmp .ge 7, 3) := by decide +kernel
theorem dX1_hasLine_12 : decode cX1_hasLine 12 = .ok (.iconst 1, 1) := by decide +kernel
theorem dX1_hasLine_13 : decode cX1_hasLine 13 = .ok (.goto 4, 3) := by decide +kernel
theorem dX1_hasLine_16 : decode cX1_hasLine 16 = .ok (.iconst 0, 1) := by decide +kernel
theorem dX1_hasLine_17 : decode cX1_hasLine 17 = .ok (.ireturn, 1) := by decide +kernel
set_option maxRecDepth 20000 in
theorem ggX1_firstOf_X2_get : GoodIn wsX1_firstOf wsX2_get := goodIn_r _ [7, 8, 15] (by decide +kernel) (by decide +kernel)
set_option maxRecDepth 20000 in
theorem gX1_firstOf_X2_get : GoodIn wsX1_firstOf (wsV RX1 47 RX2 yX2_get wsX2_get) := goodIn_app (goodIn_of _ (by decide +kernel)) ggX1_firstOf_X2_get
theorem dX1_firstOf_0 : decode cX1_firstOf 0 = .ok (.iconst 0, 1) := by decide +kernel
theorem dX1_firstOf_1 : decode cX1_firstOf 1 = .ok (.istore_n 2, 1) := by decide +kernel
theorem dX1_firstOf_2 : decode cX1_firstOf 2 = .ok (.iconst 0, 1) := by decide +kernel
theorem dX1_firstOf_3 : decode cX1_firstOf 3 = .ok (.istore_n 3, 1) := by decide +kernel
theorem dX1_firstOf_4 : decode cX1_firstOf 4 = .ok (.iload_n 3, 1) := by decide +kernel
theorem dX1_firstOf_5 : decode cX1_firstOf 5 = .ok (.aload_n 0, 1) := by decide +kernel
theorem dX1_firstOf_6 : decode cX1_firstOf 6 = .ok (.getfield 18, 3) := by decide +kernel
theorem dX1_firstOf_9 : decode cX1_firstOf 9 = .ok (.if_icmp .ge 27, 3) := by decide +kernel
theorem dX1_firstOf_12 : decode cX1_firstOf 12 = .ok (.iload_n 2, 1) := by decide +kernel
theorem dX1_firstOf_13 : decode cX1_firstOf 13 = .ok (.aload_n 0, 1) := by decide +kernel
theorem dX1_firstOf_14 : decode cX1_firstOf 14 = .ok (.getfield 30, 3) := by decide +kernel
theorem dX1_firstOf_17 : decode cX1_firstOf 17 = .ok (.iload_n 3, 1) := by decide +kernel
theorem dX1_firstOf_18 : decode cX1_firstOf 18 = .ok (.invokevirtual 47, 3) := by decide +kernel
theorem dX1_firstOf_21 : decode cX1_firstOf 21 = .ok (.iadd, 1) := by decide +kernel
theorem dX1_firstOf_22 : decode cX1_firstOf 22 = .ok (.istore_n 2, 1) := by decide +kernel
theorem dX1_firstOf_23 : decode cX1_firstOf 23 = .ok (.iload_n 2, 1) := by decide +kernel
theorem dX1_firstOf_24 : decode cX1_firstOf 24 = .ok (.iload_n 1, 1) := by decide +kernel
theorem dX1_firstOf_25 : decode cX1_firstOf 25 = .ok (.if_icmp .le 5, 3) := by decide +kernel
theorem dX1_firstOf_28 : decode cX1_firstOf 28 = .ok (.iload_n 3, 1) := by decide +kernel
theorem dX1_firstOf_29 : decode cX1_firstOf 29 = .ok (.ireturn, 1) := by decide +kernel
theorem dX1_firstOf_30 : decode cX1_firstOf 30 = .ok (.iinc 3 1, 3) := by decide +kernel
theorem dX1_firstOf_33 : decode cX1_firstOf 33 = .ok (.goto (-29), 3) := by decide +kernel
theorem dX1_firstOf_36 : decode cX1_firstOf 36 = .ok (.aload_n 0, 1) := by decide +kernel
theorem dX1_firstOf_37 : decode cX1_firstOf 37 = .ok (.getfield 18, 3) := by decide +kernel
theorem dX1_firstOf_40 : decode cX1_firstOf 40 = .ok (.ireturn, 1) := by decide +kernel
set_option maxRecDepth 20000 in
theorem ggX1_endOf_X2_get : GoodIn wsX1_endOf wsX2_get := goodIn_r _ [7, 8, 15] (by decide +kernel) (by decide +kernel)
set_option maxRecDepth 20000 in
theorem gX1_endOf_X2_get : GoodIn wsX1_endOf (wsV RX1 47 RX2 yX2_get wsX2_get) := goodIn_app (goodIn_of _ (by decide +kernel)) ggX1_endOf_X2_get
theorem dX1_endOf_0 : decode cX1_endOf 0 = .ok (.iload_n 1, 1) := by decide +kernel
theorem dX1_endOf_1 : decode cX1_endOf 1 = .ok (.iconst 1, 1) := by decide +kernel
theorem dX1_endOf_2 : decode cX1_endOf 2 = .ok (.iadd, 1) := by decide +kernel
theorem dX1_endOf_3 : decode cX1_endOf 3 = .ok (.istore_n 2, 1) := by decide +kernel
theorem dX1_endOf_4 : decode cX1_endOf 4 = .ok (.iload_n 2, 1) := by decide +kernel
theorem dX1_endOf_5 : decode cX1_endOf 5 = .ok (.aload_n 0, 1) := by decide +kernel
theorem dX1_endOf_6 : decode cX1_endOf 6 = .ok (.getfield 18, 3) := by decide +kernel
theorem dX1_endOf_9 : decode cX1_endOf 9 = .ok (.if_icmp .ge 23, 3) := by decide +kernel
theorem dX1_endOf_12 : decode cX1_endOf 12 = .ok (.aload_n 0, 1) := by decide +kernel
theorem dX1_endOf_13 : decode cX1_endOf 13 = .ok (.getfield 30, 3) := by decide +kernel
theorem dX1_endOf_16 : decode cX1_endOf 16 = .ok (.iload_n 2, 1) := by decide +kernel
theorem dX1_endOf_17 : decode cX1_endOf 17 = .ok (.invokevirtual 47, 3) := by decide +kernel
theorem dX1_endOf_20 : decode cX1_endOf 20 = .ok (.iconst 1, 1) := by decide +kernel
theorem dX1_endOf_21 : decode cX1_endOf 21 = .ok (.if_icmp .ne 5, 3) := by decide +kernel
theorem dX1_endOf_24 : decode cX1_endOf 24 = .ok (.iload_n 2, 1) := by decide +kernel
theorem dX1_endOf_25 : decode cX1_endOf 25 = .ok (.ireturn, 1) := by decide +kernel
theorem dX1_endOf_26 : decode cX1_endOf 26 = .ok (.iinc 2 1, 3) := by decide +kernel
theorem dX1_endOf_29 : decode cX1_endOf 29 = .ok (.goto (-25), 3) := by decide +kernel
theorem dX1_endOf_32 : decode cX1_endOf 32 = .ok (.aload_n 0, 1) := by decide +kernel
theorem dX1_endOf_33 : decode cX1_endOf 33 = .ok (.getfield 18, 3) := by decide +kernel
theorem dX1_endOf_36 : decode cX1_endOf 36 = .ok (.ireturn, 1) := by decide +kernel
set_option maxRecDepth 20000 in
theorem ggX1_lineOf_X2_get : GoodIn wsX1_lineOf wsX2_get := goodIn_r _ [7, 8, 15] (by decide +kernel) (by decide +kernel)
set_option maxRecDepth 20000 in
theorem gX1_lineOf_X2_get : GoodIn wsX1_lineOf (wsV RX1 47 RX2 yX2_get wsX2_get) := goodIn_app (goodIn_of _ (by decide +kernel)) ggX1_lineOf_X2_get
theorem dX1_lineOf_0 : decode cX1_lineOf 0 = .ok (.iconst (-1), 1) := by decide +kernel
theorem dX1_lineOf_1 : decode cX1_lineOf 1 = .ok (.istore_n 2, 1) := by decide +kernel
theorem dX1_lineOf_2 : decode cX1_lineOf 2 = .ok (.iconst 0, 1) := by decide +kernel
theorem dX1_lineOf_3 : decode cX1_lineOf 3 = .ok (.istore_n 3, 1) := by decide +kernel
theorem dX1_lineOf_4 : decode cX1_lineOf 4 = .ok (.iload_n 3, 1) := by decide +kernel
theorem dX1_lineOf_5 : decode cX1_lineOf 5 = .ok (.iload_n 1, 1) := by decide +kernel
theorem dX1_lineOf_6 : decode cX1_lineOf 6 = .ok (.if_icmp .gt 28, 3) := by decide +kernel
theorem dX1_lineOf_9 : decode cX1_lineOf 9 = .ok (.iload_n 3, 1) := by decide +kernel
theorem dX1_lineOf_10 : decode cX1_lineOf 10 = .ok (.aload_n 0, 1) := by decide +kernel
theorem dX1_lineOf_11 : decode cX1_lineOf 11 = .ok (.getfield 18, 3) := by decide +kernel
theorem dX1_lineOf_14 : decode cX1_lineOf 14 = .ok (.if_icmp .ge 20, 3) := by decide +kernel
theorem dX1_lineOf_17 : decode cX1_lineOf 17 = .ok (.iload_n 2, 1) := by decide +kernel
theorem dX1_lineOf_18 : decode cX1_lineOf 18 = .ok (.aload_n 0, 1) := by decide +kernel
theorem dX1_lineOf_19 : decode cX1_lineOf 19 = .ok (.getfield 30, 3) := by decide +kernel
theorem dX1_lineOf_22 : decode cX1_lineOf 22 = .ok (.iload_n 3, 1) := by decide +kernel
theorem dX1_lineOf_23 : decode cX1_lineOf 23 = .ok (.invokevirtual 47, 3) := by decide +kernel
theorem dX1_lineOf_26 : decode cX1_lineOf 26 = .ok (.iadd, 1) := by decide +kernel
theorem dX1_lineOf_27 : decode cX1_lineOf 27 = .ok (.istore_n 2, 1) := by decide +kernel
theorem dX1_lineOf_28 : decode cX1_lineOf 28 = .ok (.iinc 3 1, 3) := by decide +kernel
theorem dX1_lineOf_31 : decode cX1_lineOf 31 = .ok (.goto (-27), 3) := by decide +kernel
theorem dX1_lineOf_34 : decode cX1_lineOf 34 = .ok (.iload_n 2, 1) := by decide +kernel
theorem dX1_lineOf_35 : decode cX1_lineOf 35 = .ok (.ireturn, 1) := by decide +kernel
set_option maxRecDepth 20000 in
theorem ggX1_isLine_X2_get : GoodIn wsX1_isLine wsX2_get := goodIn_r _ [6, 7, 20] (by decide +kernel) (by decide +kernel)
set_option maxRecDepth 20000 in
theorem gX1_isLine_X2_get : GoodIn wsX1_isLine (wsV RX1 47 RX2 yX2_get wsX2_get) := goodIn_app (goodIn_of _ (by decide +kernel)) ggX1_isLine_X2_get
set_option maxRecDepth 20000 in
theorem ggX1_isLine_X1_endOf : GoodIn wsX1_isLine wsX1_endOf := goodIn_r _ [12, 13, 1, 2, 3, 4, 5, 6, 7, 14, 15, 16, 17, 18, 19, 20] (by decide +kernel) (by decide +kernel)
set_option maxRecDepth 20000 in
theorem gX1_isLine_X1_endOf : GoodIn wsX1_isLine (wsV RX1 55 RX1 yX1_endOf wsX1_endOf) := goodIn_app (goodIn_of _ (by decide +kernel)) ggX1_isLine_X1_endOf
theorem dX1_isLine_0 : decode cX1_isLine 0 = .ok (.aload_n 0, 1) := by decide +kernel
theorem dX1_isLine_1 : decode cX1_isLine 1 = .ok (.getfield 30, 3) := by decide +kernel
theorem dX1_isLine_4 : decode cX1_isLine 4 = .ok (.iload_n 1, 1) := by decide +kernel
theorem dX1_isLine_5 : decode cX1_isLine 5 = .ok (.invokevirtual 47, 3) := by decide +kernel
theorem dX1_isLine_8 : decode cX1_isLine 8 = .ok (.iconst 1, 1) := by decide +kernel
theorem dX1_isLine_9 : decode cX1_isLine 9 = .ok (.if_icmp .ne 16, 3) := by decide +kernel
theorem dX1_isLine_12 : decode cX1_isLine 12 = .ok (.aload_n 0, 1) := by decide +kernel
theorem dX1_isLine_13 : decode cX1_isLine 13 = .ok (.iload_n 1, 1) := by decide +kernel
theorem dX1_isLine_14 : decode cX1_isLine 14 = .ok (.invokevirtual 55, 3) := by decide +kernel
theorem dX1_isLine_17 : decode cX1_isLine 17 = .ok (.iload_n 2, 1) := by decide +kernel
theorem dX1_isLine_18 : decode cX1_isLine 18 = .ok (.if_icmp .ne 7, 3) := by decide +kernel
theorem dX1_isLine_21 : decode cX1_isLine 21 = .ok (.iconst 1, 1) := by decide +kernel
theorem dX1_isLine_22 : decode cX1_isLine 22 = .ok (.goto 4, 3) := by decide +kernel
theorem dX1_isLine_25 : decode cX1_isLine 25 = .ok (.iconst 0, 1) := by decide +kernel
theorem dX1_isLine_26 : decode cX1_isLine 26 = .ok (.ireturn, 1) := by decide +kernel
set_option maxRecDepth 20000 in
theorem ggX1_hasFrozen_X1_isFrozen : GoodIn wsX1_hasFrozen wsX1_isFrozen := goodIn_r _ [5, 6, 7, 8, 9, 10, 11, 12, 13, 14, 15, 16, 17, 18, 19] (by decide +kernel) (by decide +kernel)
set_option maxRecDepth 20000 in
theorem gX1_hasFrozen_X1_isFrozen : GoodIn wsX1_hasFrozen (wsV RX1 58 RX1 yX1_isFrozen wsX1_isFrozen) := goodIn_app (goodIn_of _ (by decide +kernel)) ggX1_hasFrozen_X1_isFrozen
theorem dX1_hasFrozen_0 : decode cX1_hasFrozen 0 = .ok (.iload_n 1, 1) := by decide +kernel
theorem dX1_hasFrozen_1 : decode cX1_hasFrozen 1 = .ok (.istore_n 3, 1) := by decide +kernel
theorem dX1_hasFrozen_2 : decode cX1_hasFrozen 2 = .ok (.iload_n 3, 1) := by decide +kernel
theorem dX1_hasFrozen_3 : decode cX1_hasFrozen 3 = .ok (.iload_n 2, 1) := by decide +kernel
theorem dX1_hasFrozen_4 : decode cX1_hasFrozen 4 = .ok (.if_icmp .ge 19, 3) := by decide +kernel
theorem dX1_hasFrozen_7 : decode cX1_hasFrozen 7 = .ok (.aload_n 0, 1) := by decide +kernel
theorem dX1_hasFrozen_8 : decode cX1_hasFrozen 8 = .ok (.iload_n 3, 1) := by decide +kernel
theorem dX1_hasFrozen_9 : decode cX1_hasFrozen 9 = .ok (.invokevirtual 58, 3) := by decide +kernel
theorem dX1_hasFrozen_12 : decode cX1_hasFrozen 12 = .ok (.ifCond .eq 5, 3) := by decide +kernel
theorem dX1_hasFrozen_15 : decode cX1_hasFrozen 15 = .ok (.iconst 1, 1) := by decide +kernel
theorem dX1_hasFrozen_16 : decode cX1_hasFrozen 16 = .ok (.ireturn, 1) := by decide +kernel
theorem dX1_hasFrozen_17 : decode cX1_hasFrozen 17 = .ok (.iinc 3 1, 3) := by decide +kernel
theorem dX1_hasFrozen_20 : decode cX1_hasFrozen 20 = .ok (.goto (-18), 3) := by decide +kernel
theorem dX1_hasFrozen_23 : decode cX1_hasFrozen 23 = .ok (.iconst 0, 1) := by decide +kernel
theorem dX1_hasFrozen_24 : decode cX1_hasFrozen 24 = .ok (.ireturn, 1) := by decide +kernel
set_option maxRecDepth 20000 in
theorem ggX1_extra_X2_get : GoodIn wsX1_extra wsX2_get := goodIn_r _ [7, 8, 15] (by decide +kernel) (by decide +kernel)
set_option maxRecDepth 20000 in
theorem gX1_extra_X2_get : GoodIn wsX1_extra (wsV RX1 47 RX2 yX2_get wsX2_get) := goodIn_app (goodIn_of _ (by decide +kernel)) ggX1_extra_X2_get
theorem dX1_extra_0 : decode cX1_extra 0 = .ok (.aload_n 0, 1) := by decide +kernel
theorem dX1_extra_1 : decode cX1_extra 1 = .ok (.getfield 9, 3) := by decide +kernel
theorem dX1_extra_4 : decode cX1_extra 4 = .ok (.iload_n 2, 1) := by decide +kernel
theorem dX1_extra_5 : decode cX1_extra 5 = .ok (.iload_n 1, 1) := by decide +kernel
theorem dX1_extra_6 : decode cX1_extra 6 = .ok (.isub, 1) := by decide +kernel
theorem dX1_extra_7 : decode cX1_extra 7 = .ok (.iconst 1, 1) := by decide +kernel
theorem dX1_extra_8 : decode cX1_extra 8 = .ok (.isub, 1) := by decide +kernel
theorem dX1_extra_9 : decode cX1_extra 9 = .ok (.isub, 1) := by decide +kernel
theorem dX1_extra_10 : decode cX1_extra 10 = .ok (.istore_n 3, 1) := by decide +kernel
theorem dX1_extra_11 : decode cX1_extra 11 = .ok (.iload_n 1, 1) := by decide +kernel
theorem dX1_extra_12 : decode cX1_extra 12 = .ok (.istore 4, 2) := by decide +kernel
theorem dX1_extra_14 : decode cX1_extra 14 = .ok (.iload 4, 2) := by decide +kernel
theorem dX1_extra_16 : decode cX1_extra 16 = .ok (.iload_n 2, 1) := by decide +kernel
theorem dX1_extra_17 : decode cX1_extra 17 = .ok (.if_icmp .ge 21, 3) := by decide +kernel
theorem dX1_extra_20 : decode cX1_extra 20 = .ok (.iload_n 3, 1) := by decide +kernel
theorem dX1_extra_21 : decode cX1_extra 21 = .ok (.aload_n 0, 1) := by decide +kernel
theorem dX1_extra_22 : decode cX1_extra 22 = .ok (.getfield 26, 3) := by decide +kernel
theorem dX1_extra_25 : decode cX1_extra 25 = .ok (.iload 4, 2) := by decide +kernel
theorem dX1_extra_27 : decode cX1_extra 27 = .ok (.invokevirtual 47, 3) := by decide +kernel
theorem dX1_extra_30 : decode cX1_extra 30 = .ok (.isub, 1) := by decide +kernel
theorem dX1_extra_31 : decode cX1_extra 31 = .ok (.istore_n 3, 1) := by decide +kernel
theorem dX1_extra_32 : decode cX1_extra 32 = .ok (.iinc 4 1, 3) := by decide +kernel
theorem dX1_extra_35 : decode cX1_extra 35 = .ok (.goto (-21), 3) := by decide +kernel
theorem dX1_extra_38 : decode cX1_extra 38 = .ok (.iload_n 3, 1) := by decide +kernel
theorem dX1_extra_39 : decode cX1_extra 39 = .ok (.ireturn, 1) := by decide +kernel
set_option maxRecDepth 20000 in
theorem ggX1_fits_X1_extra : GoodIn wsX1_fits wsX1_extra := goodIn_r _ [5, 6, 7, 8, 9, 10, 11, 12, 13, 14, 15, 16, 17, 18, 19, 20] (by decide +kernel) (by decide +kernel)
set_option maxRecDepth 20000 in
theorem gX1_fits_X1_extra : GoodIn wsX1_fits (wsV RX1 62 RX1 yX1_extra wsX1_extra) := goodIn_app (goodIn_of _ (by decide +kernel)) ggX1_fits_X1_extra
theorem dX1_fits_0 : decode cX1_fits 0 = .ok (.aload_n 0, 1) := by decide +kernel
theorem dX1_fits_1 : decode cX1_fits 1 = .ok (.iload_n 1, 1) := by decide +kernel
theorem dX1_fits_2 : decode cX1_fits 2 = .ok (.iload_n 2, 1) := by decide +kernel
theorem dX1_fits_3 : decode cX1_fits 3 = .ok (.invokevirtual 62, 3) := by decide +kernel
theorem dX1_fits_6 : decode cX1_fits 6 = .ok (.ifCond .lt 7, 3) := by decide +kernel
theorem dX1_fits_9 : decode cX1_fits 9 = .ok (.iconst 1, 1) := by decide +kernel
theorem dX1_fits_10 : decode cX1_fits 10 = .ok (.goto 4, 3) := by decide +kernel
theorem dX1_fits_13 : decode cX1_fits 13 = .ok (.iconst 0, 1) := by decide +kernel
theorem dX1_fits_14 : decode cX1_fits 14 = .ok (.ireturn, 1) := by decide +kernel
set_option maxRecDepth 20000 in
theorem ggX1_badness_X1_extra : GoodIn wsX1_badness wsX1_extra := goodIn_r _ [6, 7, 8, 9, 10, 11, 12, 13, 14, 15, 16, 17, 18, 19, 20, 21] (by decide +kernel) (by decide +kernel)
set_option maxRecDepth 20000 in
theorem gX1_badness_X1_extra : GoodIn wsX1_badness (wsV RX1 62 RX1 yX1_extra wsX1_extra) := goodIn_app (goodIn_of _ (by decide +kernel)) ggX1_badness_X1_extra
theorem dX1_badness_0 : decode cX1_badness 0 = .ok (.aload_n 0, 1) := by decide +kernel
theorem dX1_badness_1 : decode cX1_badness 1 = .ok (.iload_n 1, 1) := by decide +kernel
theorem dX1_badness_2 : decode cX1_badness 2 = .ok (.iload_n 2, 1) := by decide +kernel
theorem dX1_badness_3 : decode cX1_badness 3 = .ok (.invokevirtual 62, 3) := by decide +kernel
theorem dX1_badness_6 : decode cX1_badness 6 = .ok (.istore_n 3, 1) := by decide +kernel
theorem dX1_badness_7 : decode cX1_badness 7 = .ok (.iload_n 2, 1) := by decide +kernel
theorem dX1_badness_8 : decode cX1_badness 8 = .ok (.aload_n 0, 1) := by decide +kernel
theorem dX1_badness_9 : decode cX1_badness 9 = .ok (.getfield 18, 3) := by decide +kernel
theorem dX1_badness_12 : decode cX1_badness 12 = .ok (.if_icmp .lt 7, 3) := by decide +kernel
theorem dX1_badness_15 : decode cX1_badness 15 = .ok (.iconst 0, 1) := by decide +kernel
theorem dX1_badness_16 : decode cX1_badness 16 = .ok (.goto 6, 3) := by decide +kernel
theorem dX1_badness_19 : decode cX1_badness 19 = .ok (.iload_n 3, 1) := by decide +kernel
theorem dX1_badness_20 : decode cX1_badness 20 = .ok (.iload_n 3, 1) := by decide +kernel
theorem dX1_badness_21 : decode cX1_badness 21 = .ok (.imul, 1) := by decide +kernel
theorem dX1_badness_22 : decode cX1_badness 22 = .ok (.ireturn, 1) := by decide +kernel
set_option maxRecDepth 20000 in
theorem ggX1_badnessOfAll_X2_get : GoodIn wsX1_badnessOfAll wsX2_get := goodIn_r _ [7, 8, 30] (by decide +kernel) (by decide +kernel)
set_option maxRecDepth 20000 in
theorem gX1_badnessOfAll_X2_get : GoodIn wsX1_badnessOfAll (wsV RX1 47 RX2 yX2_get wsX2_get) := goodIn_app (goodIn_of _ (by decide +kernel)) ggX1_badnessOfAll_X2_get
set_option maxRecDepth 20000 in
theorem ggX1_badnessOfAll_X1_endOf : GoodIn wsX1_badnessOfAll wsX1_endOf := goodIn_r _ [13, 1, 2, 3, 4, 5, 6, 7, 8, 24, 25, 26, 27, 28, 29, 30] (by decide +kernel) (by decide +kernel)
set_option maxRecDepth 20000 in
theorem gX1_badnessOfAll_X1_endOf : GoodIn wsX1_badnessOfAll (wsV RX1 55 RX1 yX1_endOf wsX1_endOf) := goodIn_app (goodIn_of _ (by decide +kernel)) ggX1_badnessOfAll_X1_endOf
set_option maxRecDepth 20000 in
theorem ggX1_badnessOfAll_X1_badness : GoodIn wsX1_badnessOfAll wsX1_badness := goodIn_r _ [17, 1, 18, 19, 20, 12, 21, 22, 23, 3, 4, 5, 6, 7, 8, 24, 25, 26, 27, 28, 29, 30] (by decide +kernel) (by decide +kernel)
set_option maxRecDepth 20000 in
theorem gX1_badnessOfAll_X1_badness : GoodIn wsX1_badnessOfAll (wsV RX1 66 RX1 yX1_badness wsX1_badness) := goodIn_app (goodIn_of _ (by decide +kernel)) ggX1_badnessOfAll_X1_badness
theorem dX1_badnessOfAll_0 : decode cX1_badnessOfAll 0 = .ok (.iconst 0, 1) := by decide +kernel
theorem dX1_badnessOfAll_1 : decode cX1_badnessOfAll 1 = .ok (.istore_n 1, 1) := by decide +kernel
theorem dX1_badnessOfAll_2 : decode cX1_badnessOfAll 2 = .ok (.iconst 0, 1) := by decide +kernel
theorem dX1_badnessOfAll_3 : decode cX1_badnessOfAll 3 = .ok (.istore_n 2, 1) := by decide +kernel
theorem dX1_badnessOfAll_4 : decode cX1_badnessOfAll 4 = .ok (.iload_n 2, 1) := by decide +kernel
theorem dX1_badnessOfAll_5 : decode cX1_badnessOfAll 5 = .ok (.aload_n 0, 1) := by decide +kernel
theorem dX1_badnessOfAll_6 : decode cX1_badnessOfAll 6 = .ok (.getfield 18, 3) := by decide +kernel
theorem dX1_badnessOfAll_9 : decode cX1_badnessOfAll 9 = .ok (.if_icmp .ge 34, 3) := by decide +kernel
theorem dX1_badnessOfAll_12 : decode cX1_badnessOfAll 12 = .ok (.aload_n 0, 1) := by decide +kernel
theorem dX1_badnessOfAll_13 : decode cX1_badnessOfAll 13 = .ok (.getfield 30, 3) := by decide +kernel
theorem dX1_badnessOfAll_16 : decode cX1_badnessOfAll 16 = .ok (.iload_n 2, 1) := by decide +kernel
theorem dX1_badnessOfAll_17 : decode cX1_badnessOfAll 17 = .ok (.invokevirtual 47, 3) := by decide +kernel
theorem dX1_badnessOfAll_20 : decode cX1_badnessOfAll 20 = .ok (.iconst 1, 1) := by decide +kernel
theorem dX1_badnessOfAll_21 : decode cX1_badnessOfAll 21 = .ok (.if_icmp .ne 16, 3) := by decide +kernel
theorem dX1_badnessOfAll_24 : decode cX1_badnessOfAll 24 = .ok (.iload_n 1, 1) := by decide +kernel
theorem dX1_badnessOfAll_25 : decode cX1_badnessOfAll 25 = .ok (.aload_n 0, 1) := by decide +kernel
theorem dX1_badnessOfAll_26 : decode cX1_badnessOfAll 26 = .ok (.iload_n 2, 1) := by decide +kernel
theorem dX1_badnessOfAll_27 : decode cX1_badnessOfAll 27 = .ok (.aload_n 0, 1) := by decide +kernel
theorem dX1_badnessOfAll_28 : decode cX1_badnessOfAll 28 = .ok (.iload_n 2, 1) := by decide +kernel
theorem dX1_badnessOfAll_29 : decode cX1_badnessOfAll 29 = .ok (.invokevirtual 55, 3) := by decide +kernel
theorem dX1_badnessOfAll_32 : decode cX1_badnessOfAll 32 = .ok (.invokevirtual 66, 3) := by decide +kernel
theorem dX1_badnessOfAll_35 : decode cX1_badnessOfAll 35 = .ok (.iadd, 1) := by decide +kernel
theorem dX1_badnessOfAll_36 : decode cX1_badnessOfAll 36 = .ok (.istore_n 1, 1) := by decide +kernel
theorem dX1_badnessOfAll_37 : decode cX1_badnessOfAll 37 = .ok (.iinc 2 1, 3) := by decide +kernel
theorem dX1_badnessOfAll_40 : decode cX1_badnessOfAll 40 = .ok (.goto (-36), 3) := by decide +kernel
theorem dX1_badnessOfAll_43 : decode cX1_badnessOfAll 43 = .ok (.iload_n 1, 1) := by decide +kernel
theorem dX1_badnessOfAll_44 : decode cX1_badnessOfAll 44 = .ok (.ireturn, 1) := by decide +kernel
set_option maxRecDepth 20000 in
theorem ggX1_fill_X1_joinAll : GoodIn wsX1_fill wsX1_joinAll := goodIn_r _ [6, 7, 8, 9, 10, 11, 12, 13, 36, 37, 38, 39, 40, 41, 42] (by decide +kernel) (by decide +kernel)
set_option maxRecDepth 20000 in
theorem gX1_fill_X1_joinAll : GoodIn wsX1_fill (wsV RX1 69 RX1 yX1_joinAll wsX1_joinAll) := goodIn_app (goodIn_of _ (by decide +kernel)) ggX1_fill_X1_joinAll
set_option maxRecDepth 20000 in
theorem ggX1_fill_X1_fits : GoodIn wsX1_fill wsX1_fits := goodIn_r _ [17, 18, 19, 20, 5, 21, 22, 23, 24, 25, 26, 11, 27, 13, 36, 37, 38, 39, 40, 41, 42] (by decide +kernel) (by decide +kernel)
set_option maxRecDepth 20000 in
theorem gX1_fill_X1_fits : GoodIn wsX1_fill (wsV RX1 72 RX1 yX1_fits wsX1_fits) := goodIn_app (goodIn_of _ (by decide +kernel)) ggX1_fill_X1_fits
set_option maxRecDepth 20000 in
theorem ggX1_fill_X1_begin : GoodIn wsX1_fill wsX1_begin := goodIn_r _ [31, 1, 7, 32, 33, 34, 11, 35, 13, 36, 37, 38, 39, 40, 41, 42] (by decide +kernel) (by decide +kernel)
set_option maxRecDepth 20000 in
theorem gX1_fill_X1_begin : GoodIn wsX1_fill (wsV RX1 76 RX1 yX1_begin wsX1_begin) := goodIn_app (goodIn_of _ (by decide +kernel)) ggX1_fill_X1_begin
theorem dX1_fill_0 : decode cX1_fill 0 = .ok (.aload_n 0, 1) := by decide +kernel
theorem dX1_fill_1 : decode cX1_fill 1 = .ok (.invokevirtual 69, 3) := by decide +kernel
theorem dX1_fill_4 : decode cX1_fill 4 = .ok (.iconst 0, 1) := by decide +kernel
theorem dX1_fill_5 : decode cX1_fill 5 = .ok (.istore_n 1, 1) := by decide +kernel
theorem dX1_fill_6 : decode cX1_fill 6 = .ok (.iconst 0, 1) := by decide +kernel
theorem dX1_fill_7 : decode cX1_fill 7 = .ok (.istore_n 2, 1) := by decide +kernel
theorem dX1_fill_8 : decode cX1_fill 8 = .ok (.iload_n 2, 1) := by decide +kernel
theorem dX1_fill_9 : decode cX1_fill 9 = .ok (.aload_n 0, 1) := by decide +kernel
theorem dX1_fill_10 : decode cX1_fill 10 = .ok (.getfield 18, 3) := by decide +kernel
theorem dX1_fill_13 : decode cX1_fill 13 = .ok (.if_icmp .ge 27, 3) := by decide +kernel
theorem dX1_fill_16 : decode cX1_fill 16 = .ok (.aload_n 0, 1) := by decide +kernel
theorem dX1_fill_17 : decode cX1_fill 17 = .ok (.iload_n 1, 1) := by decide +kernel
theorem dX1_fill_18 : decode cX1_fill 18 = .ok (.iload_n 2, 1) := by decide +kernel
theorem dX1_fill_19 : decode cX1_fill 19 = .ok (.iconst 1, 1) := by decide +kernel
theorem dX1_fill_20 : decode cX1_fill 20 = .ok (.iadd, 1) := by decide +kernel
theorem dX1_fill_21 : decode cX1_fill 21 = .ok (.invokevirtual 72, 3) := by decide +kernel
theorem dX1_fill_24 : decode cX1_fill 24 = .ok (.ifCond .ne 5, 3) := by decide +kernel
theorem dX1_fill_27 : decode cX1_fill 27 = .ok (.iload_n 2, 1) := by decide +kernel
theorem dX1_fill_28 : decode cX1_fill 28 = .ok (.istore_n 1, 1) := by decide +kernel
theorem dX1_fill_29 : decode cX1_fill 29 = .ok (.aload_n 0, 1) := by decide +kernel
theorem dX1_fill_30 : decode cX1_fill 30 = .ok (.iload_n 1, 1) := by decide +kernel
theorem dX1_fill_31 : decode cX1_fill 31 = .ok (.invokevirtual 76, 3) := by decide +kernel
theorem dX1_fill_34 : decode cX1_fill 34 = .ok (.iinc 2 1, 3) := by decide +kernel
theorem dX1_fill_37 : decode cX1_fill 37 = .ok (.goto (-29), 3) := by decide +kernel
theorem dX1_fill_40 : decode cX1_fill 40 = .ok (.return_, 1) := by decide +kernel
theorem dX2_init_0 : decode cX2_init 0 = .ok (.aload_n 0, 1) := by decide +kernel
theorem dX2_init_1 : decode cX2_init 1 = .ok (.invokespecial 1, 3) := by decide +kernel
theorem dX2_init_4 : decode cX2_init 4 = .ok (.aload_n 0, 1) := by decide +kernel
theorem dX2_init_5 : decode cX2_init 5 = .ok (.iload_n 1, 1) := by decide +kernel
theorem dX2_init_6 : decode cX2_init 6 = .ok (.iconst 0, 1) := by decide +kernel
theorem dX2_init_7 : decode cX2_init 7 = .ok (.invokestatic 7, 3) := by decide +kernel
theorem dX2_init_10 : decode cX2_init 10 = .ok (.newarray .int, 2) := by decide +kernel
theorem dX2_init_12 : decode cX2_init 12 = .ok (.putfield 13, 3) := by decide +kernel
theorem dX2_init_15 : decode cX2_init 15 = .ok (.return_, 1) := by decide +kernel
theorem dX2_get_0 : decode cX2_get 0 = .ok (.iload_n 1, 1) := by decide +kernel
theorem dX2_get_1 : decode cX2_get 1 = .ok (.ifCond .lt 21, 3) := by decide +kernel
theorem dX2_get_4 : decode cX2_get 4 = .ok (.iload_n 1, 1) := by decide +kernel
theorem dX2_get_5 : decode cX2_get 5 = .ok (.aload_n 0, 1) := by decide +kernel
theorem dX2_get_6 : decode cX2_get 6 = .ok (.getfield 13, 3) := by decide +kernel
theorem dX2_get_9 : decode cX2_get 9 = .ok (.arraylength, 1) := by decide +kernel
theorem dX2_get_10 : decode cX2_get 10 = .ok (.if_icmp .ge 12, 3) := by decide +kernel
theorem dX2_get_13 : decode cX2_get 13 = .ok (.aload_n 0, 1) := by decide +kernel
theorem dX2_get_14 : decode cX2_get 14 = .ok (.getfield 13, 3) := by decide +kernel
theorem dX2_get_17 : decode cX2_get 17 = .ok (.iload_n 1, 1) := by decide +kernel
theorem dX2_get_18 : decode cX2_get 18 = .ok (.iaload, 1) := by decide +kernel
theorem dX2_get_19 : decode cX2_get 19 = .ok (.goto 4, 3) := by decide +kernel
theorem dX2_get_22 : decode cX2_get 22 = .ok (.iconst 0, 1) := by decide +kernel
theorem dX2_get_23 : decode cX2_get 23 = .ok (.ireturn, 1) := by decide +kernel
theorem dX2_set_0 : decode cX2_set 0 = .ok (.iload_n 1, 1) := by decide +kernel
theorem dX2_set_1 : decode cX2_set 1 = .ok (.ifCond .lt 19, 3) := by decide +kernel
theorem dX2_set_4 : decode cX2_set 4 = .ok (.iload_n 1, 1) := by decide +kernel
theorem dX2_set_5 : decode cX2_set 5 = .ok (.aload_n 0, 1) := by decide +kernel
theorem dX2_set_6 : decode cX2_set 6 = .ok (.getfield 13, 3) := by decide +kernel
theorem dX2_set_9 : decode cX2_set 9 = .ok (.arraylength, 1) := by decide +kernel
theorem dX2_set_10 : decode cX2_set 10 = .ok (.if_icmp .ge 10, 3) := by decide +kernel
theorem dX2_set_13 : decode cX2_set 13 = .ok (.aload_n 0, 1) := by decide +kernel
theorem dX2_set_14 : decode cX2_set 14 = .ok (.getfield 13, 3) := by decide +kernel
theorem dX2_set_17 : decode cX2_set 17 = .ok (.iload_n 1, 1) := by decide +kernel
theorem dX2_set_18 : decode cX2_set 18 = .ok (.iload_n 2, 1) := by decide +kernel
theorem dX2_set_19 : decode cX2_set 19 = .ok (.iastore, 1) := by decide +kernel
theorem dX2_set_20 : decode cX2_set 20 = .ok (.return_, 1) := by decide +kernel
theorem dX2_clear_0 : decode cX2_clear 0 = .ok (.iconst 0, 1) := by decide +kernel
theorem dX2_clear_1 : decode cX2_clear 1 = .ok (.istore_n 1, 1) := by decide +kernel
theorem dX2_clear_2 : decode cX2_clear 2 = .ok (.iload_n 1, 1) := by decide +kernel
theorem dX2_clear_3 : decode cX2_clear 3 = .ok (.aload_n 0, 1) := by decide +kernel
theorem dX2_clear_4 : decode cX2_clear 4 = .ok (.getfield 13, 3) := by decide +kernel
theorem dX2_clear_7 : decode cX2_clear 7 = .ok (.arraylength, 1) := by decide +kernel
theorem dX2_clear_8 : decode cX2_clear 8 = .ok (.if_icmp .ge 16, 3) := by decide +kernel
theorem dX2_clear_11 : decode cX2_clear 11 = .ok (.aload_n 0, 1) := by decide +kernel
theorem dX2_clear_12 : decode cX2_clear 12 = .ok (.getfield 13, 3) := by decide +kernel
theorem dX2_clear_15 : decode cX2_clear 15 = .ok (.iload_n 1, 1) := by decide +kernel
theorem dX2_clear_16 : decode cX2_clear 16 = .ok (.iconst 0, 1) := by decide +kernel
theorem dX2_clear_17 : decode cX2_clear 17 = .ok (.iastore, 1) := by decide +kernel
theorem dX2_clear_18 : decode cX2_clear 18 = .ok (.iinc 1 1, 3) := by decide +kernel
theorem dX2_clear_21 : decode cX2_clear 21 = .ok (.goto (-19), 3) := by decide +kernel
theorem dX2_clear_24 : decode cX2_clear 24 = .ok (.return_, 1) := by decide +kernel
set_option maxRecDepth 20000 in
theorem ggX2_copyFrom_X2_get : GoodIn wsX2_copyFrom wsX2_get := goodIn_r _ [6, 1, 7] (by decide +kernel) (by decide +kernel)
set_option maxRecDepth 20000 in
theorem gX2_copyFrom_X2_get : GoodIn wsX2_copyFrom (wsV RX2 19 RX2 yX2_get wsX2_get) := goodIn_app (goodIn_of _ (by decide +kernel)) ggX2_copyFrom_X2_get
theorem dX2_copyFrom_0 : decode cX2_copyFrom 0 = .ok (.iconst 0, 1) := by decide +kernel
theorem dX2_copyFrom_1 : decode cX2_copyFrom 1 = .ok (.istore_n 2, 1) := by decide +kernel
theorem dX2_copyFrom_2 : decode cX2_copyFrom 2 = .ok (.iload_n 2, 1) := by decide +kernel
theorem dX2_copyFrom_3 : decode cX2_copyFrom 3 = .ok (.aload_n 0, 1) := by decide +kernel
theorem dX2_copyFrom_4 : decode cX2_copyFrom 4 = .ok (.getfield 13, 3) := by decide +kernel
theorem dX2_copyFrom_7 : decode cX2_copyFrom 7 = .ok (.arraylength, 1) := by decide +kernel
theorem dX2_copyFrom_8 : decode cX2_copyFrom 8 = .ok (.if_icmp .ge 20, 3) := by decide +kernel
theorem dX2_copyFrom_11 : decode cX2_copyFrom 11 = .ok (.aload_n 0, 1) := by decide +kernel
theorem dX2_copyFrom_12 : decode cX2_copyFrom 12 = .ok (.getfield 13, 3) := by decide +kernel
theorem dX2_copyFrom_15 : decode cX2_copyFrom 15 = .ok (.iload_n 2, 1) := by decide +kernel
theorem dX2_copyFrom_16 : decode cX2_copyFrom 16 = .ok (.aload_n 1, 1) := by decide +kernel
theorem dX2_copyFrom_17 : decode cX2_copyFrom 17 = .ok (.iload_n 2, 1) := by decide +kernel
theorem dX2_copyFrom_18 : decode cX2_copyFrom 18 = .ok (.invokevirtual 19, 3) := by decide +kernel
theorem dX2_copyFrom_21 : decode cX2_copyFrom 21 = .ok (.iastore, 1) := by decide +kernel
theorem dX2_copyFrom_22 : decode cX2_copyFrom 22 = .ok (.iinc 2 1, 3) := by decide +kernel
theorem dX2_copyFrom_25 : decode cX2_copyFrom 25 = .ok (.goto (-23), 3) := by decide +kernel
theorem dX2_copyFrom_28 : decode cX2_copyFrom 28 = .ok (.return_, 1) := by decide +kernel
set_option maxRecDepth 20000 in
theorem ggX3_init_X1_init : GoodIn wsX3_init wsX1_init := goodIn_r _ [25, 26, 2, 3, 27, 28, 29, 30, 18, 19, 31, 32, 33, 34, 35, 36, 37, 38, 39, 40, 41, 42, 43, 64, 65, 66, 67, 68, 69, 74] (by decide +kernel) (by decide +kernel)
set_option maxRecDepth 20000 in
theorem gX3_init_X1_init_n27 : GoodIn wsX3_init (wsX1_init) := ggX3_init_X1_init
set_option maxRecDepth 20000 in
theorem ggX3_init_X4_init : GoodIn wsX3_init wsX4_init := goodIn_r _ [45, 46, 2, 3, 47, 18, 19, 48, 49, 50, 51, 52, 35, 36, 37, 38, 39, 40, 41, 42, 43, 74, 70, 71, 72, 73] (by decide +kernel) (by decide +kernel)
set_option maxRecDepth 20000 in
theorem gX3_init_X4_init_n34 : GoodIn wsX3_init (wsX4_init) := ggX3_init_X4_init
set_option maxRecDepth 20000 in
theorem ggX3_init_X2_init : GoodIn wsX3_init wsX2_init := goodIn_r _ [36, 37, 2, 3, 38, 39, 40, 41, 42, 43, 74] (by decide +kernel) (by decide +kernel)
set_option maxRecDepth 20000 in
theorem gX3_init_X2_init : GoodIn wsX3_init (wsX2_init) := ggX3_init_X2_init
theorem dX3_init_0 : decode cX3_init 0 = .ok (.aload_n 0, 1) := by decide +kernel
theorem dX3_init_1 : decode cX3_init 1 = .ok (.invokespecial 3, 3) := by decide +kernel
theorem dX3_init_4 : decode cX3_init 4 = .ok (.aload_n 0, 1) := by decide +kernel
theorem dX3_init_5 : decode cX3_init 5 = .ok (.iconst 0, 1) := by decide +kernel
theorem dX3_init_6 : decode cX3_init 6 = .ok (.putfield 9, 3) := by decide +kernel
theorem dX3_init_9 : decode cX3_init 9 = .ok (.aload_n 0, 1) := by decide +kernel
theorem dX3_init_10 : decode cX3_init 10 = .ok (.iconst 0, 1) := by decide +kernel
theorem dX3_init_11 : decode cX3_init 11 = .ok (.putfield 15, 3) := by decide +kernel
theorem dX3_init_14 : decode cX3_init 14 = .ok (.aload_n 0, 1) := by decide +kernel
theorem dX3_init_15 : decode cX3_init 15 = .ok (.ldc 18, 2) := by decide +kernel
theorem dX3_init_17 : decode cX3_init 17 = .ok (.putfield 19, 3) := by decide +kernel
theorem dX3_init_20 : decode cX3_init 20 = .ok (.aload_n 0, 1) := by decide +kernel
theorem dX3_init_21 : decode cX3_init 21 = .ok (.iconst 0, 1) := by decide +kernel
theorem dX3_init_22 : decode cX3_init 22 = .ok (.putfield 22, 3) := by decide +kernel
theorem dX3_init_25 : decode cX3_init 25 = .ok (.aload_n 0, 1) := by decide +kernel
theorem dX3_init_26 : decode cX3_init 26 = .ok (.new 25, 3) := by decide +kernel
theorem dX3_init_29 : decode cX3_init 29 = .ok (.dup, 1) := by decide +kernel
theorem dX3_init_30 : decode cX3_init 30 = .ok (.invokespecial 27, 3) := by decide +kernel
theorem dX3_init_33 : decode cX3_init 33 = .ok (.putfield 28, 3) := by decide +kernel
theorem dX3_init_36 : decode cX3_init 36 = .ok (.aload_n 0, 1) := by decide +kernel
theorem dX3_init_37 : decode cX3_init 37 = .ok (.new 32, 3) := by decide +kernel
theorem dX3_init_40 : decode cX3_init 40 = .ok (.dup, 1) := by decide +kernel
theorem dX3_init_41 : decode cX3_init 41 = .ok (.invokespecial 34, 3) := by decide +kernel
theorem dX3_init_44 : decode cX3_init 44 = .ok (.putfield 35, 3) := by decide +kernel
theorem dX3_init_47 : decode cX3_init 47 = .ok (.aload_n 0, 1) := by decide +kernel
theorem dX3_init_48 : decode cX3_init 48 = .ok (.new 39, 3) := by decide +kernel
theorem dX3_init_51 : decode cX3_init 51 = .ok (.dup, 1) := by decide +kernel
theorem dX3_init_52 : decode cX3_init 52 = .ok (.sipush 576, 3) := by decide +kernel
theorem dX3_init_55 : decode cX3_init 55 = .ok (.invokespecial 41, 3) := by decide +kernel
theorem dX3_init_58 : decode cX3_init 58 = .ok (.putfield 44, 3) := by decide +kernel
theorem dX3_init_61 : decode cX3_init 61 = .ok (.aload_n 0, 1) := by decide +kernel
theorem dX3_init_62 : decode cX3_init 62 = .ok (.new 39, 3) := by decide +kernel
theorem dX3_init_65 : decode cX3_init 65 = .ok (.dup, 1) := by decide +kernel
theorem dX3_init_66 : decode cX3_init 66 = .ok (.bipush 25, 2) := by decide +kernel
theorem dX3_init_68 : decode cX3_init 68 = .ok (.invokespecial 41, 3) := by decide +kernel
theorem dX3_init_71 : decode cX3_init 71 = .ok (.putfield 48, 3) := by decide +kernel
theorem dX3_init_74 : decode cX3_init 74 = .ok (.aload_n 0, 1) := by decide +kernel
theorem dX3_init_75 : decode cX3_init 75 = .ok (.new 39, 3) := by decide +kernel
theorem dX3_init_78 : decode cX3_init 78 = .ok (.dup, 1) := by decide +kernel
theorem dX3_init_79 : decode cX3_init 79 = .ok (.bipush 24, 2) := by decide +kernel
theorem dX3_init_81 : decode cX3_init 81 = .ok (.invokespecial 41, 3) := by decide +kernel
theorem dX3_init_84 : decode cX3_init 84 = .ok (.putfield 51, 3) := by decide +kernel
theorem dX3_init_87 : decode cX3_init 87 = .ok (.aload_n 0, 1) := by decide +kernel
theorem dX3_init_88 : decode cX3_init 88 = .ok (.new 39, 3) := by decide +kernel
theorem dX3_init_91 : decode cX3_init 91 = .ok (.dup, 1) := by decide +kernel
theorem dX3_init_92 : decode cX3_init 92 = .ok (.bipush 24, 2) := by decide +kernel
theorem dX3_init_94 : decode cX3_init 94 = .ok (.invokespecial 41, 3) := by decide +kernel
theorem dX3_init_97 : decode cX3_init 97 = .ok (.putfield 54, 3) := by decide +kernel
theorem dX3_init_100 : decode cX3_init 100 = .ok (.return_, 1) := by decide +kernel
theorem dX3_forget_0 : decode cX3_forget 0 = .ok (.aload_n 0, 1) := by decide +kernel
theorem dX3_forget_1 : decode cX3_forget 1 = .ok (.iconst 0, 1) := by decide +kernel
theorem dX3_forget_2 : decode cX3_forget 2 = .ok (.putfield 22, 3) := by decide +kernel
theorem dX3_forget_5 : decode cX3_forget 5 = .ok (.return_, 1) := by decide +kernel
set_option maxRecDepth 20000 in
theorem ggX3_solve_X1_copyFrom : GoodIn wsX3_solve wsX1_copyFrom := goodIn_r _ [11, 12, 13, 14, 15, 16, 17, 18, 19, 20, 21, 22, 23, 24, 25, 26, 27, 136, 137, 138, 139, 140, 141, 142] (by decide +kernel) (by decide +kernel)
set_option maxRecDepth 20000 in
theorem gX3_solve_X1_copyFrom : GoodIn wsX3_solve (wsV RX3 57 RX1 yX1_copyFrom wsX1_copyFrom) := goodIn_app (goodIn_of _ (by decide +kernel)) ggX3_solve_X1_copyFrom
set_option maxRecDepth 20000 in
theorem ggX3_solve_X3_setPrices : GoodIn wsX3_solve wsX3_setPrices := goodIn_r _ [32, 33, 2, 34, 3, 35, 36, 37, 38, 39, 40, 41, 42, 21, 43, 23, 44, 45, 46, 31, 47, 48, 49, 50, 51, 52, 10, 53, 16, 54, 25, 26, 27, 55, 56, 57, 58, 14, 59, 60, 61, 62, 12, 15, 63, 64, 65, 66, 67, 68, 69, 70, 17, 71, 72, 73, 74, 75, 76, 77, 78, 79, 80, 126, 127, 128, 129, 130, 131, 132, 133, 134, 135, 136, 137, 138, 139, 140, 141, 142] (by decide +kernel) (by decide +kernel)
set_option maxRecDepth 20000 in
theorem gX3_solve_X3_setPrices : GoodIn wsX3_solve (wsV RX3 61 RX3 yX3_setPrices wsX3_setPrices) := goodIn_app (goodIn_of _ (by decide +kernel)) ggX3_solve_X3_setPrices
set_option maxRecDepth 20000 in
theorem ggX3_solve_X3_tryLines : GoodIn wsX3_solve wsX3_tryLines := goodIn_r _ [83, 2, 34, 35, 4, 33, 84, 1, 85, 86, 87, 38, 88, 89, 90, 91, 31, 92, 5, 6, 93, 94, 19, 20, 21, 22, 23, 24, 25, 26, 27, 77, 78, 79, 80, 95, 96, 97, 98, 99, 100, 101, 102, 103, 104, 105, 106, 107, 108, 109, 110, 60, 61, 10, 62, 12, 15, 54, 111, 41, 42, 43, 112, 113, 114, 115, 116, 117, 118, 119, 120, 121, 122, 123, 124, 37, 39, 125, 40, 81, 82, 126, 127, 128, 129, 130, 131, 132, 133, 134, 135, 136, 137, 138, 139, 140, 141, 142, 143, 144, 145, 146] (by decide +kernel) (by decide +kernel)
set_option maxRecDepth 20000 in
theorem gX3_solve_X3_tryLines : GoodIn wsX3_solve (va_wsS RX3 64 yX3_tryLines wsX3_tryLines) := goodIn_app (goodIn_of _ (by decide +kernel)) ggX3_solve_X3_tryLines
theorem dX3_solve_0 : decode cX3_solve 0 = .ok (.aload_n 0, 1) := by decide +kernel
theorem dX3_solve_1 : decode cX3_solve 1 = .ok (.getfield 22, 3) := by decide +kernel
theorem dX3_solve_4 : decode cX3_solve 4 = .ok (.iload_n 2, 1) := by decide +kernel
theorem dX3_solve_5 : decode cX3_solve 5 = .ok (.if_icmp .ne 4, 3) := by decide +kernel
theorem dX3_solve_8 : decode cX3_solve 8 = .ok (.return_, 1) := by decide +kernel
theorem dX3_solve_9 : decode cX3_solve 9 = .ok (.aload_n 0, 1) := by decide +kernel
theorem dX3_solve_10 : decode cX3_solve 10 = .ok (.iload_n 2, 1) := by decide +kernel
theorem dX3_solve_11 : decode cX3_solve 11 = .ok (.putfield 22, 3) := by decide +kernel
theorem dX3_solve_14 : decode cX3_solve 14 = .ok (.aload_n 0, 1) := by decide +kernel
theorem dX3_solve_15 : decode cX3_solve 15 = .ok (.getfield 28, 3) := by decide +kernel
theorem dX3_solve_18 : decode cX3_solve 18 = .ok (.aload_n 1, 1) := by decide +kernel
theorem dX3_solve_19 : decode cX3_solve 19 = .ok (.invokevirtual 57, 3) := by decide +kernel
theorem dX3_solve_22 : decode cX3_solve 22 = .ok (.aload_n 0, 1) := by decide +kernel
theorem dX3_solve_23 : decode cX3_solve 23 = .ok (.invokevirtual 61, 3) := by decide +kernel
theorem dX3_solve_26 : decode cX3_solve 26 = .ok (.aload_n 0, 1) := by decide +kernel
theorem dX3_solve_27 : decode cX3_solve 27 = .ok (.ldc 18, 2) := by decide +kernel
theorem dX3_solve_29 : decode cX3_solve 29 = .ok (.putfield 19, 3) := by decide +kernel
theorem dX3_solve_32 : decode cX3_solve 32 = .ok (.aload_n 0, 1) := by decide +kernel
theorem dX3_solve_33 : decode cX3_solve 33 = .ok (.iconst 0, 1) := by decide +kernel
theorem dX3_solve_34 : decode cX3_solve 34 = .ok (.putfield 9, 3) := by decide +kernel
theorem dX3_solve_37 : decode cX3_solve 37 = .ok (.aload_n 0, 1) := by decide +kernel
theorem dX3_solve_38 : decode cX3_solve 38 = .ok (.iconst 0, 1) := by decide +kernel
theorem dX3_solve_39 : decode cX3_solve 39 = .ok (.putfield 15, 3) := by decide +kernel
theorem dX3_solve_42 : decode cX3_solve 42 = .ok (.aload_n 0, 1) := by decide +kernel
theorem dX3_solve_43 : decode cX3_solve 43 = .ok (.iconst 0, 1) := by decide +kernel
theorem dX3_solve_44 : decode cX3_solve 44 = .ok (.iconst 0, 1) := by decide +kernel
theorem dX3_solve_45 : decode cX3_solve 45 = .ok (.iconst 0, 1) := by decide +kernel
theorem dX3_solve_46 : decode cX3_solve 46 = .ok (.iconst 0, 1) := by decide +kernel
theorem dX3_solve_47 : decode cX3_solve 47 = .ok (.iconst 0, 1) := by decide +kernel
theorem dX3_solve_48 : decode cX3_solve 48 = .ok (.invokestatic 64, 3) := by decide +kernel
theorem dX3_solve_51 : decode cX3_solve 51 = .ok (.return_, 1) := by decide +kernel
theorem dX3_hasFound_0 : decode cX3_hasFound 0 = .ok (.aload_n 0, 1) := by decide +kernel
theorem dX3_hasFound_1 : decode cX3_hasFound 1 = .ok (.getfield 19, 3) := by decide +kernel
theorem dX3_hasFound_4 : decode cX3_hasFound 4 = .ok (.ldc 18, 2) := by decide +kernel
theorem dX3_hasFound_6 : decode cX3_hasFound 6 = .ok (.if_icmp .ge 7, 3) := by decide +kernel
theorem dX3_hasFound_9 : decode cX3_hasFound 9 = .ok (.iconst 1, 1) := by decide +kernel
theorem dX3_hasFound_10 : decode cX3_hasFound 10 = .ok (.goto 4, 3) := by decide +kernel
theorem dX3_hasFound_13 : decode cX3_hasFound 13 = .ok (.iconst 0, 1) := by decide +kernel
theorem dX3_hasFound_14 : decode cX3_hasFound 14 = .ok (.ireturn, 1) := by decide +kernel
theorem dX3_bestChanged_0 : decode cX3_bestChanged 0 = .ok (.aload_n 0, 1) := by decide +kernel
theorem dX3_bestChanged_1 : decode cX3_bestChanged 1 = .ok (.getfield 19, 3) := by decide +kernel
theorem dX3_bestChanged_4 : decode cX3_bestChanged 4 = .ok (.ldc 68, 2) := by decide +kernel
theorem dX3_bestChanged_6 : decode cX3_bestChanged 6 = .ok (.idiv, 1) := by decide +kernel
theorem dX3_bestChanged_7 : decode cX3_bestChanged 7 = .ok (.ireturn, 1) := by decide +kernel
theorem dX3_bestBadness_0 : decode cX3_bestBadness 0 = .ok (.aload_n 0, 1) := by decide +kernel
theorem dX3_bestBadness_1 : decode cX3_bestBadness 1 = .ok (.getfield 19, 3) := by decide +kernel
theorem dX3_bestBadness_4 : decode cX3_bestBadness 4 = .ok (.ldc 68, 2) := by decide +kernel
theorem dX3_bestBadness_6 : decode cX3_bestBadness 6 = .ok (.irem, 1) := by decide +kernel
theorem dX3_bestBadness_7 : decode cX3_bestBadness 7 = .ok (.ireturn, 1) := by decide +kernel
set_option maxRecDepth 20000 in
theorem ggX3_bestWords_X2_get : GoodIn wsX3_bestWords wsX2_get := goodIn_r _ [6, 7, 18] (by decide +kernel) (by decide +kernel)
set_option maxRecDepth 20000 in
theorem gX3_bestWords_X2_get : GoodIn wsX3_bestWords (wsV RX3 69 RX2 yX2_get wsX2_get) := goodIn_app (goodIn_of _ (by decide +kernel)) ggX3_bestWords_X2_get
theorem dX3_bestWords_0 : decode cX3_bestWords 0 = .ok (.aload_n 0, 1) := by decide +kernel
theorem dX3_bestWords_1 : decode cX3_bestWords 1 = .ok (.getfield 54, 3) := by decide +kernel
theorem dX3_bestWords_4 : decode cX3_bestWords 4 = .ok (.iload_n 1, 1) := by decide +kernel
theorem dX3_bestWords_5 : decode cX3_bestWords 5 = .ok (.invokevirtual 69, 3) := by decide +kernel
theorem dX3_bestWords_8 : decode cX3_bestWords 8 = .ok (.ireturn, 1) := by decide +kernel
set_option maxRecDepth 20000 in
theorem ggX3_divide_X1_joinAll : GoodIn wsX3_divide wsX1_joinAll := goodIn_r _ [7, 8, 9, 10, 11, 12, 13, 14, 38, 39, 40, 41, 42, 43, 44] (by decide +kernel) (by decide +kernel)
set_option maxRecDepth 20000 in
theorem gX3_divide_X1_joinAll : GoodIn wsX3_divide (wsV RX3 73 RX1 yX1_joinAll wsX1_joinAll) := goodIn_app (goodIn_of _ (by decide +kernel)) ggX3_divide_X1_joinAll
set_option maxRecDepth 20000 in
theorem ggX3_divide_X1_begin : GoodIn wsX3_divide wsX1_begin := goodIn_r _ [18, 19, 8, 20, 21, 22, 12, 23, 14, 38, 39, 40, 41, 42, 43, 44] (by decide +kernel) (by decide +kernel)
set_option maxRecDepth 20000 in
theorem gX3_divide_X1_begin : GoodIn wsX3_divide (wsV RX3 76 RX1 yX1_begin wsX1_begin) := goodIn_app (goodIn_of _ (by decide +kernel)) ggX3_divide_X1_begin
set_option maxRecDepth 20000 in
theorem ggX3_divide_X2_get : GoodIn wsX3_divide wsX2_get := goodIn_r _ [27, 14, 44] (by decide +kernel) (by decide +kernel)
set_option maxRecDepth 20000 in
theorem gX3_divide_X2_get : GoodIn wsX3_divide (wsV RX3 69 RX2 yX2_get wsX2_get) := goodIn_app (goodIn_of _ (by decide +kernel)) ggX3_divide_X2_get
theorem dX3_divide_0 : decode cX3_divide 0 = .ok (.aload_n 1, 1) := by decide +kernel
theorem dX3_divide_1 : decode cX3_divide 1 = .ok (.invokevirtual 73, 3) := by decide +kernel
theorem dX3_divide_4 : decode cX3_divide 4 = .ok (.iconst 0, 1) := by decide +kernel
theorem dX3_divide_5 : decode cX3_divide 5 = .ok (.istore_n 2, 1) := by decide +kernel
theorem dX3_divide_6 : decode cX3_divide 6 = .ok (.iconst 0, 1) := by decide +kernel
theorem dX3_divide_7 : decode cX3_divide 7 = .ok (.istore_n 3, 1) := by decide +kernel
theorem dX3_divide_8 : decode cX3_divide 8 = .ok (.iload_n 3, 1) := by decide +kernel
theorem dX3_divide_9 : decode cX3_divide 9 = .ok (.aload_n 0, 1) := by decide +kernel
theorem dX3_divide_10 : decode cX3_divide 10 = .ok (.getfield 9, 3) := by decide +kernel
theorem dX3_divide_13 : decode cX3_divide 13 = .ok (.if_icmp .ge 25, 3) := by decide +kernel
theorem dX3_divide_16 : decode cX3_divide 16 = .ok (.aload_n 1, 1) := by decide +kernel
theorem dX3_divide_17 : decode cX3_divide 17 = .ok (.iload_n 2, 1) := by decide +kernel
theorem dX3_divide_18 : decode cX3_divide 18 = .ok (.invokevirtual 76, 3) := by decide +kernel
theorem dX3_divide_21 : decode cX3_divide 21 = .ok (.iload_n 2, 1) := by decide +kernel
theorem dX3_divide_22 : decode cX3_divide 22 = .ok (.aload_n 0, 1) := by decide +kernel
theorem dX3_divide_23 : decode cX3_divide 23 = .ok (.getfield 54, 3) := by decide +kernel
theorem dX3_divide_26 : decode cX3_divide 26 = .ok (.iload_n 3, 1) := by decide +kernel
theorem dX3_divide_27 : decode cX3_divide 27 = .ok (.invokevirtual 69, 3) := by decide +kernel
theorem dX3_divide_30 : decode cX3_divide 30 = .ok (.iadd, 1) := by decide +kernel
theorem dX3_divide_31 : decode cX3_divide 31 = .ok (.istore_n 2, 1) := by decide +kernel
theorem dX3_divide_32 : decode cX3_divide 32 = .ok (.iinc 3 1, 3) := by decide +kernel
theorem dX3_divide_35 : decode cX3_divide 35 = .ok (.goto (-27), 3) := by decide +kernel
theorem dX3_divide_38 : decode cX3_divide 38 = .ok (.return_, 1) := by decide +kernel
set_option maxRecDepth 20000 in
theorem ggX3_setPrices_X2_set : GoodIn wsX3_setPrices wsX2_set := goodIn_r _ [14, 15, 79] (by decide +kernel) (by decide +kernel)
set_option maxRecDepth 20000 in
theorem gX3_setPrices_X2_set : GoodIn wsX3_setPrices (wsV RX3 82 RX2 yX2_set wsX2_set) := goodIn_app (goodIn_of _ (by decide +kernel)) ggX3_setPrices_X2_set
set_option maxRecDepth 20000 in
theorem ggX3_setPrices_X3_priceOf : GoodIn wsX3_setPrices wsX3_priceOf := goodIn_r _ [20, 2, 4, 3, 21, 22, 23, 24, 25, 26, 27, 28, 29, 30, 31, 13, 32, 15, 33, 34, 35, 36, 37, 38, 39, 40, 41, 42, 43, 44, 45, 46, 47, 48, 49, 50, 51, 52, 53, 54, 55, 56, 57, 58, 63, 64, 65, 66, 67, 68, 69, 70, 71, 72, 73, 74, 75, 76, 77, 78, 79] (by decide +kernel) (by decide +kernel)
set_option maxRecDepth 20000 in
theorem gX3_setPrices_X3_priceOf : GoodIn wsX3_setPrices (wsV RX3 86 RX3 yX3_priceOf wsX3_priceOf) := goodIn_app (goodIn_of _ (by decide +kernel)) ggX3_setPrices_X3_priceOf
set_option maxRecDepth 20000 in
theorem ggX3_setPrices_X3_cellOf : GoodIn wsX3_setPrices wsX3_cellOf := goodIn_r _ [61] (by decide +kernel) (by decide +kernel)
set_option maxRecDepth 20000 in
theorem gX3_setPrices_X3_cellOf : GoodIn wsX3_setPrices (va_wsS RX3 90 yX3_cellOf wsX3_cellOf) := goodIn_app (goodIn_of _ (by decide +kernel)) ggX3_setPrices_X3_cellOf
set_option maxRecDepth 20000 in
theorem ggX3_setPrices_X2_get : GoodIn wsX3_setPrices wsX2_get := goodIn_r _ [32, 15, 79] (by decide +kernel) (by decide +kernel)
set_option maxRecDepth 20000 in
theorem gX3_setPrices_X2_get : GoodIn wsX3_setPrices (wsV RX3 69 RX2 yX2_get wsX2_get) := goodIn_app (goodIn_of _ (by decide +kernel)) ggX3_setPrices_X2_get
theorem dX3_setPrices_0 : decode cX3_setPrices 0 = .ok (.aload_n 0, 1) := by decide +kernel
theorem dX3_setPrices_1 : decode cX3_setPrices 1 = .ok (.getfield 48, 3) := by decide +kernel
theorem dX3_setPrices_4 : decode cX3_setPrices 4 = .ok (.aload_n 0, 1) := by decide +kernel
theorem dX3_setPrices_5 : decode cX3_setPrices 5 = .ok (.getfield 28, 3) := by decide +kernel
theorem dX3_setPrices_8 : decode cX3_setPrices 8 = .ok (.getfield 79, 3) := by decide +kernel
theorem dX3_setPrices_11 : decode cX3_setPrices 11 = .ok (.iconst 0, 1) := by decide +kernel
theorem dX3_setPrices_12 : decode cX3_setPrices 12 = .ok (.invokevirtual 82, 3) := by decide +kernel
theorem dX3_setPrices_15 : decode cX3_setPrices 15 = .ok (.aload_n 0, 1) := by decide +kernel
theorem dX3_setPrices_16 : decode cX3_setPrices 16 = .ok (.getfield 28, 3) := by decide +kernel
theorem dX3_setPrices_19 : decode cX3_setPrices 19 = .ok (.getfield 79, 3) := by decide +kernel
theorem dX3_setPrices_22 : decode cX3_setPrices 22 = .ok (.iconst 1, 1) := by decide +kernel
theorem dX3_setPrices_23 : decode cX3_setPrices 23 = .ok (.isub, 1) := by decide +kernel
theorem dX3_setPrices_24 : decode cX3_setPrices 24 = .ok (.istore_n 1, 1) := by decide +kernel
theorem dX3_setPrices_25 : decode cX3_setPrices 25 = .ok (.iload_n 1, 1) := by decide +kernel
theorem dX3_setPrices_26 : decode cX3_setPrices 26 = .ok (.ifCond .lt 80, 3) := by decide +kernel
theorem dX3_setPrices_29 : decode cX3_setPrices 29 = .ok (.ldc 18, 2) := by decide +kernel
theorem dX3_setPrices_31 : decode cX3_setPrices 31 = .ok (.istore_n 2, 1) := by decide +kernel
theorem dX3_setPrices_32 : decode cX3_setPrices 32 = .ok (.iload_n 1, 1) := by decide +kernel
theorem dX3_setPrices_33 : decode cX3_setPrices 33 = .ok (.iconst 1, 1) := by decide +kernel
theorem dX3_setPrices_34 : decode cX3_setPrices 34 = .ok (.iadd, 1) := by decide +kernel
theorem dX3_setPrices_35 : decode cX3_setPrices 35 = .ok (.istore_n 3, 1) := by decide +kernel
theorem dX3_setPrices_36 : decode cX3_setPrices 36 = .ok (.iload_n 3, 1) := by decide +kernel
theorem dX3_setPrices_37 : decode cX3_setPrices 37 = .ok (.aload_n 0, 1) := by decide +kernel
theorem dX3_setPrices_38 : decode cX3_setPrices 38 = .ok (.getfield 28, 3) := by decide +kernel
theorem dX3_setPrices_41 : decode cX3_setPrices 41 = .ok (.getfield 79, 3) := by decide +kernel
theorem dX3_setPrices_44 : decode cX3_setPrices 44 = .ok (.if_icmp .gt 47, 3) := by decide +kernel
theorem dX3_setPrices_47 : decode cX3_setPrices 47 = .ok (.aload_n 0, 1) := by decide +kernel
theorem dX3_setPrices_48 : decode cX3_setPrices 48 = .ok (.iload_n 1, 1) := by decide +kernel
theorem dX3_setPrices_49 : decode cX3_setPrices 49 = .ok (.iload_n 3, 1) := by decide +kernel
theorem dX3_setPrices_50 : decode cX3_setPrices 50 = .ok (.invokevirtual 86, 3) := by decide +kernel
theorem dX3_setPrices_53 : decode cX3_setPrices 53 = .ok (.istore 4, 2) := by decide +kernel
theorem dX3_setPrices_55 : decode cX3_setPrices 55 = .ok (.aload_n 0, 1) := by decide +kernel
theorem dX3_setPrices_56 : decode cX3_setPrices 56 = .ok (.getfield 44, 3) := by decide +kernel
theorem dX3_setPrices_59 : decode cX3_setPrices 59 = .ok (.iload_n 1, 1) := by decide +kernel
theorem dX3_setPrices_60 : decode cX3_setPrices 60 = .ok (.iload_n 3, 1) := by decide +kernel
theorem dX3_setPrices_61 : decode cX3_setPrices 61 = .ok (.invokestatic 90, 3) := by decide +kernel
theorem dX3_setPrices_64 : decode cX3_setPrices 64 = .ok (.iload 4, 2) := by decide +kernel
theorem dX3_setPrices_66 : decode cX3_setPrices 66 = .ok (.invokevirtual 82, 3) := by decide +kernel
theorem dX3_setPrices_69 : decode cX3_setPrices 69 = .ok (.iload_n 2, 1) := by decide +kernel
theorem dX3_setPrices_70 : decode cX3_setPrices 70 = .ok (.iload 4, 2) := by decide +kernel
theorem dX3_setPrices_72 : decode cX3_setPrices 72 = .ok (.aload_n 0, 1) := by decide +kernel
theorem dX3_setPrices_73 : decode cX3_setPrices 73 = .ok (.getfield 48, 3) := by decide +kernel
theorem dX3_setPrices_76 : decode cX3_setPrices 76 = .ok (.iload_n 3, 1) := by decide +kernel
theorem dX3_setPrices_77 : decode cX3_setPrices 77 = .ok (.invokevirtual 69, 3) := by decide +kernel
theorem dX3_setPrices_80 : decode cX3_setPrices 80 = .ok (.iadd, 1) := by decide +kernel
theorem dX3_setPrices_81 : decode cX3_setPrices 81 = .ok (.invokestatic 93, 3) := by decide +kernel
theorem dX3_setPrices_84 : decode cX3_setPrices 84 = .ok (.istore_n 2, 1) := by decide +kernel
theorem dX3_setPrices_85 : decode cX3_setPrices 85 = .ok (.iinc 3 1, 3) := by decide +kernel
theorem dX3_setPrices_88 : decode cX3_setPrices 88 = .ok (.goto (-52), 3) := by decide +kernel
theorem dX3_setPrices_91 : decode cX3_setPrices 91 = .ok (.aload_n 0, 1) := by decide +kernel
theorem dX3_setPrices_92 : decode cX3_setPrices 92 = .ok (.getfield 48, 3) := by decide +kernel
theorem dX3_setPrices_95 : decode cX3_setPrices 95 = .ok (.iload_n 1, 1) := by decide +kernel
theorem dX3_setPrices_96 : decode cX3_setPrices 96 = .ok (.iload_n 2, 1) := by decide +kernel
theorem dX3_setPrices_97 : decode cX3_setPrices 97 = .ok (.invokevirtual 82, 3) := by decide +kernel
theorem dX3_setPrices_100 : decode cX3_setPrices 100 = .ok (.iinc 1 (-1), 3) := by decide +kernel
theorem dX3_setPrices_103 : decode cX3_setPrices 103 = .ok (.goto (-78), 3) := by decide +kernel
theorem dX3_setPrices_106 : decode cX3_setPrices 106 = .ok (.return_, 1) := by decide +kernel
set_option maxRecDepth 20000 in
theorem ggX3_priceOf_X1_isLine : GoodIn wsX3_priceOf wsX1_isLine := goodIn_r _ [10, 11, 12, 13, 14, 15, 16, 17, 18, 19, 20, 9, 21, 22, 54, 55, 56, 57, 58, 59, 60] (by decide +kernel) (by decide +kernel)
set_option maxRecDepth 20000 in
theorem gX3_priceOf_X1_isLine : GoodIn wsX3_priceOf (wsV RX3 98 RX1 yX1_isLine wsX1_isLine) := goodIn_app (goodIn_of _ (by decide +kernel)) ggX3_priceOf_X1_isLine
set_option maxRecDepth 20000 in
theorem ggX3_priceOf_X1_extra : GoodIn wsX3_priceOf wsX1_extra := goodIn_r _ [26, 27, 28, 12, 13, 14, 15, 16, 17, 54, 55, 56, 57, 58, 59, 60] (by decide +kernel) (by decide +kernel)
set_option maxRecDepth 20000 in
theorem gX3_priceOf_X1_extra : GoodIn wsX3_priceOf (wsV RX3 102 RX1 yX1_extra wsX1_extra) := goodIn_app (goodIn_of _ (by decide +kernel)) ggX3_priceOf_X1_extra
set_option maxRecDepth 20000 in
theorem ggX3_priceOf_X1_hasFrozen : GoodIn wsX3_priceOf wsX1_hasFrozen := goodIn_r _ [32, 33, 34, 35, 9, 36, 37, 12, 13, 14, 15, 16, 17, 54, 55, 56, 57, 58, 59, 60] (by decide +kernel) (by decide +kernel)
set_option maxRecDepth 20000 in
theorem gX3_priceOf_X1_hasFrozen : GoodIn wsX3_priceOf (wsV RX3 105 RX1 yX1_hasFrozen wsX1_hasFrozen) := goodIn_app (goodIn_of _ (by decide +kernel)) ggX3_priceOf_X1_hasFrozen
set_option maxRecDepth 20000 in
theorem ggX3_priceOf_X1_isFrozen : GoodIn wsX3_priceOf wsX1_isFrozen := goodIn_r _ [36, 37, 12, 13, 14, 15, 16, 17, 54, 55, 56, 57, 58, 59, 60] (by decide +kernel) (by decide +kernel)
set_option maxRecDepth 20000 in
theorem gX3_priceOf_X1_isFrozen : GoodIn wsX3_priceOf (wsV RX3 108 RX1 yX1_isFrozen wsX1_isFrozen) := goodIn_app (goodIn_of _ (by decide +kernel)) ggX3_priceOf_X1_isFrozen
set_option maxRecDepth 20000 in
theorem ggX3_priceOf_X1_badness : GoodIn wsX3_priceOf wsX1_badness := goodIn_r _ [42, 22, 43, 24, 25, 9, 26, 27, 28, 12, 13, 14, 15, 16, 17, 54, 55, 56, 57, 58, 59, 60] (by decide +kernel) (by decide +kernel)
set_option maxRecDepth 20000 in
theorem gX3_priceOf_X1_badness : GoodIn wsX3_priceOf (wsV RX3 115 RX1 yX1_badness wsX1_badness) := goodIn_app (goodIn_of _ (by decide +kernel)) ggX3_priceOf_X1_badness
theorem dX3_priceOf_0 : decode cX3_priceOf 0 = .ok (.aload_n 0, 1) := by decide +kernel
theorem dX3_priceOf_1 : decode cX3_priceOf 1 = .ok (.getfield 28, 3) := by decide +kernel
theorem dX3_priceOf_4 : decode cX3_priceOf 4 = .ok (.iload_n 1, 1) := by decide +kernel
theorem dX3_priceOf_5 : decode cX3_priceOf 5 = .ok (.iload_n 2, 1) := by decide +kernel
theorem dX3_priceOf_6 : decode cX3_priceOf 6 = .ok (.invokevirtual 98, 3) := by decide +kernel
theorem dX3_priceOf_9 : decode cX3_priceOf 9 = .ok (.istore_n 3, 1) := by decide +kernel
theorem dX3_priceOf_10 : decode cX3_priceOf 10 = .ok (.aload_n 0, 1) := by decide +kernel
theorem dX3_priceOf_11 : decode cX3_priceOf 11 = .ok (.getfield 28, 3) := by decide +kernel
theorem dX3_priceOf_14 : decode cX3_priceOf 14 = .ok (.iload_n 1, 1) := by decide +kernel
theorem dX3_priceOf_15 : decode cX3_priceOf 15 = .ok (.iload_n 2, 1) := by decide +kernel
theorem dX3_priceOf_16 : decode cX3_priceOf 16 = .ok (.invokevirtual 102, 3) := by decide +kernel
theorem dX3_priceOf_19 : decode cX3_priceOf 19 = .ok (.istore 4, 2) := by decide +kernel
theorem dX3_priceOf_21 : decode cX3_priceOf 21 = .ok (.iload 4, 2) := by decide +kernel
theorem dX3_priceOf_23 : decode cX3_priceOf 23 = .ok (.ifCond .lt 17, 3) := by decide +kernel
theorem dX3_priceOf_26 : decode cX3_priceOf 26 = .ok (.aload_n 0, 1) := by decide +kernel
theorem dX3_priceOf_27 : decode cX3_priceOf 27 = .ok (.getfield 28, 3) := by decide +kernel
theorem dX3_priceOf_30 : decode cX3_priceOf 30 = .ok (.iload_n 1, 1) := by decide +kernel
theorem dX3_priceOf_31 : decode cX3_priceOf 31 = .ok (.iconst 1, 1) := by decide +kernel
theorem dX3_priceOf_32 : decode cX3_priceOf 32 = .ok (.iadd, 1) := by decide +kernel
theorem dX3_priceOf_33 : decode cX3_priceOf 33 = .ok (.iload_n 2, 1) := by decide +kernel
theorem dX3_priceOf_34 : decode cX3_priceOf 34 = .ok (.invokevirtual 105, 3) := by decide +kernel
theorem dX3_priceOf_37 : decode cX3_priceOf 37 = .ok (.ifCond .eq 6, 3) := by decide +kernel
theorem dX3_priceOf_40 : decode cX3_priceOf 40 = .ok (.ldc 18, 2) := by decide +kernel
theorem dX3_priceOf_42 : decode cX3_priceOf 42 = .ok (.ireturn, 1) := by decide +kernel
theorem dX3_priceOf_43 : decode cX3_priceOf 43 = .ok (.aload_n 0, 1) := by decide +kernel
theorem dX3_priceOf_44 : decode cX3_priceOf 44 = .ok (.getfield 28, 3) := by decide +kernel
theorem dX3_priceOf_47 : decode cX3_priceOf 47 = .ok (.iload_n 1, 1) := by decide +kernel
theorem dX3_priceOf_48 : decode cX3_priceOf 48 = .ok (.invokevirtual 108, 3) := by decide +kernel
theorem dX3_priceOf_51 : decode cX3_priceOf 51 = .ok (.ifCond .eq 10, 3) := by decide +kernel
theorem dX3_priceOf_54 : decode cX3_priceOf 54 = .ok (.iload_n 3, 1) := by decide +kernel
theorem dX3_priceOf_55 : decode cX3_priceOf 55 = .ok (.ifCond .ne 6, 3) := by decide +kernel
theorem dX3_priceOf_58 : decode cX3_priceOf 58 = .ok (.ldc 18, 2) := by decide +kernel
theorem dX3_priceOf_60 : decode cX3_priceOf 60 = .ok (.ireturn, 1) := by decide +kernel
theorem dX3_priceOf_61 : decode cX3_priceOf 61 = .ok (.aload_n 0, 1) := by decide +kernel
theorem dX3_priceOf_62 : decode cX3_priceOf 62 = .ok (.getfield 28, 3) := by decide +kernel
theorem dX3_priceOf_65 : decode cX3_priceOf 65 = .ok (.iload_n 1, 1) := by decide +kernel
theorem dX3_priceOf_66 : decode cX3_priceOf 66 = .ok (.invokevirtual 108, 3) := by decide +kernel
theorem dX3_priceOf_69 : decode cX3_priceOf 69 = .ok (.ifCond .ne 29, 3) := by decide +kernel
theorem dX3_priceOf_72 : decode cX3_priceOf 72 = .ok (.iload_n 2, 1) := by decide +kernel
theorem dX3_priceOf_73 : decode cX3_priceOf 73 = .ok (.aload_n 0, 1) := by decide +kernel
theorem dX3_priceOf_74 : decode cX3_priceOf 74 = .ok (.getfield 28, 3) := by decide +kernel
theorem dX3_priceOf_77 : decode cX3_priceOf 77 = .ok (.getfield 79, 3) := by decide +kernel
theorem dX3_priceOf_80 : decode cX3_priceOf 80 = .ok (.if_icmp .ge 18, 3) := by decide +kernel
theorem dX3_priceOf_83 : decode cX3_priceOf 83 = .ok (.iload 4, 2) := by decide +kernel
theorem dX3_priceOf_85 : decode cX3_priceOf 85 = .ok (.aload_n 0, 1) := by decide +kernel
theorem dX3_priceOf_86 : decode cX3_priceOf 86 = .ok (.getfield 28, 3) := by decide +kernel
theorem dX3_priceOf_89 : decode cX3_priceOf 89 = .ok (.getfield 112, 3) := by decide +kernel
theorem dX3_priceOf_92 : decode cX3_priceOf 92 = .ok (.if_icmp .le 6, 3) := by decide +kernel
theorem dX3_priceOf_95 : decode cX3_priceOf 95 = .ok (.ldc 18, 2) := by decide +kernel
theorem dX3_priceOf_97 : decode cX3_priceOf 97 = .ok (.ireturn, 1) := by decide +kernel
theorem dX3_priceOf_98 : decode cX3_priceOf 98 = .ok (.aload_n 0, 1) := by decide +kernel
theorem dX3_priceOf_99 : decode cX3_priceOf 99 = .ok (.getfield 28, 3) := by decide +kernel
theorem dX3_priceOf_102 : decode cX3_priceOf 102 = .ok (.iload_n 1, 1) := by decide +kernel
theorem dX3_priceOf_103 : decode cX3_priceOf 103 = .ok (.iload_n 2, 1) := by decide +kernel
theorem dX3_priceOf_104 : decode cX3_priceOf 104 = .ok (.invokevirtual 115, 3) := by decide +kernel
theorem dX3_priceOf_107 : decode cX3_priceOf 107 = .ok (.iload_n 3, 1) := by decide +kernel
theorem dX3_priceOf_108 : decode cX3_priceOf 108 = .ok (.ifCond .eq 7, 3) := by decide +kernel
theorem dX3_priceOf_111 : decode cX3_priceOf 111 = .ok (.iconst 0, 1) := by decide +kernel
theorem dX3_priceOf_112 : decode cX3_priceOf 112 = .ok (.goto 5, 3) := by decide +kernel
theorem dX3_priceOf_115 : decode cX3_priceOf 115 = .ok (.ldc 68, 2) := by decide +kernel
theorem dX3_priceOf_117 : decode cX3_priceOf 117 = .ok (.iadd, 1) := by decide +kernel
theorem dX3_priceOf_118 : decode cX3_priceOf 118 = .ok (.ireturn, 1) := by decide +kernel
theorem dX3_cellOf_0 : decode cX3_cellOf 0 = .ok (.iload_n 0, 1) := by decide +kernel
theorem dX3_cellOf_1 : decode cX3_cellOf 1 = .ok (.bipush 24, 2) := by decide +kernel
theorem dX3_cellOf_3 : decode cX3_cellOf 3 = .ok (.imul, 1) := by decide +kernel
theorem dX3_cellOf_4 : decode cX3_cellOf 4 = .ok (.iload_n 1, 1) := by decide +kernel
theorem dX3_cellOf_5 : decode cX3_cellOf 5 = .ok (.iadd, 1) := by decide +kernel
theorem dX3_cellOf_6 : decode cX3_cellOf 6 = .ok (.iload_n 0, 1) := by decide +kernel
theorem dX3_cellOf_7 : decode cX3_cellOf 7 = .ok (.isub, 1) := by decide +kernel
theorem dX3_cellOf_8 : decode cX3_cellOf 8 = .ok (.iconst 1, 1) := by decide +kernel
theorem dX3_cellOf_9 : decode cX3_cellOf 9 = .ok (.isub, 1) := by decide +kernel
theorem dX3_cellOf_10 : decode cX3_cellOf 10 = .ok (.ireturn, 1) := by decide +kernel
set_option maxRecDepth 20000 in
theorem ggX3_keepTried_X2_copyFrom : GoodIn wsX3_keepTried wsX2_copyFrom := goodIn_r _ [10, 11, 12, 13, 14, 9, 15, 26] (by decide +kernel) (by decide +kernel)
set_option maxRecDepth 20000 in
theorem gX3_keepTried_X2_copyFrom : GoodIn wsX3_keepTried (wsV RX3 118 RX2 yX2_copyFrom wsX2_copyFrom) := goodIn_app (goodIn_of _ (by decide +kernel)) ggX3_keepTried_X2_copyFrom
theorem dX3_keepTried_0 : decode cX3_keepTried 0 = .ok (.aload_n 0, 1) := by decide +kernel
theorem dX3_keepTried_1 : decode cX3_keepTried 1 = .ok (.iload_n 2, 1) := by decide +kernel
theorem dX3_keepTried_2 : decode cX3_keepTried 2 = .ok (.putfield 19, 3) := by decide +kernel
theorem dX3_keepTried_5 : decode cX3_keepTried 5 = .ok (.aload_n 0, 1) := by decide +kernel
theorem dX3_keepTried_6 : decode cX3_keepTried 6 = .ok (.iload_n 1, 1) := by decide +kernel
theorem dX3_keepTried_7 : decode cX3_keepTried 7 = .ok (.putfield 9, 3) := by decide +kernel
theorem dX3_keepTried_10 : decode cX3_keepTried 10 = .ok (.aload_n 0, 1) := by decide +kernel
theorem dX3_keepTried_11 : decode cX3_keepTried 11 = .ok (.iload_n 3, 1) := by decide +kernel
theorem dX3_keepTried_12 : decode cX3_keepTried 12 = .ok (.putfield 15, 3) := by decide +kernel
theorem dX3_keepTried_15 : decode cX3_keepTried 15 = .ok (.aload_n 0, 1) := by decide +kernel
theorem dX3_keepTried_16 : decode cX3_keepTried 16 = .ok (.getfield 54, 3) := by decide +kernel
theorem dX3_keepTried_19 : decode cX3_keepTried 19 = .ok (.aload_n 0, 1) := by decide +kernel
theorem dX3_keepTried_20 : decode cX3_keepTried 20 = .ok (.getfield 51, 3) := by decide +kernel
theorem dX3_keepTried_23 : decode cX3_keepTried 23 = .ok (.invokevirtual 118, 3) := by decide +kernel
theorem dX3_keepTried_26 : decode cX3_keepTried 26 = .ok (.return_, 1) := by decide +kernel
set_option maxRecDepth 20000 in
theorem ggX3_tryLines_X3_keepTried : GoodIn wsX3_tryLines wsX3_keepTried := goodIn_r _ [17, 4, 18, 19, 20, 8, 21, 22, 23, 24, 25, 26, 27, 28, 29, 30, 81, 82, 83, 84, 85, 86, 87, 88, 89, 90, 97] (by decide +kernel) (by decide +kernel)
set_option maxRecDepth 20000 in
theorem gX3_tryLines_X3_keepTried : GoodIn wsX3_tryLines (wsV RX3 121 RX3 yX3_keepTried wsX3_keepTried) := goodIn_app (goodIn_of _ (by decide +kernel)) ggX3_tryLines_X3_keepTried
set_option maxRecDepth 20000 in
theorem ggX3_tryLines_X3_cellOf : GoodIn wsX3_tryLines wsX3_cellOf := goodIn_r _ [33] (by decide +kernel) (by decide +kernel)
set_option maxRecDepth 20000 in
theorem gX3_tryLines_X3_cellOf : GoodIn wsX3_tryLines (va_wsS RX3 90 yX3_cellOf wsX3_cellOf) := goodIn_app (goodIn_of _ (by decide +kernel)) ggX3_tryLines_X3_cellOf
set_option maxRecDepth 20000 in
theorem ggX3_tryLines_X2_get : GoodIn wsX3_tryLines wsX2_get := goodIn_r _ [30, 26, 97] (by decide +kernel) (by decide +kernel)
set_option maxRecDepth 20000 in
theorem gX3_tryLines_X2_get : GoodIn wsX3_tryLines (wsV RX3 69 RX2 yX2_get wsX2_get) := goodIn_app (goodIn_of _ (by decide +kernel)) ggX3_tryLines_X2_get
set_option maxRecDepth 20000 in
theorem ggX3_tryLines_X4_layLine : GoodIn wsX3_tryLines wsX4_layLine := goodIn_r _ [39, 40, 41, 10, 11, 12, 42, 43, 44, 38, 45, 46, 47, 48, 49, 50, 51, 52, 53, 54, 55, 56, 57, 28, 29, 24, 30, 26, 58, 59, 60, 61, 62, 63, 64, 65, 66, 67, 68, 69, 70, 71, 72, 73, 74, 75, 76, 77, 98, 99, 100, 101, 91, 92, 93, 94, 95, 96, 97] (by decide +kernel) (by decide +kernel)
set_option maxRecDepth 20000 in
theorem gX3_tryLines_X4_layLine : GoodIn wsX3_tryLines (wsV RX3 125 RX4 yX4_layLine wsX4_layLine) := goodIn_app (goodIn_of _ (by decide +kernel)) ggX3_tryLines_X4_layLine
set_option maxRecDepth 20000 in
theorem ggX3_tryLines_X2_set : GoodIn wsX3_tryLines wsX2_set := goodIn_r _ [61, 26, 97] (by decide +kernel) (by decide +kernel)
set_option maxRecDepth 20000 in
theorem gX3_tryLines_X2_set : GoodIn wsX3_tryLines (wsV RX3 82 RX2 yX2_set wsX2_set) := goodIn_app (goodIn_of _ (by decide +kernel)) ggX3_tryLines_X2_set
set_option maxRecDepth 20000 in
theorem ggX3_tryLines_X3_tryLines : GoodIn wsX3_tryLines wsX3_tryLines := goodIn_r _ [0, 1, 2, 3, 4, 5, 6, 7, 8, 9, 10, 11, 12, 13, 14, 15, 16, 17, 18, 19, 20, 21, 22, 23, 24, 25, 26, 27, 28, 29, 30, 31, 32, 33, 34, 35, 36, 37, 38, 39, 40, 41, 42, 43, 44, 45, 46, 47, 48, 49, 50, 51, 52, 53, 54, 55, 56, 57, 58, 59, 60, 61, 62, 63, 64, 65, 66, 67, 68, 69, 70, 71, 72, 73, 74, 75, 76, 77, 78, 79, 80, 81, 82, 83, 84, 85, 86, 87, 88, 89, 90, 91, 92, 93, 94, 95, 96, 97, 98, 99, 100, 101] (by decide +kernel) (by decide +kernel)
set_option maxRecDepth 20000 in
theorem gX3_tryLines_X3_tryLines : GoodIn wsX3_tryLines (va_wsS RX3 64 yX3_tryLines wsX3_tryLines) := goodIn_app (goodIn_of _ (by decide +kernel)) ggX3_tryLines_X3_tryLines
theorem dX3_tryLines_0 : decode cX3_tryLines 0 = .ok (.iload_n 3, 1) := by decide +kernel
theorem dX3_tryLines_1 : decode cX3_tryLines 1 = .ok (.aload_n 0, 1) := by decide +kernel
theorem dX3_tryLines_2 : decode cX3_tryLines 2 = .ok (.getfield 28, 3) := by decide +kernel
theorem dX3_tryLines_5 : decode cX3_tryLines 5 = .ok (.getfield 79, 3) := by decide +kernel
theorem dX3_tryLines_8 : decode cX3_tryLines 8 = .ok (.if_icmp .lt 13, 3) := by decide +kernel
theorem dX3_tryLines_11 : decode cX3_tryLines 11 = .ok (.aload_n 0, 1) := by decide +kernel
theorem dX3_tryLines_12 : decode cX3_tryLines 12 = .ok (.iload_n 1, 1) := by decide +kernel
theorem dX3_tryLines_13 : decode cX3_tryLines 13 = .ok (.iload 4, 2) := by decide +kernel
theorem dX3_tryLines_15 : decode cX3_tryLines 15 = .ok (.iload 5, 2) := by decide +kernel
theorem dX3_tryLines_17 : decode cX3_tryLines 17 = .ok (.invokevirtual 121, 3) := by decide +kernel
theorem dX3_tryLines_20 : decode cX3_tryLines 20 = .ok (.return_, 1) := by decide +kernel
theorem dX3_tryLines_21 : decode cX3_tryLines 21 = .ok (.iload_n 1, 1) := by decide +kernel
theorem dX3_tryLines_22 : decode cX3_tryLines 22 = .ok (.bipush 24, 2) := by decide +kernel
theorem dX3_tryLines_24 : decode cX3_tryLines 24 = .ok (.if_icmp .lt 4, 3) := by decide +kernel
theorem dX3_tryLines_27 : decode cX3_tryLines 27 = .ok (.return_, 1) := by decide +kernel
theorem dX3_tryLines_28 : decode cX3_tryLines 28 = .ok (.aload_n 0, 1) := by decide +kernel
theorem dX3_tryLines_29 : decode cX3_tryLines 29 = .ok (.getfield 28, 3) := by decide +kernel
theorem dX3_tryLines_32 : decode cX3_tryLines 32 = .ok (.getfield 79, 3) := by decide +kernel
theorem dX3_tryLines_35 : decode cX3_tryLines 35 = .ok (.istore 6, 2) := by decide +kernel
theorem dX3_tryLines_37 : decode cX3_tryLines 37 = .ok (.iload 6, 2) := by decide +kernel
theorem dX3_tryLines_39 : decode cX3_tryLines 39 = .ok (.iload_n 3, 1) := by decide +kernel
theorem dX3_tryLines_40 : decode cX3_tryLines 40 = .ok (.if_icmp .le 115, 3) := by decide +kernel
theorem dX3_tryLines_43 : decode cX3_tryLines 43 = .ok (.iload 4, 2) := by decide +kernel
theorem dX3_tryLines_45 : decode cX3_tryLines 45 = .ok (.aload_n 0, 1) := by decide +kernel
theorem dX3_tryLines_46 : decode cX3_tryLines 46 = .ok (.getfield 44, 3) := by decide +kernel
theorem dX3_tryLines_49 : decode cX3_tryLines 49 = .ok (.iload_n 3, 1) := by decide +kernel
theorem dX3_tryLines_50 : decode cX3_tryLines 50 = .ok (.iload 6, 2) := by decide +kernel
theorem dX3_tryLines_52 : decode cX3_tryLines 52 = .ok (.invokestatic 90, 3) := by decide +kernel
theorem dX3_tryLines_55 : decode cX3_tryLines 55 = .ok (.invokevirtual 69, 3) := by decide +kernel
theorem dX3_tryLines_58 : decode cX3_tryLines 58 = .ok (.iadd, 1) := by decide +kernel
theorem dX3_tryLines_59 : decode cX3_tryLines 59 = .ok (.istore 7, 2) := by decide +kernel
theorem dX3_tryLines_61 : decode cX3_tryLines 61 = .ok (.iload 7, 2) := by decide +kernel
theorem dX3_tryLines_63 : decode cX3_tryLines 63 = .ok (.aload_n 0, 1) := by decide +kernel
theorem dX3_tryLines_64 : decode cX3_tryLines 64 = .ok (.getfield 19, 3) := by decide +kernel
theorem dX3_tryLines_67 : decode cX3_tryLines 67 = .ok (.if_icmp .ge 82, 3) := by decide +kernel
theorem dX3_tryLines_70 : decode cX3_tryLines 70 = .ok (.iload 7, 2) := by decide +kernel
theorem dX3_tryLines_72 : decode cX3_tryLines 72 = .ok (.aload_n 0, 1) := by decide +kernel
theorem dX3_tryLines_73 : decode cX3_tryLines 73 = .ok (.getfield 48, 3) := by decide +kernel
theorem dX3_tryLines_76 : decode cX3_tryLines 76 = .ok (.iload 6, 2) := by decide +kernel
theorem dX3_tryLines_78 : decode cX3_tryLines 78 = .ok (.invokevirtual 69, 3) := by decide +kernel
theorem dX3_tryLines_81 : decode cX3_tryLines 81 = .ok (.iadd, 1) := by decide +kernel
theorem dX3_tryLines_82 : decode cX3_tryLines 82 = .ok (.aload_n 0, 1) := by decide +kernel
theorem dX3_tryLines_83 : decode cX3_tryLines 83 = .ok (.getfield 19, 3) := by decide +kernel
theorem dX3_tryLines_86 : decode cX3_tryLines 86 = .ok (.if_icmp .lt 6, 3) := by decide +kernel
theorem dX3_tryLines_89 : decode cX3_tryLines 89 = .ok (.goto 60, 3) := by decide +kernel
theorem dX3_tryLines_92 : decode cX3_tryLines 92 = .ok (.aload_n 0, 1) := by decide +kernel
theorem dX3_tryLines_93 : decode cX3_tryLines 93 = .ok (.getfield 35, 3) := by decide +kernel
theorem dX3_tryLines_96 : decode cX3_tryLines 96 = .ok (.aload_n 0, 1) := by decide +kernel
theorem dX3_tryLines_97 : decode cX3_tryLines 97 = .ok (.getfield 28, 3) := by decide +kernel
theorem dX3_tryLines_100 : decode cX3_tryLines 100 = .ok (.iload_n 2, 1) := by decide +kernel
theorem dX3_tryLines_101 : decode cX3_tryLines 101 = .ok (.iload_n 3, 1) := by decide +kernel
theorem dX3_tryLines_102 : decode cX3_tryLines 102 = .ok (.iload 6, 2) := by decide +kernel
theorem dX3_tryLines_104 : decode cX3_tryLines 104 = .ok (.invokevirtual 125, 3) := by decide +kernel
theorem dX3_tryLines_107 : decode cX3_tryLines 107 = .ok (.istore 8, 2) := by decide +kernel
theorem dX3_tryLines_109 : decode cX3_tryLines 109 = .ok (.iload 8, 2) := by decide +kernel
theorem dX3_tryLines_111 : decode cX3_tryLines 111 = .ok (.aload_n 0, 1) := by decide +kernel
theorem dX3_tryLines_112 : decode cX3_tryLines 112 = .ok (.getfield 22, 3) := by decide +kernel
theorem dX3_tryLines_115 : decode cX3_tryLines 115 = .ok (.if_icmp .gt 34, 3) := by decide +kernel
theorem dX3_tryLines_118 : decode cX3_tryLines 118 = .ok (.aload_n 0, 1) := by decide +kernel
theorem dX3_tryLines_119 : decode cX3_tryLines 119 = .ok (.getfield 51, 3) := by decide +kernel
theorem dX3_tryLines_122 : decode cX3_tryLines 122 = .ok (.iload_n 1, 1) := by decide +kernel
theorem dX3_tryLines_123 : decode cX3_tryLines 123 = .ok (.iload 6, 2) := by decide +kernel
theorem dX3_tryLines_125 : decode cX3_tryLines 125 = .ok (.iload_n 3, 1) := by decide +kernel
theorem dX3_tryLines_126 : decode cX3_tryLines 126 = .ok (.isub, 1) := by decide +kernel
theorem dX3_tryLines_127 : decode cX3_tryLines 127 = .ok (.invokevirtual 82, 3) := by decide +kernel
theorem dX3_tryLines_130 : decode cX3_tryLines 130 = .ok (.aload_n 0, 1) := by decide +kernel
theorem dX3_tryLines_131 : decode cX3_tryLines 131 = .ok (.iload_n 1, 1) := by decide +kernel
theorem dX3_tryLines_132 : decode cX3_tryLines 132 = .ok (.iconst 1, 1) := by decide +kernel
theorem dX3_tryLines_133 : decode cX3_tryLines 133 = .ok (.iadd, 1) := by decide +kernel
theorem dX3_tryLines_134 : decode cX3_tryLines 134 = .ok (.iload_n 3, 1) := by decide +kernel
theorem dX3_tryLines_135 : decode cX3_tryLines 135 = .ok (.iload 6, 2) := by decide +kernel
theorem dX3_tryLines_137 : decode cX3_tryLines 137 = .ok (.iload 7, 2) := by decide +kernel
theorem dX3_tryLines_139 : decode cX3_tryLines 139 = .ok (.iload 5, 2) := by decide +kernel
theorem dX3_tryLines_141 : decode cX3_tryLines 141 = .ok (.iload 8, 2) := by decide +kernel
theorem dX3_tryLines_143 : decode cX3_tryLines 143 = .ok (.invokestatic 129, 3) := by decide +kernel
theorem dX3_tryLines_146 : decode cX3_tryLines 146 = .ok (.invokestatic 64, 3) := by decide +kernel
theorem dX3_tryLines_149 : decode cX3_tryLines 149 = .ok (.iinc 6 (-1), 3) := by decide +kernel
theorem dX3_tryLines_152 : decode cX3_tryLines 152 = .ok (.goto (-115), 3) := by decide +kernel
theorem dX3_tryLines_155 : decode cX3_tryLines 155 = .ok (.return_, 1) := by decide +kernel
set_option maxRecDepth 20000 in
theorem ggX4_init_X2_init : GoodIn wsX4_init wsX2_init := goodIn_r _ [13, 14, 2, 3, 15, 16, 17, 18, 19, 20, 21] (by decide +kernel) (by decide +kernel)
set_option maxRecDepth 20000 in
theorem gX4_init_X2_init : GoodIn wsX4_init (wsX2_init) := ggX4_init_X2_init
theorem dX4_init_0 : decode cX4_init 0 = .ok (.aload_n 0, 1) := by decide +kernel
theorem dX4_init_1 : decode cX4_init 1 = .ok (.invokespecial 3, 3) := by decide +kernel
theorem dX4_init_4 : decode cX4_init 4 = .ok (.aload_n 0, 1) := by decide +kernel
theorem dX4_init_5 : decode cX4_init 5 = .ok (.new 9, 3) := by decide +kernel
theorem dX4_init_8 : decode cX4_init 8 = .ok (.dup, 1) := by decide +kernel
theorem dX4_init_9 : decode cX4_init 9 = .ok (.bipush 24, 2) := by decide +kernel
theorem dX4_init_11 : decode cX4_init 11 = .ok (.invokespecial 11, 3) := by decide +kernel
theorem dX4_init_14 : decode cX4_init 14 = .ok (.putfield 14, 3) := by decide +kernel
theorem dX4_init_17 : decode cX4_init 17 = .ok (.aload_n 0, 1) := by decide +kernel
theorem dX4_init_18 : decode cX4_init 18 = .ok (.new 9, 3) := by decide +kernel
theorem dX4_init_21 : decode cX4_init 21 = .ok (.dup, 1) := by decide +kernel
theorem dX4_init_22 : decode cX4_init 22 = .ok (.bipush 24, 2) := by decide +kernel
theorem dX4_init_24 : decode cX4_init 24 = .ok (.invokespecial 11, 3) := by decide +kernel
theorem dX4_init_27 : decode cX4_init 27 = .ok (.putfield 20, 3) := by decide +kernel
theorem dX4_init_30 : decode cX4_init 30 = .ok (.aload_n 0, 1) := by decide +kernel
theorem dX4_init_31 : decode cX4_init 31 = .ok (.new 9, 3) := by decide +kernel
theorem dX4_init_34 : decode cX4_init 34 = .ok (.dup, 1) := by decide +kernel
theorem dX4_init_35 : decode cX4_init 35 = .ok (.bipush 24, 2) := by decide +kernel
theorem dX4_init_37 : decode cX4_init 37 = .ok (.invokespecial 11, 3) := by decide +kernel
theorem dX4_init_40 : decode cX4_init 40 = .ok (.putfield 23, 3) := by decide +kernel
theorem dX4_init_43 : decode cX4_init 43 = .ok (.aload_n 0, 1) := by decide +kernel
theorem dX4_init_44 : decode cX4_init 44 = .ok (.new 9, 3) := by decide +kernel
theorem dX4_init_47 : decode cX4_init 47 = .ok (.dup, 1) := by decide +kernel
theorem dX4_init_48 : decode cX4_init 48 = .ok (.bipush 24, 2) := by decide +kernel
theorem dX4_init_50 : decode cX4_init 50 = .ok (.invokespecial 11, 3) := by decide +kernel
theorem dX4_init_53 : decode cX4_init 53 = .ok (.putfield 26, 3) := by decide +kernel
theorem dX4_init_56 : decode cX4_init 56 = .ok (.return_, 1) := by decide +kernel
set_option maxRecDepth 20000 in
theorem ggX4_columnOf_X2_get : GoodIn wsX4_columnOf wsX2_get := goodIn_r _ [6, 7, 12] (by decide +kernel) (by decide +kernel)
set_option maxRecDepth 20000 in
theorem gX4_columnOf_X2_get : GoodIn wsX4_columnOf (wsV RX4 29 RX2 yX2_get wsX2_get) := goodIn_app (goodIn_of _ (by decide +kernel)) ggX4_columnOf_X2_get
theorem dX4_columnOf_0 : decode cX4_columnOf 0 = .ok (.aload_n 0, 1) := by decide +kernel
theorem dX4_columnOf_1 : decode cX4_columnOf 1 = .ok (.getfield 14, 3) := by decide +kernel
theorem dX4_columnOf_4 : decode cX4_columnOf 4 = .ok (.iload_n 1, 1) := by decide +kernel
theorem dX4_columnOf_5 : decode cX4_columnOf 5 = .ok (.invokevirtual 29, 3) := by decide +kernel
theorem dX4_columnOf_8 : decode cX4_columnOf 8 = .ok (.ireturn, 1) := by decide +kernel
set_option maxRecDepth 20000 in
theorem ggX4_gapColumn_X2_get : GoodIn wsX4_gapColumn wsX2_get := goodIn_r _ [6, 7, 12] (by decide +kernel) (by decide +kernel)
set_option maxRecDepth 20000 in
theorem gX4_gapColumn_X2_get : GoodIn wsX4_gapColumn (wsV RX4 29 RX2 yX2_get wsX2_get) := goodIn_app (goodIn_of _ (by decide +kernel)) ggX4_gapColumn_X2_get
theorem dX4_gapColumn_0 : decode cX4_gapColumn 0 = .ok (.aload_n 0, 1) := by decide +kernel
theorem dX4_gapColumn_1 : decode cX4_gapColumn 1 = .ok (.getfield 20, 3) := by decide +kernel
theorem dX4_gapColumn_4 : decode cX4_gapColumn 4 = .ok (.iload_n 1, 1) := by decide +kernel
theorem dX4_gapColumn_5 : decode cX4_gapColumn 5 = .ok (.invokevirtual 29, 3) := by decide +kernel
theorem dX4_gapColumn_8 : decode cX4_gapColumn 8 = .ok (.ireturn, 1) := by decide +kernel
set_option maxRecDepth 20000 in
theorem ggX4_gapWidth_X2_get : GoodIn wsX4_gapWidth wsX2_get := goodIn_r _ [6, 7, 12] (by decide +kernel) (by decide +kernel)
set_option maxRecDepth 20000 in
theorem gX4_gapWidth_X2_get : GoodIn wsX4_gapWidth (wsV RX4 29 RX2 yX2_get wsX2_get) := goodIn_app (goodIn_of _ (by decide +kernel)) ggX4_gapWidth_X2_get
theorem dX4_gapWidth_0 : decode cX4_gapWidth 0 = .ok (.aload_n 0, 1) := by decide +kernel
theorem dX4_gapWidth_1 : decode cX4_gapWidth 1 = .ok (.getfield 23, 3) := by decide +kernel
theorem dX4_gapWidth_4 : decode cX4_gapWidth 4 = .ok (.iload_n 1, 1) := by decide +kernel
theorem dX4_gapWidth_5 : decode cX4_gapWidth 5 = .ok (.invokevirtual 29, 3) := by decide +kernel
theorem dX4_gapWidth_8 : decode cX4_gapWidth 8 = .ok (.ireturn, 1) := by decide +kernel
set_option maxRecDepth 20000 in
theorem ggX4_reachOf_X2_get : GoodIn wsX4_reachOf wsX2_get := goodIn_r _ [6, 7, 12] (by decide +kernel) (by decide +kernel)
set_option maxRecDepth 20000 in
theorem gX4_reachOf_X2_get : GoodIn wsX4_reachOf (wsV RX4 29 RX2 yX2_get wsX2_get) := goodIn_app (goodIn_of _ (by decide +kernel)) ggX4_reachOf_X2_get
theorem dX4_reachOf_0 : decode cX4_reachOf 0 = .ok (.aload_n 0, 1) := by decide +kernel
theorem dX4_reachOf_1 : decode cX4_reachOf 1 = .ok (.getfield 26, 3) := by decide +kernel
theorem dX4_reachOf_4 : decode cX4_reachOf 4 = .ok (.iload_n 1, 1) := by decide +kernel
theorem dX4_reachOf_5 : decode cX4_reachOf 5 = .ok (.invokevirtual 29, 3) := by decide +kernel
theorem dX4_reachOf_8 : decode cX4_reachOf 8 = .ok (.ireturn, 1) := by decide +kernel
set_option maxRecDepth 20000 in
theorem ggX4_layAll_X1_endOf : GoodIn wsX4_layAll wsX1_endOf := goodIn_r _ [6, 7, 8, 9, 10, 11, 12, 13, 14, 58, 59, 60, 61, 62, 63, 64] (by decide +kernel) (by decide +kernel)
set_option maxRecDepth 20000 in
theorem gX4_layAll_X1_endOf : GoodIn wsX4_layAll (wsV RX4 39 RX1 yX1_endOf wsX1_endOf) := goodIn_app (goodIn_of _ (by decide +kernel)) ggX4_layAll_X1_endOf
set_option maxRecDepth 20000 in
theorem ggX4_layAll_X4_layLine : GoodIn wsX4_layAll wsX4_layLine := goodIn_r _ [19, 20, 21, 22, 23, 24, 25, 26, 27, 18, 28, 1, 29, 30, 31, 32, 33, 34, 5, 35, 36, 37, 9, 10, 11, 12, 13, 14, 38, 39, 40, 41, 42, 43, 44, 45, 46, 47, 48, 49, 50, 51, 52, 53, 54, 55, 56, 57, 65, 66, 67, 68, 58, 59, 60, 61, 62, 63, 64] (by decide +kernel) (by decide +kernel)
set_option maxRecDepth 20000 in
theorem gX4_layAll_X4_layLine : GoodIn wsX4_layAll (wsV RX4 42 RX4 yX4_layLine wsX4_layLine) := goodIn_app (goodIn_of _ (by decide +kernel)) ggX4_layAll_X4_layLine
theorem dX4_layAll_0 : decode cX4_layAll 0 = .ok (.iconst 0, 1) := by decide +kernel
theorem dX4_layAll_1 : decode cX4_layAll 1 = .ok (.istore_n 2, 1) := by decide +kernel
theorem dX4_layAll_2 : decode cX4_layAll 2 = .ok (.iconst 0, 1) := by decide +kernel
theorem dX4_layAll_3 : decode cX4_layAll 3 = .ok (.istore_n 3, 1) := by decide +kernel
theorem dX4_layAll_4 : decode cX4_layAll 4 = .ok (.iconst 0, 1) := by decide +kernel
theorem dX4_layAll_5 : decode cX4_layAll 5 = .ok (.istore 4, 2) := by decide +kernel
theorem dX4_layAll_7 : decode cX4_layAll 7 = .ok (.iload 4, 2) := by decide +kernel
theorem dX4_layAll_9 : decode cX4_layAll 9 = .ok (.bipush 24, 2) := by decide +kernel
theorem dX4_layAll_11 : decode cX4_layAll 11 = .ok (.if_icmp .ge 39, 3) := by decide +kernel
theorem dX4_layAll_14 : decode cX4_layAll 14 = .ok (.iload_n 3, 1) := by decide +kernel
theorem dX4_layAll_15 : decode cX4_layAll 15 = .ok (.aload_n 1, 1) := by decide +kernel
theorem dX4_layAll_16 : decode cX4_layAll 16 = .ok (.getfield 33, 3) := by decide +kernel
theorem dX4_layAll_19 : decode cX4_layAll 19 = .ok (.if_icmp .ge 31, 3) := by decide +kernel
theorem dX4_layAll_22 : decode cX4_layAll 22 = .ok (.aload_n 1, 1) := by decide +kernel
theorem dX4_layAll_23 : decode cX4_layAll 23 = .ok (.iload_n 3, 1) := by decide +kernel
theorem dX4_layAll_24 : decode cX4_layAll 24 = .ok (.invokevirtual 39, 3) := by decide +kernel
theorem dX4_layAll_27 : decode cX4_layAll 27 = .ok (.istore 5, 2) := by decide +kernel
theorem dX4_layAll_29 : decode cX4_layAll 29 = .ok (.aload_n 0, 1) := by decide +kernel
theorem dX4_layAll_30 : decode cX4_layAll 30 = .ok (.aload_n 1, 1) := by decide +kernel
theorem dX4_layAll_31 : decode cX4_layAll 31 = .ok (.iload_n 2, 1) := by decide +kernel
theorem dX4_layAll_32 : decode cX4_layAll 32 = .ok (.iload_n 3, 1) := by decide +kernel
theorem dX4_layAll_33 : decode cX4_layAll 33 = .ok (.iload 5, 2) := by decide +kernel
theorem dX4_layAll_35 : decode cX4_layAll 35 = .ok (.invokevirtual 42, 3) := by decide +kernel
theorem dX4_layAll_38 : decode cX4_layAll 38 = .ok (.pop, 1) := by decide +kernel
theorem dX4_layAll_39 : decode cX4_layAll 39 = .ok (.iload_n 3, 1) := by decide +kernel
theorem dX4_layAll_40 : decode cX4_layAll 40 = .ok (.istore_n 2, 1) := by decide +kernel
theorem dX4_layAll_41 : decode cX4_layAll 41 = .ok (.iload 5, 2) := by decide +kernel
theorem dX4_layAll_43 : decode cX4_layAll 43 = .ok (.istore_n 3, 1) := by decide +kernel
theorem dX4_layAll_44 : decode cX4_layAll 44 = .ok (.iinc 4 1, 3) := by decide +kernel
theorem dX4_layAll_47 : decode cX4_layAll 47 = .ok (.goto (-40), 3) := by decide +kernel
theorem dX4_layAll_50 : decode cX4_layAll 50 = .ok (.return_, 1) := by decide +kernel
set_option maxRecDepth 20000 in
theorem ggX4_layLine_X4_placeWords : GoodIn wsX4_layLine wsX4_placeWords := goodIn_r _ [10, 11, 12, 13, 14, 15, 16, 17, 18, 19, 20, 21, 22, 23, 24, 25, 26, 27, 28, 29, 30, 31, 32, 33, 34, 35, 52, 53, 54, 55, 56, 57, 48, 49, 50, 51, 58] (by decide +kernel) (by decide +kernel)
set_option maxRecDepth 20000 in
theorem gX4_layLine_X4_placeWords : GoodIn wsX4_layLine (wsV RX4 46 RX4 yX4_placeWords wsX4_placeWords) := goodIn_app (goodIn_of _ (by decide +kernel)) ggX4_layLine_X4_placeWords
set_option maxRecDepth 20000 in
theorem ggX4_layLine_X4_reachAbove : GoodIn wsX4_layLine wsX4_reachAbove := goodIn_r _ [39, 1, 2, 3, 4, 5, 40, 41, 42, 9, 43, 13, 14, 44, 45, 46, 47, 23, 24, 25, 26, 27, 48, 49, 50, 51, 58] (by decide +kernel) (by decide +kernel)
set_option maxRecDepth 20000 in
theorem gX4_layLine_X4_reachAbove : GoodIn wsX4_layLine (wsV RX4 50 RX4 yX4_reachAbove wsX4_reachAbove) := goodIn_app (goodIn_of _ (by decide +kernel)) ggX4_layLine_X4_reachAbove
set_option maxRecDepth 20000 in
theorem ggX4_layLine_X2_set : GoodIn wsX4_layLine wsX2_set := goodIn_r _ [31, 27, 58] (by decide +kernel) (by decide +kernel)
set_option maxRecDepth 20000 in
theorem gX4_layLine_X2_set : GoodIn wsX4_layLine (wsV RX4 54 RX2 yX2_set wsX2_set) := goodIn_app (goodIn_of _ (by decide +kernel)) ggX4_layLine_X2_set
theorem dX4_layLine_0 : decode cX4_layLine 0 = .ok (.aload_n 0, 1) := by decide +kernel
theorem dX4_layLine_1 : decode cX4_layLine 1 = .ok (.aload_n 1, 1) := by decide +kernel
theorem dX4_layLine_2 : decode cX4_layLine 2 = .ok (.iload_n 3, 1) := by decide +kernel
theorem dX4_layLine_3 : decode cX4_layLine 3 = .ok (.iload 4, 2) := by decide +kernel
theorem dX4_layLine_5 : decode cX4_layLine 5 = .ok (.invokevirtual 46, 3) := by decide +kernel
theorem dX4_layLine_8 : decode cX4_layLine 8 = .ok (.iconst 0, 1) := by decide +kernel
theorem dX4_layLine_9 : decode cX4_layLine 9 = .ok (.istore 5, 2) := by decide +kernel
theorem dX4_layLine_11 : decode cX4_layLine 11 = .ok (.iload_n 3, 1) := by decide +kernel
theorem dX4_layLine_12 : decode cX4_layLine 12 = .ok (.istore 6, 2) := by decide +kernel
theorem dX4_layLine_14 : decode cX4_layLine 14 = .ok (.iload 6, 2) := by decide +kernel
theorem dX4_layLine_16 : decode cX4_layLine 16 = .ok (.iload 4, 2) := by decide +kernel
theorem dX4_layLine_18 : decode cX4_layLine 18 = .ok (.if_icmp .ge 53, 3) := by decide +kernel
theorem dX4_layLine_21 : decode cX4_layLine 21 = .ok (.iconst 0, 1) := by decide +kernel
theorem dX4_layLine_22 : decode cX4_layLine 22 = .ok (.istore 7, 2) := by decide +kernel
theorem dX4_layLine_24 : decode cX4_layLine 24 = .ok (.iload 6, 2) := by decide +kernel
theorem dX4_layLine_26 : decode cX4_layLine 26 = .ok (.iload 4, 2) := by decide +kernel
theorem dX4_layLine_28 : decode cX4_layLine 28 = .ok (.iconst 1, 1) := by decide +kernel
theorem dX4_layLine_29 : decode cX4_layLine 29 = .ok (.isub, 1) := by decide +kernel
theorem dX4_layLine_30 : decode cX4_layLine 30 = .ok (.if_icmp .ge 15, 3) := by decide +kernel
theorem dX4_layLine_33 : decode cX4_layLine 33 = .ok (.iconst 1, 1) := by decide +kernel
theorem dX4_layLine_34 : decode cX4_layLine 34 = .ok (.aload_n 0, 1) := by decide +kernel
theorem dX4_layLine_35 : decode cX4_layLine 35 = .ok (.iload 6, 2) := by decide +kernel
theorem dX4_layLine_37 : decode cX4_layLine 37 = .ok (.iload_n 2, 1) := by decide +kernel
theorem dX4_layLine_38 : decode cX4_layLine 38 = .ok (.iload_n 3, 1) := by decide +kernel
theorem dX4_layLine_39 : decode cX4_layLine 39 = .ok (.invokevirtual 50, 3) := by decide +kernel
theorem dX4_layLine_42 : decode cX4_layLine 42 = .ok (.iadd, 1) := by decide +kernel
theorem dX4_layLine_43 : decode cX4_layLine 43 = .ok (.istore 7, 2) := by decide +kernel
theorem dX4_layLine_45 : decode cX4_layLine 45 = .ok (.aload_n 0, 1) := by decide +kernel
theorem dX4_layLine_46 : decode cX4_layLine 46 = .ok (.getfield 26, 3) := by decide +kernel
theorem dX4_layLine_49 : decode cX4_layLine 49 = .ok (.iload 6, 2) := by decide +kernel
theorem dX4_layLine_51 : decode cX4_layLine 51 = .ok (.iload 7, 2) := by decide +kernel
theorem dX4_layLine_53 : decode cX4_layLine 53 = .ok (.invokevirtual 54, 3) := by decide +kernel
theorem dX4_layLine_56 : decode cX4_layLine 56 = .ok (.iload 5, 2) := by decide +kernel
theorem dX4_layLine_58 : decode cX4_layLine 58 = .ok (.iload 7, 2) := by decide +kernel
theorem dX4_layLine_60 : decode cX4_layLine 60 = .ok (.invokestatic 58, 3) := by decide +kernel
theorem dX4_layLine_63 : decode cX4_layLine 63 = .ok (.istore 5, 2) := by decide +kernel
theorem dX4_layLine_65 : decode cX4_layLine 65 = .ok (.iinc 6 1, 3) := by decide +kernel
theorem dX4_layLine_68 : decode cX4_layLine 68 = .ok (.goto (-54), 3) := by decide +kernel
theorem dX4_layLine_71 : decode cX4_layLine 71 = .ok (.iload 5, 2) := by decide +kernel
theorem dX4_layLine_73 : decode cX4_layLine 73 = .ok (.ireturn, 1) := by decide +kernel
set_option maxRecDepth 20000 in
theorem ggX4_placeWords_X1_extra : GoodIn wsX4_placeWords wsX1_extra := goodIn_r _ [9, 10, 11, 12, 13, 14, 15, 16, 17, 26, 27, 28, 29, 30, 31, 36] (by decide +kernel) (by decide +kernel)
set_option maxRecDepth 20000 in
theorem gX4_placeWords_X1_extra : GoodIn wsX4_placeWords (wsV RX4 64 RX1 yX1_extra wsX1_extra) := goodIn_app (goodIn_of _ (by decide +kernel)) ggX4_placeWords_X1_extra
set_option maxRecDepth 20000 in
theorem ggX4_placeWords_X2_set : GoodIn wsX4_placeWords wsX2_set := goodIn_r _ [21, 17, 36] (by decide +kernel) (by decide +kernel)
set_option maxRecDepth 20000 in
theorem gX4_placeWords_X2_set : GoodIn wsX4_placeWords (wsV RX4 54 RX2 yX2_set wsX2_set) := goodIn_app (goodIn_of _ (by decide +kernel)) ggX4_placeWords_X2_set
set_option maxRecDepth 20000 in
theorem ggX4_placeWords_X1_lengthOf : GoodIn wsX4_placeWords wsX1_lengthOf := goodIn_r _ [25, 11, 12, 13, 14, 15, 16, 17, 26, 27, 28, 29, 30, 31, 36] (by decide +kernel) (by decide +kernel)
set_option maxRecDepth 20000 in
theorem gX4_placeWords_X1_lengthOf : GoodIn wsX4_placeWords (wsV RX4 67 RX1 yX1_lengthOf wsX1_lengthOf) := goodIn_app (goodIn_of _ (by decide +kernel)) ggX4_placeWords_X1_lengthOf
theorem dX4_placeWords_0 : decode cX4_placeWords 0 = .ok (.iload_n 3, 1) := by decide +kernel
theorem dX4_placeWords_1 : decode cX4_placeWords 1 = .ok (.iload_n 2, 1) := by decide +kernel
theorem dX4_placeWords_2 : decode cX4_placeWords 2 = .ok (.isub, 1) := by decide +kernel
theorem dX4_placeWords_3 : decode cX4_placeWords 3 = .ok (.iconst 1, 1) := by decide +kernel
theorem dX4_placeWords_4 : decode cX4_placeWords 4 = .ok (.isub, 1) := by decide +kernel
theorem dX4_placeWords_5 : decode cX4_placeWords 5 = .ok (.istore 4, 2) := by decide +kernel
theorem dX4_placeWords_7 : decode cX4_placeWords 7 = .ok (.iload_n 3, 1) := by decide +kernel
theorem dX4_placeWords_8 : decode cX4_placeWords 8 = .ok (.aload_n 1, 1) := by decide +kernel
theorem dX4_placeWords_9 : decode cX4_placeWords 9 = .ok (.getfield 33, 3) := by decide +kernel
theorem dX4_placeWords_12 : decode cX4_placeWords 12 = .ok (.if_icmp .lt 7, 3) := by decide +kernel
theorem dX4_placeWords_15 : decode cX4_placeWords 15 = .ok (.iconst 0, 1) := by decide +kernel
theorem dX4_placeWords_16 : decode cX4_placeWords 16 = .ok (.goto 9, 3) := by decide +kernel
theorem dX4_placeWords_19 : decode cX4_placeWords 19 = .ok (.aload_n 1, 1) := by decide +kernel
theorem dX4_placeWords_20 : decode cX4_placeWords 20 = .ok (.iload_n 2, 1) := by decide +kernel
theorem dX4_placeWords_21 : decode cX4_placeWords 21 = .ok (.iload_n 3, 1) := by decide +kernel
theorem dX4_placeWords_22 : decode cX4_placeWords 22 = .ok (.invokevirtual 64, 3) := by decide +kernel
theorem dX4_placeWords_25 : decode cX4_placeWords 25 = .ok (.istore 5, 2) := by decide +kernel
theorem dX4_placeWords_27 : decode cX4_placeWords 27 = .ok (.iload 4, 2) := by decide +kernel
theorem dX4_placeWords_29 : decode cX4_placeWords 29 = .ok (.ifCond .le 11, 3) := by decide +kernel
theorem dX4_placeWords_32 : decode cX4_placeWords 32 = .ok (.iload 5, 2) := by decide +kernel
theorem dX4_placeWords_34 : decode cX4_placeWords 34 = .ok (.iload 4, 2) := by decide +kernel
theorem dX4_placeWords_36 : decode cX4_placeWords 36 = .ok (.idiv, 1) := by decide +kernel
theorem dX4_placeWords_37 : decode cX4_placeWords 37 = .ok (.goto 4, 3) := by decide +kernel
theorem dX4_placeWords_40 : decode cX4_placeWords 40 = .ok (.iconst 0, 1) := by decide +kernel
theorem dX4_placeWords_41 : decode cX4_placeWords 41 = .ok (.istore 6, 2) := by decide +kernel
theorem dX4_placeWords_43 : decode cX4_placeWords 43 = .ok (.iload 4, 2) := by decide +kernel
theorem dX4_placeWords_45 : decode cX4_placeWords 45 = .ok (.ifCond .le 11, 3) := by decide +kernel
theorem dX4_placeWords_48 : decode cX4_placeWords 48 = .ok (.iload 5, 2) := by decide +kernel
theorem dX4_placeWords_50 : decode cX4_placeWords 50 = .ok (.iload 4, 2) := by decide +kernel
theorem dX4_placeWords_52 : decode cX4_placeWords 52 = .ok (.irem, 1) := by decide +kernel
theorem dX4_placeWords_53 : decode cX4_placeWords 53 = .ok (.goto 4, 3) := by decide +kernel
theorem dX4_placeWords_56 : decode cX4_placeWords 56 = .ok (.iconst 0, 1) := by decide +kernel
theorem dX4_placeWords_57 : decode cX4_placeWords 57 = .ok (.istore 7, 2) := by decide +kernel
theorem dX4_placeWords_59 : decode cX4_placeWords 59 = .ok (.iconst 0, 1) := by decide +kernel
theorem dX4_placeWords_60 : decode cX4_placeWords 60 = .ok (.istore 8, 2) := by decide +kernel
theorem dX4_placeWords_62 : decode cX4_placeWords 62 = .ok (.iload_n 2, 1) := by decide +kernel
theorem dX4_placeWords_63 : decode cX4_placeWords 63 = .ok (.istore 9, 2) := by decide +kernel
theorem dX4_placeWords_65 : decode cX4_placeWords 65 = .ok (.iload 9, 2) := by decide +kernel
theorem dX4_placeWords_67 : decode cX4_placeWords 67 = .ok (.iload_n 3, 1) := by decide +kernel
theorem dX4_placeWords_68 : decode cX4_placeWords 68 = .ok (.if_icmp .ge 92, 3) := by decide +kernel
theorem dX4_placeWords_71 : decode cX4_placeWords 71 = .ok (.iconst 0, 1) := by decide +kernel
theorem dX4_placeWords_72 : decode cX4_placeWords 72 = .ok (.istore 10, 2) := by decide +kernel
theorem dX4_placeWords_74 : decode cX4_placeWords 74 = .ok (.iload 9, 2) := by decide +kernel
theorem dX4_placeWords_76 : decode cX4_placeWords 76 = .ok (.iload_n 3, 1) := by decide +kernel
theorem dX4_placeWords_77 : decode cX4_placeWords 77 = .ok (.iconst 1, 1) := by decide +kernel
theorem dX4_placeWords_78 : decode cX4_placeWords 78 = .ok (.isub, 1) := by decide +kernel
theorem dX4_placeWords_79 : decode cX4_placeWords 79 = .ok (.if_icmp .ge 24, 3) := by decide +kernel
theorem dX4_placeWords_82 : decode cX4_placeWords 82 = .ok (.iconst 1, 1) := by decide +kernel
theorem dX4_placeWords_83 : decode cX4_placeWords 83 = .ok (.iload 6, 2) := by decide +kernel
theorem dX4_placeWords_85 : decode cX4_placeWords 85 = .ok (.iadd, 1) := by decide +kernel
theorem dX4_placeWords_86 : decode cX4_placeWords 86 = .ok (.iload 9, 2) := by decide +kernel
theorem dX4_placeWords_88 : decode cX4_placeWords 88 = .ok (.iload_n 2, 1) := by decide +kernel
theorem dX4_placeWords_89 : decode cX4_placeWords 89 = .ok (.isub, 1) := by decide +kernel
theorem dX4_placeWords_90 : decode cX4_placeWords 90 = .ok (.iload 7, 2) := by decide +kernel
theorem dX4_placeWords_92 : decode cX4_placeWords 92 = .ok (.if_icmp .ge 7, 3) := by decide +kernel
theorem dX4_placeWords_95 : decode cX4_placeWords 95 = .ok (.iconst 1, 1) := by decide +kernel
theorem dX4_placeWords_96 : decode cX4_placeWords 96 = .ok (.goto 4, 3) := by decide +kernel
theorem dX4_placeWords_99 : decode cX4_placeWords 99 = .ok (.iconst 0, 1) := by decide +kernel
theorem dX4_placeWords_100 : decode cX4_placeWords 100 = .ok (.iadd, 1) := by decide +kernel
theorem dX4_placeWords_101 : decode cX4_placeWords 101 = .ok (.istore 10, 2) := by decide +kernel
theorem dX4_placeWords_103 : decode cX4_placeWords 103 = .ok (.aload_n 0, 1) := by decide +kernel
theorem dX4_placeWords_104 : decode cX4_placeWords 104 = .ok (.getfield 14, 3) := by decide +kernel
theorem dX4_placeWords_107 : decode cX4_placeWords 107 = .ok (.iload 9, 2) := by decide +kernel
theorem dX4_placeWords_109 : decode cX4_placeWords 109 = .ok (.iload 8, 2) := by decide +kernel
theorem dX4_placeWords_111 : decode cX4_placeWords 111 = .ok (.invokevirtual 54, 3) := by decide +kernel
theorem dX4_placeWords_114 : decode cX4_placeWords 114 = .ok (.iload 8, 2) := by decide +kernel
theorem dX4_placeWords_116 : decode cX4_placeWords 116 = .ok (.aload_n 1, 1) := by decide +kernel
theorem dX4_placeWords_117 : decode cX4_placeWords 117 = .ok (.iload 9, 2) := by decide +kernel
theorem dX4_placeWords_119 : decode cX4_placeWords 119 = .ok (.invokevirtual 67, 3) := by decide +kernel
theorem dX4_placeWords_122 : decode cX4_placeWords 122 = .ok (.iadd, 1) := by decide +kernel
theorem dX4_placeWords_123 : decode cX4_placeWords 123 = .ok (.istore 8, 2) := by decide +kernel
theorem dX4_placeWords_125 : decode cX4_placeWords 125 = .ok (.aload_n 0, 1) := by decide +kernel
theorem dX4_placeWords_126 : decode cX4_placeWords 126 = .ok (.getfield 20, 3) := by decide +kernel
theorem dX4_placeWords_129 : decode cX4_placeWords 129 = .ok (.iload 9, 2) := by decide +kernel
theorem dX4_placeWords_131 : decode cX4_placeWords 131 = .ok (.iload 8, 2) := by decide +kernel
theorem dX4_placeWords_133 : decode cX4_placeWords 133 = .ok (.invokevirtual 54, 3) := by decide +kernel
theorem dX4_placeWords_136 : decode cX4_placeWords 136 = .ok (.aload_n 0, 1) := by decide +kernel
theorem dX4_placeWords_137 : decode cX4_placeWords 137 = .ok (.getfield 23, 3) := by decide +kernel
theorem dX4_placeWords_140 : decode cX4_placeWords 140 = .ok (.iload 9, 2) := by decide +kernel
theorem dX4_placeWords_142 : decode cX4_placeWords 142 = .ok (.iload 10, 2) := by decide +kernel
theorem dX4_placeWords_144 : decode cX4_placeWords 144 = .ok (.invokevirtual 54, 3) := by decide +kernel
theorem dX4_placeWords_147 : decode cX4_placeWords 147 = .ok (.iload 8, 2) := by decide +kernel
theorem dX4_placeWords_149 : decode cX4_placeWords 149 = .ok (.iload 10, 2) := by decide +kernel
theorem dX4_placeWords_151 : decode cX4_placeWords 151 = .ok (.iadd, 1) := by decide +kernel
theorem dX4_placeWords_152 : decode cX4_placeWords 152 = .ok (.istore 8, 2) := by decide +kernel
theorem dX4_placeWords_154 : decode cX4_placeWords 154 = .ok (.iinc 9 1, 3) := by decide +kernel
theorem dX4_placeWords_157 : decode cX4_placeWords 157 = .ok (.goto (-92), 3) := by decide +kernel
theorem dX4_placeWords_160 : decode cX4_placeWords 160 = .ok (.return_, 1) := by decide +kernel
set_option maxRecDepth 20000 in
theorem ggX4_reachAbove_X4_meet : GoodIn wsX4_reachAbove wsX4_meet := goodIn_r _ [10, 11, 12, 2, 3, 4, 5, 13, 14, 15, 16, 17, 18, 19, 20, 21, 22, 23, 24, 25, 26] (by decide +kernel) (by decide +kernel)
set_option maxRecDepth 20000 in
theorem gX4_reachAbove_X4_meet : GoodIn wsX4_reachAbove (wsV RX4 70 RX4 yX4_meet wsX4_meet) := goodIn_app (goodIn_of _ (by decide +kernel)) ggX4_reachAbove_X4_meet
set_option maxRecDepth 20000 in
theorem ggX4_reachAbove_X2_get : GoodIn wsX4_reachAbove wsX2_get := goodIn_r _ [20, 21, 26] (by decide +kernel) (by decide +kernel)
set_option maxRecDepth 20000 in
theorem gX4_reachAbove_X2_get : GoodIn wsX4_reachAbove (wsV RX4 29 RX2 yX2_get wsX2_get) := goodIn_app (goodIn_of _ (by decide +kernel)) ggX4_reachAbove_X2_get
theorem dX4_reachAbove_0 : decode cX4_reachAbove 0 = .ok (.iconst 0, 1) := by decide +kernel
theorem dX4_reachAbove_1 : decode cX4_reachAbove 1 = .ok (.istore 4, 2) := by decide +kernel
theorem dX4_reachAbove_3 : decode cX4_reachAbove 3 = .ok (.iload_n 2, 1) := by decide +kernel
theorem dX4_reachAbove_4 : decode cX4_reachAbove 4 = .ok (.istore 5, 2) := by decide +kernel
theorem dX4_reachAbove_6 : decode cX4_reachAbove 6 = .ok (.iload 5, 2) := by decide +kernel
theorem dX4_reachAbove_8 : decode cX4_reachAbove 8 = .ok (.iload_n 3, 1) := by decide +kernel
theorem dX4_reachAbove_9 : decode cX4_reachAbove 9 = .ok (.if_icmp .ge 35, 3) := by decide +kernel
theorem dX4_reachAbove_12 : decode cX4_reachAbove 12 = .ok (.aload_n 0, 1) := by decide +kernel
theorem dX4_reachAbove_13 : decode cX4_reachAbove 13 = .ok (.iload 5, 2) := by decide +kernel
theorem dX4_reachAbove_15 : decode cX4_reachAbove 15 = .ok (.iload_n 1, 1) := by decide +kernel
theorem dX4_reachAbove_16 : decode cX4_reachAbove 16 = .ok (.invokevirtual 70, 3) := by decide +kernel
theorem dX4_reachAbove_19 : decode cX4_reachAbove 19 = .ok (.ifCond .eq 19, 3) := by decide +kernel
theorem dX4_reachAbove_22 : decode cX4_reachAbove 22 = .ok (.iload 4, 2) := by decide +kernel
theorem dX4_reachAbove_24 : decode cX4_reachAbove 24 = .ok (.aload_n 0, 1) := by decide +kernel
theorem dX4_reachAbove_25 : decode cX4_reachAbove 25 = .ok (.getfield 26, 3) := by decide +kernel
theorem dX4_reachAbove_28 : decode cX4_reachAbove 28 = .ok (.iload 5, 2) := by decide +kernel
theorem dX4_reachAbove_30 : decode cX4_reachAbove 30 = .ok (.invokevirtual 29, 3) := by decide +kernel
theorem dX4_reachAbove_33 : decode cX4_reachAbove 33 = .ok (.invokestatic 58, 3) := by decide +kernel
theorem dX4_reachAbove_36 : decode cX4_reachAbove 36 = .ok (.istore 4, 2) := by decide +kernel
theorem dX4_reachAbove_38 : decode cX4_reachAbove 38 = .ok (.iinc 5 1, 3) := by decide +kernel
theorem dX4_reachAbove_41 : decode cX4_reachAbove 41 = .ok (.goto (-35), 3) := by decide +kernel
theorem dX4_reachAbove_44 : decode cX4_reachAbove 44 = .ok (.iload 4, 2) := by decide +kernel
theorem dX4_reachAbove_46 : decode cX4_reachAbove 46 = .ok (.ireturn, 1) := by decide +kernel
set_option maxRecDepth 20000 in
theorem ggX4_meet_X2_get : GoodIn wsX4_meet wsX2_get := goodIn_r _ [14, 15, 20] (by decide +kernel) (by decide +kernel)
set_option maxRecDepth 20000 in
theorem gX4_meet_X2_get : GoodIn wsX4_meet (wsV RX4 29 RX2 yX2_get wsX2_get) := goodIn_app (goodIn_of _ (by decide +kernel)) ggX4_meet_X2_get
theorem dX4_meet_0 : decode cX4_meet 0 = .ok (.aload_n 0, 1) := by decide +kernel
theorem dX4_meet_1 : decode cX4_meet 1 = .ok (.getfield 20, 3) := by decide +kernel
theorem dX4_meet_4 : decode cX4_meet 4 = .ok (.iload_n 1, 1) := by decide +kernel
theorem dX4_meet_5 : decode cX4_meet 5 = .ok (.invokevirtual 29, 3) := by decide +kernel
theorem dX4_meet_8 : decode cX4_meet 8 = .ok (.istore_n 3, 1) := by decide +kernel
theorem dX4_meet_9 : decode cX4_meet 9 = .ok (.aload_n 0, 1) := by decide +kernel
theorem dX4_meet_10 : decode cX4_meet 10 = .ok (.getfield 20, 3) := by decide +kernel
theorem dX4_meet_13 : decode cX4_meet 13 = .ok (.iload_n 2, 1) := by decide +kernel
theorem dX4_meet_14 : decode cX4_meet 14 = .ok (.invokevirtual 29, 3) := by decide +kernel
theorem dX4_meet_17 : decode cX4_meet 17 = .ok (.istore 4, 2) := by decide +kernel
theorem dX4_meet_19 : decode cX4_meet 19 = .ok (.iload_n 3, 1) := by decide +kernel
theorem dX4_meet_20 : decode cX4_meet 20 = .ok (.aload_n 0, 1) := by decide +kernel
theorem dX4_meet_21 : decode cX4_meet 21 = .ok (.getfield 23, 3) := by decide +kernel
theorem dX4_meet_24 : decode cX4_meet 24 = .ok (.iload_n 1, 1) := by decide +kernel
theorem dX4_meet_25 : decode cX4_meet 25 = .ok (.invokevirtual 29, 3) := by decide +kernel
theorem dX4_meet_28 : decode cX4_meet 28 = .ok (.iadd, 1) := by decide +kernel
theorem dX4_meet_29 : decode cX4_meet 29 = .ok (.istore 5, 2) := by decide +kernel
theorem dX4_meet_31 : decode cX4_meet 31 = .ok (.iload 4, 2) := by decide +kernel
theorem dX4_meet_33 : decode cX4_meet 33 = .ok (.aload_n 0, 1) := by decide +kernel
theorem dX4_meet_34 : decode cX4_meet 34 = .ok (.getfield 23, 3) := by decide +kernel
theorem dX4_meet_37 : decode cX4_meet 37 = .ok (.iload_n 2, 1) := by decide +kernel
theorem dX4_meet_38 : decode cX4_meet 38 = .ok (.invokevirtual 29, 3) := by decide +kernel
theorem dX4_meet_41 : decode cX4_meet 41 = .ok (.iadd, 1) := by decide +kernel
theorem dX4_meet_42 : decode cX4_meet 42 = .ok (.istore 6, 2) := by decide +kernel
theorem dX4_meet_44 : decode cX4_meet 44 = .ok (.iload_n 3, 1) := by decide +kernel
theorem dX4_meet_45 : decode cX4_meet 45 = .ok (.iload 4, 2) := by decide +kernel
theorem dX4_meet_47 : decode cX4_meet 47 = .ok (.invokestatic 58, 3) := by decide +kernel
theorem dX4_meet_50 : decode cX4_meet 50 = .ok (.iload 5, 2) := by decide +kernel
theorem dX4_meet_52 : decode cX4_meet 52 = .ok (.iload 6, 2) := by decide +kernel
theorem dX4_meet_54 : decode cX4_meet 54 = .ok (.invokestatic 74, 3) := by decide +kernel
theorem dX4_meet_57 : decode cX4_meet 57 = .ok (.if_icmp .ge 7, 3) := by decide +kernel
theorem dX4_meet_60 : decode cX4_meet 60 = .ok (.iconst 1, 1) := by decide +kernel
theorem dX4_meet_61 : decode cX4_meet 61 = .ok (.goto 4, 3) := by decide +kernel
theorem dX4_meet_64 : decode cX4_meet 64 = .ok (.iconst 0, 1) := by decide +kernel
theorem dX4_meet_65 : decode cX4_meet 65 = .ok (.ireturn, 1) := by decide +kernel
set_option maxRecDepth 20000 in
theorem ggX4_gapsThatMeet_X4_meet : GoodIn wsX4_gapsThatMeet wsX4_meet := goodIn_r _ [5, 6, 7, 8, 9, 10, 11, 12, 13, 14, 15, 16, 17, 18, 19, 20, 21, 22, 23, 24, 25] (by decide +kernel) (by decide +kernel)
set_option maxRecDepth 20000 in
theorem gX4_gapsThatMeet_X4_meet : GoodIn wsX4_gapsThatMeet (wsV RX4 70 RX4 yX4_meet wsX4_meet) := goodIn_app (goodIn_of _ (by decide +kernel)) ggX4_gapsThatMeet_X4_meet
theorem dX4_gapsThatMeet_0 : decode cX4_gapsThatMeet 0 = .ok (.iconst 0, 1) := by decide +kernel
theorem dX4_gapsThatMeet_1 : decode cX4_gapsThatMeet 1 = .ok (.istore 4, 2) := by decide +kernel
theorem dX4_gapsThatMeet_3 : decode cX4_gapsThatMeet 3 = .ok (.iload_n 2, 1) := by decide +kernel
theorem dX4_gapsThatMeet_4 : decode cX4_gapsThatMeet 4 = .ok (.istore 5, 2) := by decide +kernel
theorem dX4_gapsThatMeet_6 : decode cX4_gapsThatMeet 6 = .ok (.iload 5, 2) := by decide +kernel
theorem dX4_gapsThatMeet_8 : decode cX4_gapsThatMeet 8 = .ok (.iload_n 3, 1) := by decide +kernel
theorem dX4_gapsThatMeet_9 : decode cX4_gapsThatMeet 9 = .ok (.if_icmp .ge 22, 3) := by decide +kernel
theorem dX4_gapsThatMeet_12 : decode cX4_gapsThatMeet 12 = .ok (.aload_n 0, 1) := by decide +kernel
theorem dX4_gapsThatMeet_13 : decode cX4_gapsThatMeet 13 = .ok (.iload 5, 2) := by decide +kernel
theorem dX4_gapsThatMeet_15 : decode cX4_gapsThatMeet 15 = .ok (.iload_n 1, 1) := by decide +kernel
theorem dX4_gapsThatMeet_16 : decode cX4_gapsThatMeet 16 = .ok (.invokevirtual 70, 3) := by decide +kernel
theorem dX4_gapsThatMeet_19 : decode cX4_gapsThatMeet 19 = .ok (.ifCond .eq 6, 3) := by decide +kernel
theorem dX4_gapsThatMeet_22 : decode cX4_gapsThatMeet 22 = .ok (.iinc 4 1, 3) := by decide +kernel
theorem dX4_gapsThatMeet_25 : decode cX4_gapsThatMeet 25 = .ok (.iinc 5 1, 3) := by decide +kernel
theorem dX4_gapsThatMeet_28 : decode cX4_gapsThatMeet 28 = .ok (.goto (-22), 3) := by decide +kernel
theorem dX4_gapsThatMeet_31 : decode cX4_gapsThatMeet 31 = .ok (.iload 4, 2) := by decide +kernel
theorem dX4_gapsThatMeet_33 : decode cX4_gapsThatMeet 33 = .ok (.ireturn, 1) := by decide +kernel
set_option maxRecDepth 20000 in
theorem ggX4_greatestReach_X2_get : GoodIn wsX4_greatestReach wsX2_get := goodIn_r _ [10, 11, 16] (by decide +kernel) (by decide +kernel)
set_option maxRecDepth 20000 in
theorem gX4_greatestReach_X2_get : GoodIn wsX4_greatestReach (wsV RX4 29 RX2 yX2_get wsX2_get) := goodIn_app (goodIn_of _ (by decide +kernel)) ggX4_greatestReach_X2_get
theorem dX4_greatestReach_0 : decode cX4_greatestReach 0 = .ok (.iconst 0, 1) := by decide +kernel
theorem dX4_greatestReach_1 : decode cX4_greatestReach 1 = .ok (.istore_n 3, 1) := by decide +kernel
theorem dX4_greatestReach_2 : decode cX4_greatestReach 2 = .ok (.iload_n 1, 1) := by decide +kernel
theorem dX4_greatestReach_3 : decode cX4_greatestReach 3 = .ok (.istore 4, 2) := by decide +kernel
theorem dX4_greatestReach_5 : decode cX4_greatestReach 5 = .ok (.iload 4, 2) := by decide +kernel
theorem dX4_greatestReach_7 : decode cX4_greatestReach 7 = .ok (.iload_n 2, 1) := by decide +kernel
theorem dX4_greatestReach_8 : decode cX4_greatestReach 8 = .ok (.if_icmp .ge 23, 3) := by decide +kernel
theorem dX4_greatestReach_11 : decode cX4_greatestReach 11 = .ok (.iload_n 3, 1) := by decide +kernel
theorem dX4_greatestReach_12 : decode cX4_greatestReach 12 = .ok (.aload_n 0, 1) := by decide +kernel
theorem dX4_greatestReach_13 : decode cX4_greatestReach 13 = .ok (.getfield 26, 3) := by decide +kernel
theorem dX4_greatestReach_16 : decode cX4_greatestReach 16 = .ok (.iload 4, 2) := by decide +kernel
theorem dX4_greatestReach_18 : decode cX4_greatestReach 18 = .ok (.invokevirtual 29, 3) := by decide +kernel
theorem dX4_greatestReach_21 : decode cX4_greatestReach 21 = .ok (.invokestatic 58, 3) := by decide +kernel
theorem dX4_greatestReach_24 : decode cX4_greatestReach 24 = .ok (.istore_n 3, 1) := by decide +kernel
theorem dX4_greatestReach_25 : decode cX4_greatestReach 25 = .ok (.iinc 4 1, 3) := by decide +kernel
theorem dX4_greatestReach_28 : decode cX4_greatestReach 28 = .ok (.goto (-23), 3) := by decide +kernel
theorem dX4_greatestReach_31 : decode cX4_greatestReach 31 = .ok (.iload_n 3, 1) := by decide +kernel
theorem dX4_greatestReach_32 : decode cX4_greatestReach 32 = .ok (.ireturn, 1) := by decide +kernel
set_option maxRecDepth 20000 in
theorem ggX4_gapsOfGreatestReach_X4_greatestReach : GoodIn wsX4_gapsOfGreatestReach wsX4_greatestReach := goodIn_r _ [6, 1, 7, 8, 9, 10, 11, 12, 13, 14, 15, 16, 17, 18, 19, 20, 21] (by decide +kernel) (by decide +kernel)
set_option maxRecDepth 20000 in
theorem gX4_gapsOfGreatestReach_X4_greatestReach : GoodIn wsX4_gapsOfGreatestReach (wsV RX4 77 RX4 yX4_greatestReach wsX4_greatestReach) := goodIn_app (goodIn_of _ (by decide +kernel)) ggX4_gapsOfGreatestReach_X4_greatestReach
set_option maxRecDepth 20000 in
theorem ggX4_gapsOfGreatestReach_X2_get : GoodIn wsX4_gapsOfGreatestReach wsX2_get := goodIn_r _ [15, 16, 21] (by decide +kernel) (by decide +kernel)
set_option maxRecDepth 20000 in
theorem gX4_gapsOfGreatestReach_X2_get : GoodIn wsX4_gapsOfGreatestReach (wsV RX4 29 RX2 yX2_get wsX2_get) := goodIn_app (goodIn_of _ (by decide +kernel)) ggX4_gapsOfGreatestReach_X2_get
theorem dX4_gapsOfGreatestReach_0 : decode cX4_gapsOfGreatestReach 0 = .ok (.aload_n 0, 1) := by decide +kernel
theorem dX4_gapsOfGreatestReach_1 : decode cX4_gapsOfGreatestReach 1 = .ok (.iconst 0, 1) := by decide +kernel
theorem dX4_gapsOfGreatestReach_2 : decode cX4_gapsOfGreatestReach 2 = .ok (.iload_n 1, 1) := by decide +kernel
theorem dX4_gapsOfGreatestReach_3 : decode cX4_gapsOfGreatestReach 3 = .ok (.invokevirtual 77, 3) := by decide +kernel
theorem dX4_gapsOfGreatestReach_6 : decode cX4_gapsOfGreatestReach 6 = .ok (.istore_n 2, 1) := by decide +kernel
theorem dX4_gapsOfGreatestReach_7 : decode cX4_gapsOfGreatestReach 7 = .ok (.iconst 0, 1) := by decide +kernel
theorem dX4_gapsOfGreatestReach_8 : decode cX4_gapsOfGreatestReach 8 = .ok (.istore_n 3, 1) := by decide +kernel
theorem dX4_gapsOfGreatestReach_9 : decode cX4_gapsOfGreatestReach 9 = .ok (.iconst 0, 1) := by decide +kernel
theorem dX4_gapsOfGreatestReach_10 : decode cX4_gapsOfGreatestReach 10 = .ok (.istore 4, 2) := by decide +kernel
theorem dX4_gapsOfGreatestReach_12 : decode cX4_gapsOfGreatestReach 12 = .ok (.iload 4, 2) := by decide +kernel
theorem dX4_gapsOfGreatestReach_14 : decode cX4_gapsOfGreatestReach 14 = .ok (.iload_n 1, 1) := by decide +kernel
theorem dX4_gapsOfGreatestReach_15 : decode cX4_gapsOfGreatestReach 15 = .ok (.if_icmp .ge 29, 3) := by decide +kernel
theorem dX4_gapsOfGreatestReach_18 : decode cX4_gapsOfGreatestReach 18 = .ok (.iload_n 2, 1) := by decide +kernel
theorem dX4_gapsOfGreatestReach_19 : decode cX4_gapsOfGreatestReach 19 = .ok (.ifCond .le 19, 3) := by decide +kernel
theorem dX4_gapsOfGreatestReach_22 : decode cX4_gapsOfGreatestReach 22 = .ok (.aload_n 0, 1) := by decide +kernel
theorem dX4_gapsOfGreatestReach_23 : decode cX4_gapsOfGreatestReach 23 = .ok (.getfield 26, 3) := by decide +kernel
theorem dX4_gapsOfGreatestReach_26 : decode cX4_gapsOfGreatestReach 26 = .ok (.iload 4, 2) := by decide +kernel
theorem dX4_gapsOfGreatestReach_28 : decode cX4_gapsOfGreatestReach 28 = .ok (.invokevirtual 29, 3) := by decide +kernel
theorem dX4_gapsOfGreatestReach_31 : decode cX4_gapsOfGreatestReach 31 = .ok (.iload_n 2, 1) := by decide +kernel
theorem dX4_gapsOfGreatestReach_32 : decode cX4_gapsOfGreatestReach 32 = .ok (.if_icmp .ne 6, 3) := by decide +kernel
theorem dX4_gapsOfGreatestReach_35 : decode cX4_gapsOfGreatestReach 35 = .ok (.iinc 3 1, 3) := by decide +kernel
theorem dX4_gapsOfGreatestReach_38 : decode cX4_gapsOfGreatestReach 38 = .ok (.iinc 4 1, 3) := by decide +kernel
theorem dX4_gapsOfGreatestReach_41 : decode cX4_gapsOfGreatestReach 41 = .ok (.goto (-29), 3) := by decide +kernel
theorem dX4_gapsOfGreatestReach_44 : decode cX4_gapsOfGreatestReach 44 = .ok (.iload_n 3, 1) := by decide +kernel
theorem dX4_gapsOfGreatestReach_45 : decode cX4_gapsOfGreatestReach 45 = .ok (.ireturn, 1) := by decide +kernel
set_option maxRecDepth 20000 in
theorem ggX4_firstOfReach_X2_get : GoodIn wsX4_firstOfReach wsX2_get := goodIn_r _ [6, 7, 12] (by decide +kernel) (by decide +kernel)
set_option maxRecDepth 20000 in
theorem gX4_firstOfReach_X2_get : GoodIn wsX4_firstOfReach (wsV RX4 29 RX2 yX2_get wsX2_get) := goodIn_app (goodIn_of _ (by decide +kernel)) ggX4_firstOfReach_X2_get
theorem dX4_firstOfReach_0 : decode cX4_firstOfReach 0 = .ok (.iload_n 2, 1) := by decide +kernel
theorem dX4_firstOfReach_1 : decode cX4_firstOfReach 1 = .ok (.istore 4, 2) := by decide +kernel
theorem dX4_firstOfReach_3 : decode cX4_firstOfReach 3 = .ok (.iload 4, 2) := by decide +kernel
theorem dX4_firstOfReach_5 : decode cX4_firstOfReach 5 = .ok (.iload_n 3, 1) := by decide +kernel
theorem dX4_firstOfReach_6 : decode cX4_firstOfReach 6 = .ok (.if_icmp .ge 25, 3) := by decide +kernel
theorem dX4_firstOfReach_9 : decode cX4_firstOfReach 9 = .ok (.aload_n 0, 1) := by decide +kernel
theorem dX4_firstOfReach_10 : decode cX4_firstOfReach 10 = .ok (.getfield 26, 3) := by decide +kernel
theorem dX4_firstOfReach_13 : decode cX4_firstOfReach 13 = .ok (.iload 4, 2) := by decide +kernel
theorem dX4_firstOfReach_15 : decode cX4_firstOfReach 15 = .ok (.invokevirtual 29, 3) := by decide +kernel
theorem dX4_firstOfReach_18 : decode cX4_firstOfReach 18 = .ok (.iload_n 1, 1) := by decide +kernel
theorem dX4_firstOfReach_19 : decode cX4_firstOfReach 19 = .ok (.if_icmp .ne 6, 3) := by decide +kernel
theorem dX4_firstOfReach_22 : decode cX4_firstOfReach 22 = .ok (.iload 4, 2) := by decide +kernel
theorem dX4_firstOfReach_24 : decode cX4_firstOfReach 24 = .ok (.ireturn, 1) := by decide +kernel
theorem dX4_firstOfReach_25 : decode cX4_firstOfReach 25 = .ok (.iinc 4 1, 3) := by decide +kernel
theorem dX4_firstOfReach_28 : decode cX4_firstOfReach 28 = .ok (.goto (-25), 3) := by decide +kernel
theorem dX4_firstOfReach_31 : decode cX4_firstOfReach 31 = .ok (.iload_n 2, 1) := by decide +kernel
theorem dX4_firstOfReach_32 : decode cX4_firstOfReach 32 = .ok (.ireturn, 1) := by decide +kernel
set_option maxRecDepth 20000 in
theorem ggX4_joints_X1_lineOf : GoodIn wsX4_joints wsX1_lineOf := goodIn_r _ [6, 7, 8, 9, 10, 11, 12, 13, 14, 38, 39, 40, 41, 42, 43, 44] (by decide +kernel) (by decide +kernel)
set_option maxRecDepth 20000 in
theorem gX4_joints_X1_lineOf : GoodIn wsX4_joints (wsV RX4 80 RX1 yX1_lineOf wsX1_lineOf) := goodIn_app (goodIn_of _ (by decide +kernel)) ggX4_joints_X1_lineOf
set_option maxRecDepth 20000 in
theorem ggX4_joints_X1_firstOf : GoodIn wsX4_joints wsX1_firstOf := goodIn_r _ [18, 7, 8, 9, 10, 11, 12, 13, 14, 38, 39, 40, 41, 42, 43, 44] (by decide +kernel) (by decide +kernel)
set_option maxRecDepth 20000 in
theorem gX4_joints_X1_firstOf : GoodIn wsX4_joints (wsV RX4 83 RX1 yX1_firstOf wsX1_firstOf) := goodIn_app (goodIn_of _ (by decide +kernel)) ggX4_joints_X1_firstOf
set_option maxRecDepth 20000 in
theorem ggX4_joints_X4_gapsThatMeet : GoodIn wsX4_joints wsX4_gapsThatMeet := goodIn_r _ [23, 24, 25, 26, 22, 27, 28, 29, 30, 31, 32, 33, 34, 35, 36, 37, 10, 11, 12, 13, 14, 45, 46, 47, 48, 44] (by decide +kernel) (by decide +kernel)
set_option maxRecDepth 20000 in
theorem gX4_joints_X4_gapsThatMeet : GoodIn wsX4_joints (wsV RX4 86 RX4 yX4_gapsThatMeet wsX4_gapsThatMeet) := goodIn_app (goodIn_of _ (by decide +kernel)) ggX4_joints_X4_gapsThatMeet
theorem dX4_joints_0 : decode cX4_joints 0 = .ok (.iconst 0, 1) := by decide +kernel
theorem dX4_joints_1 : decode cX4_joints 1 = .ok (.istore_n 2, 1) := by decide +kernel
theorem dX4_joints_2 : decode cX4_joints 2 = .ok (.iconst 0, 1) := by decide +kernel
theorem dX4_joints_3 : decode cX4_joints 3 = .ok (.istore_n 3, 1) := by decide +kernel
theorem dX4_joints_4 : decode cX4_joints 4 = .ok (.iload_n 3, 1) := by decide +kernel
theorem dX4_joints_5 : decode cX4_joints 5 = .ok (.aload_n 1, 1) := by decide +kernel
theorem dX4_joints_6 : decode cX4_joints 6 = .ok (.getfield 33, 3) := by decide +kernel
theorem dX4_joints_9 : decode cX4_joints 9 = .ok (.if_icmp .ge 42, 3) := by decide +kernel
theorem dX4_joints_12 : decode cX4_joints 12 = .ok (.aload_n 1, 1) := by decide +kernel
theorem dX4_joints_13 : decode cX4_joints 13 = .ok (.iload_n 3, 1) := by decide +kernel
theorem dX4_joints_14 : decode cX4_joints 14 = .ok (.invokevirtual 80, 3) := by decide +kernel
theorem dX4_joints_17 : decode cX4_joints 17 = .ok (.istore 4, 2) := by decide +kernel
theorem dX4_joints_19 : decode cX4_joints 19 = .ok (.aload_n 0, 1) := by decide +kernel
theorem dX4_joints_20 : decode cX4_joints 20 = .ok (.iload_n 3, 1) := by decide +kernel
theorem dX4_joints_21 : decode cX4_joints 21 = .ok (.aload_n 1, 1) := by decide +kernel
theorem dX4_joints_22 : decode cX4_joints 22 = .ok (.iload 4, 2) := by decide +kernel
theorem dX4_joints_24 : decode cX4_joints 24 = .ok (.iconst 1, 1) := by decide +kernel
theorem dX4_joints_25 : decode cX4_joints 25 = .ok (.isub, 1) := by decide +kernel
theorem dX4_joints_26 : decode cX4_joints 26 = .ok (.invokevirtual 83, 3) := by decide +kernel
theorem dX4_joints_29 : decode cX4_joints 29 = .ok (.aload_n 1, 1) := by decide +kernel
theorem dX4_joints_30 : decode cX4_joints 30 = .ok (.iload 4, 2) := by decide +kernel
theorem dX4_joints_32 : decode cX4_joints 32 = .ok (.invokevirtual 83, 3) := by decide +kernel
theorem dX4_joints_35 : decode cX4_joints 35 = .ok (.invokevirtual 86, 3) := by decide +kernel
theorem dX4_joints_38 : decode cX4_joints 38 = .ok (.iconst 2, 1) := by decide +kernel
theorem dX4_joints_39 : decode cX4_joints 39 = .ok (.if_icmp .lt 6, 3) := by decide +kernel
theorem dX4_joints_42 : decode cX4_joints 42 = .ok (.iinc 2 1, 3) := by decide +kernel
theorem dX4_joints_45 : decode cX4_joints 45 = .ok (.iinc 3 1, 3) := by decide +kernel
theorem dX4_joints_48 : decode cX4_joints 48 = .ok (.goto (-44), 3) := by decide +kernel
theorem dX4_joints_51 : decode cX4_joints 51 = .ok (.iload_n 2, 1) := by decide +kernel
theorem dX4_joints_52 : decode cX4_joints 52 = .ok (.ireturn, 1) := by decide +kernel
set_option maxRecDepth 20000 in
theorem ggX5_init_X2_init : GoodIn wsX5_init wsX2_init := goodIn_r _ [11, 12, 2, 3, 13, 14, 15, 16, 17, 18, 21] (by decide +kernel) (by decide +kernel)
set_option maxRecDepth 20000 in
theorem gX5_init_X2_init : GoodIn wsX5_init (wsX2_init) := ggX5_init_X2_init
theorem dX5_init_0 : decode cX5_init 0 = .ok (.aload_n 0, 1) := by decide +kernel
theorem dX5_init_1 : decode cX5_init 1 = .ok (.invokespecial 3, 3) := by decide +kernel
theorem dX5_init_4 : decode cX5_init 4 = .ok (.aload_n 0, 1) := by decide +kernel
theorem dX5_init_5 : decode cX5_init 5 = .ok (.iconst 0, 1) := by decide +kernel
theorem dX5_init_6 : decode cX5_init 6 = .ok (.putfield 9, 3) := by decide +kernel
theorem dX5_init_9 : decode cX5_init 9 = .ok (.aload_n 0, 1) := by decide +kernel
theorem dX5_init_10 : decode cX5_init 10 = .ok (.new 15, 3) := by decide +kernel
theorem dX5_init_13 : decode cX5_init 13 = .ok (.dup, 1) := by decide +kernel
theorem dX5_init_14 : decode cX5_init 14 = .ok (.bipush 100, 2) := by decide +kernel
theorem dX5_init_16 : decode cX5_init 16 = .ok (.invokespecial 17, 3) := by decide +kernel
theorem dX5_init_19 : decode cX5_init 19 = .ok (.putfield 20, 3) := by decide +kernel
theorem dX5_init_22 : decode cX5_init 22 = .ok (.return_, 1) := by decide +kernel
set_option maxRecDepth 20000 in
theorem ggX5_append_X2_set : GoodIn wsX5_append wsX2_set := goodIn_r _ [7, 8, 11] (by decide +kernel) (by decide +kernel)
set_option maxRecDepth 20000 in
theorem gX5_append_X2_set : GoodIn wsX5_append (wsV RX5 24 RX2 yX2_set wsX2_set) := goodIn_app (goodIn_of _ (by decide +kernel)) ggX5_append_X2_set
theorem dX5_append_0 : decode cX5_append 0 = .ok (.aload_n 0, 1) := by decide +kernel
theorem dX5_append_1 : decode cX5_append 1 = .ok (.getfield 20, 3) := by decide +kernel
theorem dX5_append_4 : decode cX5_append 4 = .ok (.aload_n 0, 1) := by decide +kernel
theorem dX5_append_5 : decode cX5_append 5 = .ok (.getfield 9, 3) := by decide +kernel
theorem dX5_append_8 : decode cX5_append 8 = .ok (.iload_n 1, 1) := by decide +kernel
theorem dX5_append_9 : decode cX5_append 9 = .ok (.invokevirtual 24, 3) := by decide +kernel
theorem dX5_append_12 : decode cX5_append 12 = .ok (.aload_n 0, 1) := by decide +kernel
theorem dX5_append_13 : decode cX5_append 13 = .ok (.dup, 1) := by decide +kernel
theorem dX5_append_14 : decode cX5_append 14 = .ok (.getfield 9, 3) := by decide +kernel
theorem dX5_append_17 : decode cX5_append 17 = .ok (.iconst 1, 1) := by decide +kernel
theorem dX5_append_18 : decode cX5_append 18 = .ok (.iadd, 1) := by decide +kernel
theorem dX5_append_19 : decode cX5_append 19 = .ok (.putfield 9, 3) := by decide +kernel
theorem dX5_append_22 : decode cX5_append 22 = .ok (.return_, 1) := by decide +kernel
set_option maxRecDepth 20000 in
theorem ggX5_firstFault_X2_get : GoodIn wsX5_firstFault wsX2_get := goodIn_r _ [7, 8, 11] (by decide +kernel) (by decide +kernel)
set_option maxRecDepth 20000 in
theorem gX5_firstFault_X2_get : GoodIn wsX5_firstFault (wsV RX5 28 RX2 yX2_get wsX2_get) := goodIn_app (goodIn_of _ (by decide +kernel)) ggX5_firstFault_X2_get
theorem dX5_firstFault_0 : decode cX5_firstFault 0 = .ok (.iconst 0, 1) := by decide +kernel
theorem dX5_firstFault_1 : decode cX5_firstFault 1 = .ok (.istore_n 1, 1) := by decide +kernel
theorem dX5_firstFault_2 : decode cX5_firstFault 2 = .ok (.iconst 0, 1) := by decide +kernel
theorem dX5_firstFault_3 : decode cX5_firstFault 3 = .ok (.istore_n 2, 1) := by decide +kernel
theorem dX5_firstFault_4 : decode cX5_firstFault 4 = .ok (.iconst 0, 1) := by decide +kernel
theorem dX5_firstFault_5 : decode cX5_firstFault 5 = .ok (.istore_n 3, 1) := by decide +kernel
theorem dX5_firstFault_6 : decode cX5_firstFault 6 = .ok (.iload_n 3, 1) := by decide +kernel
theorem dX5_firstFault_7 : decode cX5_firstFault 7 = .ok (.aload_n 0, 1) := by decide +kernel
theorem dX5_firstFault_8 : decode cX5_firstFault 8 = .ok (.getfield 9, 3) := by decide +kernel
theorem dX5_firstFault_11 : decode cX5_firstFault 11 = .ok (.if_icmp .ge 72, 3) := by decide +kernel
theorem dX5_firstFault_14 : decode cX5_firstFault 14 = .ok (.aload_n 0, 1) := by decide +kernel
theorem dX5_firstFault_15 : decode cX5_firstFault 15 = .ok (.getfield 20, 3) := by decide +kernel
theorem dX5_firstFault_18 : decode cX5_firstFault 18 = .ok (.iload_n 3, 1) := by decide +kernel
theorem dX5_firstFault_19 : decode cX5_firstFault 19 = .ok (.invokevirtual 28, 3) := by decide +kernel
theorem dX5_firstFault_22 : decode cX5_firstFault 22 = .ok (.bipush 32, 2) := by decide +kernel
theorem dX5_firstFault_24 : decode cX5_firstFault 24 = .ok (.if_icmp .ne 24, 3) := by decide +kernel
theorem dX5_firstFault_27 : decode cX5_firstFault 27 = .ok (.iload_n 2, 1) := by decide +kernel
theorem dX5_firstFault_28 : decode cX5_firstFault 28 = .ok (.ifCond .eq 13, 3) := by decide +kernel
theorem dX5_firstFault_31 : decode cX5_firstFault 31 = .ok (.iload_n 3, 1) := by decide +kernel
theorem dX5_firstFault_32 : decode cX5_firstFault 32 = .ok (.aload_n 0, 1) := by decide +kernel
theorem dX5_firstFault_33 : decode cX5_firstFault 33 = .ok (.getfield 9, 3) := by decide +kernel
theorem dX5_firstFault_36 : decode cX5_firstFault 36 = .ok (.iconst 1, 1) := by decide +kernel
theorem dX5_firstFault_37 : decode cX5_firstFault 37 = .ok (.isub, 1) := by decide +kernel
theorem dX5_firstFault_38 : decode cX5_firstFault 38 = .ok (.if_icmp .ne 5, 3) := by decide +kernel
theorem dX5_firstFault_41 : decode cX5_firstFault 41 = .ok (.iload_n 3, 1) := by decide +kernel
theorem dX5_firstFault_42 : decode cX5_firstFault 42 = .ok (.ireturn, 1) := by decide +kernel
theorem dX5_firstFault_43 : decode cX5_firstFault 43 = .ok (.iconst 0, 1) := by decide +kernel
theorem dX5_firstFault_44 : decode cX5_firstFault 44 = .ok (.istore_n 2, 1) := by decide +kernel
theorem dX5_firstFault_45 : decode cX5_firstFault 45 = .ok (.goto 32, 3) := by decide +kernel
theorem dX5_firstFault_48 : decode cX5_firstFault 48 = .ok (.iload_n 1, 1) := by decide +kernel
theorem dX5_firstFault_49 : decode cX5_firstFault 49 = .ok (.iload_n 2, 1) := by decide +kernel
theorem dX5_firstFault_50 : decode cX5_firstFault 50 = .ok (.ifCond .ne 7, 3) := by decide +kernel
theorem dX5_firstFault_53 : decode cX5_firstFault 53 = .ok (.iconst 1, 1) := by decide +kernel
theorem dX5_firstFault_54 : decode cX5_firstFault 54 = .ok (.goto 4, 3) := by decide +kernel
theorem dX5_firstFault_57 : decode cX5_firstFault 57 = .ok (.iconst 0, 1) := by decide +kernel
theorem dX5_firstFault_58 : decode cX5_firstFault 58 = .ok (.iadd, 1) := by decide +kernel
theorem dX5_firstFault_59 : decode cX5_firstFault 59 = .ok (.istore_n 1, 1) := by decide +kernel
theorem dX5_firstFault_60 : decode cX5_firstFault 60 = .ok (.iinc 2 1, 3) := by decide +kernel
theorem dX5_firstFault_63 : decode cX5_firstFault 63 = .ok (.iload_n 2, 1) := by decide +kernel
theorem dX5_firstFault_64 : decode cX5_firstFault 64 = .ok (.bipush 8, 2) := by decide +kernel
theorem dX5_firstFault_66 : decode cX5_firstFault 66 = .ok (.if_icmp .gt 9, 3) := by decide +kernel
theorem dX5_firstFault_69 : decode cX5_firstFault 69 = .ok (.iload_n 1, 1) := by decide +kernel
theorem dX5_firstFault_70 : decode cX5_firstFault 70 = .ok (.bipush 24, 2) := by decide +kernel
theorem dX5_firstFault_72 : decode cX5_firstFault 72 = .ok (.if_icmp .le 5, 3) := by decide +kernel
theorem dX5_firstFault_75 : decode cX5_firstFault 75 = .ok (.iload_n 3, 1) := by decide +kernel
theorem dX5_firstFault_76 : decode cX5_firstFault 76 = .ok (.ireturn, 1) := by decide +kernel
theorem dX5_firstFault_77 : decode cX5_firstFault 77 = .ok (.iinc 3 1, 3) := by decide +kernel
theorem dX5_firstFault_80 : decode cX5_firstFault 80 = .ok (.goto (-74), 3) := by decide +kernel
theorem dX5_firstFault_83 : decode cX5_firstFault 83 = .ok (.bipush (-4), 2) := by decide +kernel
theorem dX5_firstFault_85 : decode cX5_firstFault 85 = .ok (.ireturn, 1) := by decide +kernel
set_option maxRecDepth 20000 in
theorem ggX5_giveWords_X1_removeAll : GoodIn wsX5_giveWords wsX1_removeAll := goodIn_r _ [7, 8, 9, 10, 11, 12, 13, 14, 15, 16, 32, 33, 34, 35, 36, 37, 38] (by decide +kernel) (by decide +kernel)
set_option maxRecDepth 20000 in
theorem gX5_giveWords_X1_removeAll : GoodIn wsX5_giveWords (wsV RX5 32 RX1 yX1_removeAll wsX1_removeAll) := goodIn_app (goodIn_of _ (by decide +kernel)) ggX5_giveWords_X1_removeAll
set_option maxRecDepth 20000 in
theorem ggX5_giveWords_X2_get : GoodIn wsX5_giveWords wsX2_get := goodIn_r _ [20, 16, 38] (by decide +kernel) (by decide +kernel)
set_option maxRecDepth 20000 in
theorem gX5_giveWords_X2_get : GoodIn wsX5_giveWords (wsV RX5 28 RX2 yX2_get wsX2_get) := goodIn_app (goodIn_of _ (by decide +kernel)) ggX5_giveWords_X2_get
set_option maxRecDepth 20000 in
theorem ggX5_giveWords_X1_append : GoodIn wsX5_giveWords wsX1_append := goodIn_r _ [24, 25, 8, 26, 27, 28, 14, 29, 16, 32, 33, 34, 35, 36, 37, 38] (by decide +kernel) (by decide +kernel)
set_option maxRecDepth 20000 in
theorem gX5_giveWords_X1_append : GoodIn wsX5_giveWords (wsV RX5 37 RX1 yX1_append wsX1_append) := goodIn_app (goodIn_of _ (by decide +kernel)) ggX5_giveWords_X1_append
theorem dX5_giveWords_0 : decode cX5_giveWords 0 = .ok (.aload_n 1, 1) := by decide +kernel
theorem dX5_giveWords_1 : decode cX5_giveWords 1 = .ok (.invokevirtual 32, 3) := by decide +kernel
theorem dX5_giveWords_4 : decode cX5_giveWords 4 = .ok (.iconst 0, 1) := by decide +kernel
theorem dX5_giveWords_5 : decode cX5_giveWords 5 = .ok (.istore_n 2, 1) := by decide +kernel
theorem dX5_giveWords_6 : decode cX5_giveWords 6 = .ok (.iconst 0, 1) := by decide +kernel
theorem dX5_giveWords_7 : decode cX5_giveWords 7 = .ok (.istore_n 3, 1) := by decide +kernel
theorem dX5_giveWords_8 : decode cX5_giveWords 8 = .ok (.iload_n 3, 1) := by decide +kernel
theorem dX5_giveWords_9 : decode cX5_giveWords 9 = .ok (.aload_n 0, 1) := by decide +kernel
theorem dX5_giveWords_10 : decode cX5_giveWords 10 = .ok (.getfield 9, 3) := by decide +kernel
theorem dX5_giveWords_13 : decode cX5_giveWords 13 = .ok (.if_icmp .ge 35, 3) := by decide +kernel
theorem dX5_giveWords_16 : decode cX5_giveWords 16 = .ok (.aload_n 0, 1) := by decide +kernel
theorem dX5_giveWords_17 : decode cX5_giveWords 17 = .ok (.getfield 20, 3) := by decide +kernel
theorem dX5_giveWords_20 : decode cX5_giveWords 20 = .ok (.iload_n 3, 1) := by decide +kernel
theorem dX5_giveWords_21 : decode cX5_giveWords 21 = .ok (.invokevirtual 28, 3) := by decide +kernel
theorem dX5_giveWords_24 : decode cX5_giveWords 24 = .ok (.bipush 32, 2) := by decide +kernel
theorem dX5_giveWords_26 : decode cX5_giveWords 26 = .ok (.if_icmp .eq 9, 3) := by decide +kernel
theorem dX5_giveWords_29 : decode cX5_giveWords 29 = .ok (.iinc 2 1, 3) := by decide +kernel
theorem dX5_giveWords_32 : decode cX5_giveWords 32 = .ok (.goto 10, 3) := by decide +kernel
theorem dX5_giveWords_35 : decode cX5_giveWords 35 = .ok (.aload_n 1, 1) := by decide +kernel
theorem dX5_giveWords_36 : decode cX5_giveWords 36 = .ok (.iload_n 2, 1) := by decide +kernel
theorem dX5_giveWords_37 : decode cX5_giveWords 37 = .ok (.invokevirtual 37, 3) := by decide +kernel
theorem dX5_giveWords_40 : decode cX5_giveWords 40 = .ok (.iconst 0, 1) := by decide +kernel
theorem dX5_giveWords_41 : decode cX5_giveWords 41 = .ok (.istore_n 2, 1) := by decide +kernel
theorem dX5_giveWords_42 : decode cX5_giveWords 42 = .ok (.iinc 3 1, 3) := by decide +kernel
theorem dX5_giveWords_45 : decode cX5_giveWords 45 = .ok (.goto (-37), 3) := by decide +kernel
theorem dX5_giveWords_48 : decode cX5_giveWords 48 = .ok (.iload_n 2, 1) := by decide +kernel
theorem dX5_giveWords_49 : decode cX5_giveWords 49 = .ok (.ifCond .le 8, 3) := by decide +kernel
theorem dX5_giveWords_52 : decode cX5_giveWords 52 = .ok (.aload_n 1, 1) := by decide +kernel
theorem dX5_giveWords_53 : decode cX5_giveWords 53 = .ok (.iload_n 2, 1) := by decide +kernel
theorem dX5_giveWords_54 : decode cX5_giveWords 54 = .ok (.invokevirtual 37, 3) := by decide +kernel
theorem dX5_giveWords_57 : decode cX5_giveWords 57 = .ok (.return_, 1) := by decide +kernel
set_option maxRecDepth 20000 in
theorem ggX6_init_X1_init : GoodIn wsX6_init wsX1_init := goodIn_r _ [25, 26, 2, 3, 27, 28, 29, 30, 31, 32, 33, 34, 35, 36, 37, 38, 39, 40, 41, 42, 43, 44, 45, 87, 88, 89, 90, 91, 92, 116] (by decide +kernel) (by decide +kernel)
set_option maxRecDepth 20000 in
theorem gX6_init_X1_init_n9 : GoodIn wsX6_init (wsX1_init) := ggX6_init_X1_init
set_option maxRecDepth 20000 in
theorem ggX6_init_X0_init : GoodIn wsX6_init wsX0_init := goodIn_r _ [48, 49, 2, 3, 50, 51, 52, 5, 6, 24, 25, 26, 27, 28, 29, 30, 31, 32, 33, 34, 35, 36, 37, 38, 39, 40, 41, 42, 43, 44, 45, 98, 99, 87, 88, 89, 90, 91, 92, 116] (by decide +kernel) (by decide +kernel)
set_option maxRecDepth 20000 in
theorem gX6_init_X0_init : GoodIn wsX6_init (wsX0_init) := ggX6_init_X0_init
set_option maxRecDepth 20000 in
theorem ggX6_init_X4_init : GoodIn wsX6_init wsX4_init := goodIn_r _ [54, 55, 2, 3, 56, 31, 32, 57, 58, 59, 60, 61, 37, 38, 39, 40, 41, 42, 43, 44, 45, 116, 100, 101, 102, 103] (by decide +kernel) (by decide +kernel)
set_option maxRecDepth 20000 in
theorem gX6_init_X4_init_n25 : GoodIn wsX6_init (wsX4_init) := ggX6_init_X4_init
set_option maxRecDepth 20000 in
theorem ggX6_init_X3_init : GoodIn wsX6_init wsX3_init := goodIn_r _ [63, 64, 2, 3, 65, 66, 67, 68, 69, 70, 5, 6, 71, 72, 13, 14, 73, 74, 31, 32, 75, 76, 77, 78, 24, 25, 26, 27, 28, 29, 30, 33, 34, 35, 36, 37, 38, 39, 40, 41, 42, 43, 44, 45, 53, 54, 55, 56, 57, 58, 59, 60, 61, 79, 104, 105, 106, 107, 108, 109, 110, 111, 112, 113, 87, 88, 89, 90, 91, 92, 100, 101, 102, 103, 116] (by decide +kernel) (by decide +kernel)
set_option maxRecDepth 20000 in
theorem gX6_init_X3_init_n32 : GoodIn wsX6_init (wsX3_init) := ggX6_init_X3_init
set_option maxRecDepth 20000 in
theorem ggX6_init_X5_init : GoodIn wsX6_init wsX5_init := goodIn_r _ [81, 82, 2, 3, 83, 84, 31, 32, 85, 86, 37, 38, 39, 40, 41, 42, 43, 44, 45, 114, 115, 116] (by decide +kernel) (by decide +kernel)
set_option maxRecDepth 20000 in
theorem gX6_init_X5_init_n39 : GoodIn wsX6_init (wsX5_init) := ggX6_init_X5_init
theorem dX6_init_0 : decode cX6_init 0 = .ok (.aload_n 0, 1) := by decide +kernel
theorem dX6_init_1 : decode cX6_init 1 = .ok (.invokespecial 1, 3) := by decide +kernel
theorem dX6_init_4 : decode cX6_init 4 = .ok (.aload_n 0, 1) := by decide +kernel
theorem dX6_init_5 : decode cX6_init 5 = .ok (.new 7, 3) := by decide +kernel
theorem dX6_init_8 : decode cX6_init 8 = .ok (.dup, 1) := by decide +kernel
theorem dX6_init_9 : decode cX6_init 9 = .ok (.invokespecial 9, 3) := by decide +kernel
theorem dX6_init_12 : decode cX6_init 12 = .ok (.putfield 10, 3) := by decide +kernel
theorem dX6_init_15 : decode cX6_init 15 = .ok (.aload_n 0, 1) := by decide +kernel
theorem dX6_init_16 : decode cX6_init 16 = .ok (.new 16, 3) := by decide +kernel
theorem dX6_init_19 : decode cX6_init 19 = .ok (.dup, 1) := by decide +kernel
theorem dX6_init_20 : decode cX6_init 20 = .ok (.invokespecial 18, 3) := by decide +kernel
theorem dX6_init_23 : decode cX6_init 23 = .ok (.putfield 19, 3) := by decide +kernel
theorem dX6_init_26 : decode cX6_init 26 = .ok (.aload_n 0, 1) := by decide +kernel
theorem dX6_init_27 : decode cX6_init 27 = .ok (.new 23, 3) := by decide +kernel
theorem dX6_init_30 : decode cX6_init 30 = .ok (.dup, 1) := by decide +kernel
theorem dX6_init_31 : decode cX6_init 31 = .ok (.invokespecial 25, 3) := by decide +kernel
theorem dX6_init_34 : decode cX6_init 34 = .ok (.putfield 26, 3) := by decide +kernel
theorem dX6_init_37 : decode cX6_init 37 = .ok (.aload_n 0, 1) := by decide +kernel
theorem dX6_init_38 : decode cX6_init 38 = .ok (.new 30, 3) := by decide +kernel
theorem dX6_init_41 : decode cX6_init 41 = .ok (.dup, 1) := by decide +kernel
theorem dX6_init_42 : decode cX6_init 42 = .ok (.invokespecial 32, 3) := by decide +kernel
theorem dX6_init_45 : decode cX6_init 45 = .ok (.putfield 33, 3) := by decide +kernel
theorem dX6_init_48 : decode cX6_init 48 = .ok (.aload_n 0, 1) := by decide +kernel
theorem dX6_init_49 : decode cX6_init 49 = .ok (.new 37, 3) := by decide +kernel
theorem dX6_init_52 : decode cX6_init 52 = .ok (.dup, 1) := by decide +kernel
theorem dX6_init_53 : decode cX6_init 53 = .ok (.invokespecial 39, 3) := by decide +kernel
theorem dX6_init_56 : decode cX6_init 56 = .ok (.putfield 40, 3) := by decide +kernel
theorem dX6_init_59 : decode cX6_init 59 = .ok (.return_, 1) := by decide +kernel
set_option maxRecDepth 20000 in
theorem ggX6_setWidth_X6_isWithin : GoodIn wsX6_setWidth wsX6_isWithin := goodIn_r _ [6] (by decide +kernel) (by decide +kernel)
set_option maxRecDepth 20000 in
theorem gX6_setWidth_X6_isWithin : GoodIn wsX6_setWidth (va_wsS RX6 44 yX6_isWithin wsX6_isWithin) := goodIn_app (goodIn_of _ (by decide +kernel)) ggX6_setWidth_X6_isWithin
set_option maxRecDepth 20000 in
theorem ggX6_setWidth_X1_frozenLines : GoodIn wsX6_setWidth wsX1_frozenLines := goodIn_r _ [11, 12, 13, 14, 15, 16, 17, 18, 19, 97, 98, 99, 100, 101, 102, 103] (by decide +kernel) (by decide +kernel)
set_option maxRecDepth 20000 in
theorem gX6_setWidth_X1_frozenLines : GoodIn wsX6_setWidth (wsV RX6 48 RX1 yX1_frozenLines wsX1_frozenLines) := goodIn_app (goodIn_of _ (by decide +kernel)) ggX6_setWidth_X1_frozenLines
set_option maxRecDepth 20000 in
theorem ggX6_setWidth_X6_beginChange : GoodIn wsX6_setWidth wsX6_beginChange := goodIn_r _ [23, 24, 1, 25, 26, 27, 28, 29, 30, 31, 32, 33, 34, 35, 36, 37, 38, 39, 40, 41, 42, 43, 10, 44, 45, 46, 12, 47, 48, 13, 49, 50, 51, 17, 52, 19, 53, 15, 16, 18, 54, 55, 56, 57, 58, 59, 92, 93, 94, 95, 96, 104, 105, 97, 98, 99, 100, 101, 102, 103, 106, 107, 108, 109, 110, 111, 112, 113, 114, 115] (by decide +kernel) (by decide +kernel)
set_option maxRecDepth 20000 in
theorem gX6_setWidth_X6_beginChange : GoodIn wsX6_setWidth (wsV RX6 52 RX6 yX6_beginChange wsX6_beginChange) := goodIn_app (goodIn_of _ (by decide +kernel)) ggX6_setWidth_X6_beginChange
set_option maxRecDepth 20000 in
theorem ggX6_setWidth_X1_fill : GoodIn wsX6_setWidth wsX1_fill := goodIn_r _ [63, 12, 64, 65, 66, 10, 67, 48, 68, 69, 70, 17, 71, 19, 72, 73, 74, 75, 76, 77, 78, 79, 45, 47, 14, 15, 16, 18, 80, 81, 82, 83, 84, 85, 86, 87, 97, 98, 99, 100, 101, 102, 103] (by decide +kernel) (by decide +kernel)
set_option maxRecDepth 20000 in
theorem gX6_setWidth_X1_fill : GoodIn wsX6_setWidth (wsV RX6 59 RX1 yX1_fill wsX1_fill) := goodIn_app (goodIn_of _ (by decide +kernel)) ggX6_setWidth_X1_fill
set_option maxRecDepth 20000 in
theorem ggX6_setWidth_X1_lines : GoodIn wsX6_setWidth wsX1_lines := goodIn_r _ [91, 12, 48, 14, 15, 16, 17, 18, 19, 97, 98, 99, 100, 101, 102, 103] (by decide +kernel) (by decide +kernel)
set_option maxRecDepth 20000 in
theorem gX6_setWidth_X1_lines : GoodIn wsX6_setWidth (wsV RX6 62 RX1 yX1_lines wsX1_lines) := goodIn_app (goodIn_of _ (by decide +kernel)) ggX6_setWidth_X1_lines
theorem dX6_setWidth_0 : decode cX6_setWidth 0 = .ok (.iload_n 1, 1) := by decide +kernel
theorem dX6_setWidth_1 : decode cX6_setWidth 1 = .ok (.bipush 16, 2) := by decide +kernel
theorem dX6_setWidth_3 : decode cX6_setWidth 3 = .ok (.bipush 40, 2) := by decide +kernel
theorem dX6_setWidth_5 : decode cX6_setWidth 5 = .ok (.invokestatic 44, 3) := by decide +kernel
theorem dX6_setWidth_8 : decode cX6_setWidth 8 = .ok (.ifCond .ne 5, 3) := by decide +kernel
theorem dX6_setWidth_11 : decode cX6_setWidth 11 = .ok (.iconst (-1), 1) := by decide +kernel
theorem dX6_setWidth_12 : decode cX6_setWidth 12 = .ok (.ireturn, 1) := by decide +kernel
theorem dX6_setWidth_13 : decode cX6_setWidth 13 = .ok (.aload_n 0, 1) := by decide +kernel
theorem dX6_setWidth_14 : decode cX6_setWidth 14 = .ok (.getfield 10, 3) := by decide +kernel
theorem dX6_setWidth_17 : decode cX6_setWidth 17 = .ok (.invokevirtual 48, 3) := by decide +kernel
theorem dX6_setWidth_20 : decode cX6_setWidth 20 = .ok (.ifCond .le 6, 3) := by decide +kernel
theorem dX6_setWidth_23 : decode cX6_setWidth 23 = .ok (.bipush (-2), 2) := by decide +kernel
theorem dX6_setWidth_25 : decode cX6_setWidth 25 = .ok (.ireturn, 1) := by decide +kernel
theorem dX6_setWidth_26 : decode cX6_setWidth 26 = .ok (.aload_n 0, 1) := by decide +kernel
theorem dX6_setWidth_27 : decode cX6_setWidth 27 = .ok (.invokevirtual 52, 3) := by decide +kernel
theorem dX6_setWidth_30 : decode cX6_setWidth 30 = .ok (.aload_n 0, 1) := by decide +kernel
theorem dX6_setWidth_31 : decode cX6_setWidth 31 = .ok (.getfield 10, 3) := by decide +kernel
theorem dX6_setWidth_34 : decode cX6_setWidth 34 = .ok (.iload_n 1, 1) := by decide +kernel
theorem dX6_setWidth_35 : decode cX6_setWidth 35 = .ok (.putfield 55, 3) := by decide +kernel
theorem dX6_setWidth_38 : decode cX6_setWidth 38 = .ok (.aload_n 0, 1) := by decide +kernel
theorem dX6_setWidth_39 : decode cX6_setWidth 39 = .ok (.getfield 10, 3) := by decide +kernel
theorem dX6_setWidth_42 : decode cX6_setWidth 42 = .ok (.invokevirtual 59, 3) := by decide +kernel
theorem dX6_setWidth_45 : decode cX6_setWidth 45 = .ok (.aload_n 0, 1) := by decide +kernel
theorem dX6_setWidth_46 : decode cX6_setWidth 46 = .ok (.getfield 10, 3) := by decide +kernel
theorem dX6_setWidth_49 : decode cX6_setWidth 49 = .ok (.invokevirtual 62, 3) := by decide +kernel
theorem dX6_setWidth_52 : decode cX6_setWidth 52 = .ok (.ireturn, 1) := by decide +kernel
set_option maxRecDepth 20000 in
theorem ggX6_setSlack_X6_isWithin : GoodIn wsX6_setSlack wsX6_isWithin := goodIn_r _ [6] (by decide +kernel) (by decide +kernel)
set_option maxRecDepth 20000 in
theorem gX6_setSlack_X6_isWithin : GoodIn wsX6_setSlack (va_wsS RX6 44 yX6_isWithin wsX6_isWithin) := goodIn_app (goodIn_of _ (by decide +kernel)) ggX6_setSlack_X6_isWithin
set_option maxRecDepth 20000 in
theorem ggX6_setSlack_X6_beginChange : GoodIn wsX6_setSlack wsX6_beginChange := goodIn_r _ [10, 11, 1, 12, 13, 14, 15, 16, 17, 18, 19, 20, 21, 22, 23, 24, 25, 26, 27, 28, 29, 30, 31, 32, 33, 34, 35, 36, 37, 38, 39, 40, 41, 42, 43, 44, 45, 46, 47, 48, 49, 50, 51, 52, 53, 54, 55, 56, 57, 58, 59, 66, 67, 60, 61, 62, 63, 64, 65, 68, 69, 70, 71, 72, 73, 74, 75, 76, 77, 78] (by decide +kernel) (by decide +kernel)
set_option maxRecDepth 20000 in
theorem gX6_setSlack_X6_beginChange : GoodIn wsX6_setSlack (wsV RX6 52 RX6 yX6_beginChange wsX6_beginChange) := goodIn_app (goodIn_of _ (by decide +kernel)) ggX6_setSlack_X6_beginChange
theorem dX6_setSlack_0 : decode cX6_setSlack 0 = .ok (.iload_n 1, 1) := by decide +kernel
theorem dX6_setSlack_1 : decode cX6_setSlack 1 = .ok (.iconst 0, 1) := by decide +kernel
theorem dX6_setSlack_2 : decode cX6_setSlack 2 = .ok (.bipush 8, 2) := by decide +kernel
theorem dX6_setSlack_4 : decode cX6_setSlack 4 = .ok (.invokestatic 44, 3) := by decide +kernel
theorem dX6_setSlack_7 : decode cX6_setSlack 7 = .ok (.ifCond .ne 5, 3) := by decide +kernel
theorem dX6_setSlack_10 : decode cX6_setSlack 10 = .ok (.iconst (-1), 1) := by decide +kernel
theorem dX6_setSlack_11 : decode cX6_setSlack 11 = .ok (.ireturn, 1) := by decide +kernel
theorem dX6_setSlack_12 : decode cX6_setSlack 12 = .ok (.aload_n 0, 1) := by decide +kernel
theorem dX6_setSlack_13 : decode cX6_setSlack 13 = .ok (.invokevirtual 52, 3) := by decide +kernel
theorem dX6_setSlack_16 : decode cX6_setSlack 16 = .ok (.aload_n 0, 1) := by decide +kernel
theorem dX6_setSlack_17 : decode cX6_setSlack 17 = .ok (.getfield 10, 3) := by decide +kernel
theorem dX6_setSlack_20 : decode cX6_setSlack 20 = .ok (.getfield 65, 3) := by decide +kernel
theorem dX6_setSlack_23 : decode cX6_setSlack 23 = .ok (.istore_n 2, 1) := by decide +kernel
theorem dX6_setSlack_24 : decode cX6_setSlack 24 = .ok (.aload_n 0, 1) := by decide +kernel
theorem dX6_setSlack_25 : decode cX6_setSlack 25 = .ok (.getfield 10, 3) := by decide +kernel
theorem dX6_setSlack_28 : decode cX6_setSlack 28 = .ok (.iload_n 1, 1) := by decide +kernel
theorem dX6_setSlack_29 : decode cX6_setSlack 29 = .ok (.putfield 65, 3) := by decide +kernel
theorem dX6_setSlack_32 : decode cX6_setSlack 32 = .ok (.iload_n 2, 1) := by decide +kernel
theorem dX6_setSlack_33 : decode cX6_setSlack 33 = .ok (.ireturn, 1) := by decide +kernel
set_option maxRecDepth 20000 in
theorem ggX6_add_X6_isWithin : GoodIn wsX6_add wsX6_isWithin := goodIn_r _ [6] (by decide +kernel) (by decide +kernel)
set_option maxRecDepth 20000 in
theorem gX6_add_X6_isWithin : GoodIn wsX6_add (va_wsS RX6 44 yX6_isWithin wsX6_isWithin) := goodIn_app (goodIn_of _ (by decide +kernel)) ggX6_add_X6_isWithin
set_option maxRecDepth 20000 in
theorem ggX6_add_X6_beginChange : GoodIn wsX6_add wsX6_beginChange := goodIn_r _ [10, 11, 1, 12, 13, 14, 15, 16, 17, 18, 19, 20, 21, 22, 23, 24, 25, 26, 27, 28, 29, 30, 31, 32, 33, 34, 35, 36, 37, 38, 39, 40, 41, 42, 43, 44, 45, 46, 47, 48, 49, 50, 51, 52, 53, 54, 88, 89, 90, 91, 92, 99, 100, 93, 94, 95, 96, 97, 98, 101, 102, 103, 104, 105, 106, 107, 108, 109, 110, 111] (by decide +kernel) (by decide +kernel)
set_option maxRecDepth 20000 in
theorem gX6_add_X6_beginChange : GoodIn wsX6_add (wsV RX6 52 RX6 yX6_beginChange wsX6_beginChange) := goodIn_app (goodIn_of _ (by decide +kernel)) ggX6_add_X6_beginChange
set_option maxRecDepth 20000 in
theorem ggX6_add_X1_lines : GoodIn wsX6_add wsX1_lines := goodIn_r _ [58, 35, 37, 59, 46, 47, 42, 48, 44, 93, 94, 95, 96, 97, 98, 101] (by decide +kernel) (by decide +kernel)
set_option maxRecDepth 20000 in
theorem gX6_add_X1_lines : GoodIn wsX6_add (wsV RX6 62 RX1 yX1_lines wsX1_lines) := goodIn_app (goodIn_of _ (by decide +kernel)) ggX6_add_X1_lines
set_option maxRecDepth 20000 in
theorem ggX6_add_X1_firstOf : GoodIn wsX6_add wsX1_firstOf := goodIn_r _ [63, 35, 37, 59, 46, 47, 42, 48, 44, 93, 94, 95, 96, 97, 98, 101] (by decide +kernel) (by decide +kernel)
set_option maxRecDepth 20000 in
theorem gX6_add_X1_firstOf : GoodIn wsX6_add (wsV RX6 71 RX1 yX1_firstOf wsX1_firstOf) := goodIn_app (goodIn_of _ (by decide +kernel)) ggX6_add_X1_firstOf
set_option maxRecDepth 20000 in
theorem ggX6_add_X1_append : GoodIn wsX6_add wsX1_append := goodIn_r _ [67, 36, 35, 68, 69, 70, 42, 71, 44, 93, 94, 95, 96, 97, 98, 101] (by decide +kernel) (by decide +kernel)
set_option maxRecDepth 20000 in
theorem gX6_add_X1_append : GoodIn wsX6_add (wsV RX6 75 RX1 yX1_append wsX1_append) := goodIn_app (goodIn_of _ (by decide +kernel)) ggX6_add_X1_append
set_option maxRecDepth 20000 in
theorem ggX6_add_X1_isFrozen : GoodIn wsX6_add wsX1_isFrozen := goodIn_r _ [75, 38, 59, 46, 47, 42, 48, 44, 93, 94, 95, 96, 97, 98, 101] (by decide +kernel) (by decide +kernel)
set_option maxRecDepth 20000 in
theorem gX6_add_X1_isFrozen : GoodIn wsX6_add (wsV RX6 79 RX1 yX1_isFrozen wsX1_isFrozen) := goodIn_app (goodIn_of _ (by decide +kernel)) ggX6_add_X1_isFrozen
set_option maxRecDepth 20000 in
theorem ggX6_add_X1_fits : GoodIn wsX6_add wsX1_fits := goodIn_r _ [79, 80, 81, 82, 31, 83, 33, 36, 59, 46, 47, 42, 48, 44, 93, 94, 95, 96, 97, 98, 101] (by decide +kernel) (by decide +kernel)
set_option maxRecDepth 20000 in
theorem gX6_add_X1_fits : GoodIn wsX6_add (wsV RX6 83 RX1 yX1_fits wsX1_fits) := goodIn_app (goodIn_of _ (by decide +kernel)) ggX6_add_X1_fits
set_option maxRecDepth 20000 in
theorem ggX6_add_X1_begin : GoodIn wsX6_add wsX1_begin := goodIn_r _ [87, 35, 37, 68, 69, 70, 42, 71, 44, 93, 94, 95, 96, 97, 98, 101] (by decide +kernel) (by decide +kernel)
set_option maxRecDepth 20000 in
theorem gX6_add_X1_begin : GoodIn wsX6_add (wsV RX6 87 RX1 yX1_begin wsX1_begin) := goodIn_app (goodIn_of _ (by decide +kernel)) ggX6_add_X1_begin
theorem dX6_add_0 : decode cX6_add 0 = .ok (.iload_n 1, 1) := by decide +kernel
theorem dX6_add_1 : decode cX6_add 1 = .ok (.iconst 1, 1) := by decide +kernel
theorem dX6_add_2 : decode cX6_add 2 = .ok (.bipush 8, 2) := by decide +kernel
theorem dX6_add_4 : decode cX6_add 4 = .ok (.invokestatic 44, 3) := by decide +kernel
theorem dX6_add_7 : decode cX6_add 7 = .ok (.ifCond .ne 5, 3) := by decide +kernel
theorem dX6_add_10 : decode cX6_add 10 = .ok (.iconst (-1), 1) := by decide +kernel
theorem dX6_add_11 : decode cX6_add 11 = .ok (.ireturn, 1) := by decide +kernel
theorem dX6_add_12 : decode cX6_add 12 = .ok (.aload_n 0, 1) := by decide +kernel
theorem dX6_add_13 : decode cX6_add 13 = .ok (.getfield 10, 3) := by decide +kernel
theorem dX6_add_16 : decode cX6_add 16 = .ok (.getfield 68, 3) := by decide +kernel
theorem dX6_add_19 : decode cX6_add 19 = .ok (.bipush 24, 2) := by decide +kernel
theorem dX6_add_21 : decode cX6_add 21 = .ok (.if_icmp .lt 6, 3) := by decide +kernel
theorem dX6_add_24 : decode cX6_add 24 = .ok (.bipush (-3), 2) := by decide +kernel
theorem dX6_add_26 : decode cX6_add 26 = .ok (.ireturn, 1) := by decide +kernel
theorem dX6_add_27 : decode cX6_add 27 = .ok (.aload_n 0, 1) := by decide +kernel
theorem dX6_add_28 : decode cX6_add 28 = .ok (.invokevirtual 52, 3) := by decide +kernel
theorem dX6_add_31 : decode cX6_add 31 = .ok (.aload_n 0, 1) := by decide +kernel
theorem dX6_add_32 : decode cX6_add 32 = .ok (.getfield 10, 3) := by decide +kernel
theorem dX6_add_35 : decode cX6_add 35 = .ok (.getfield 68, 3) := by decide +kernel
theorem dX6_add_38 : decode cX6_add 38 = .ok (.istore_n 2, 1) := by decide +kernel
theorem dX6_add_39 : decode cX6_add 39 = .ok (.aload_n 0, 1) := by decide +kernel
theorem dX6_add_40 : decode cX6_add 40 = .ok (.getfield 10, 3) := by decide +kernel
theorem dX6_add_43 : decode cX6_add 43 = .ok (.aload_n 0, 1) := by decide +kernel
theorem dX6_add_44 : decode cX6_add 44 = .ok (.getfield 10, 3) := by decide +kernel
theorem dX6_add_47 : decode cX6_add 47 = .ok (.invokevirtual 62, 3) := by decide +kernel
theorem dX6_add_50 : decode cX6_add 50 = .ok (.iconst 1, 1) := by decide +kernel
theorem dX6_add_51 : decode cX6_add 51 = .ok (.isub, 1) := by decide +kernel
theorem dX6_add_52 : decode cX6_add 52 = .ok (.invokevirtual 71, 3) := by decide +kernel
theorem dX6_add_55 : decode cX6_add 55 = .ok (.istore_n 3, 1) := by decide +kernel
theorem dX6_add_56 : decode cX6_add 56 = .ok (.aload_n 0, 1) := by decide +kernel
theorem dX6_add_57 : decode cX6_add 57 = .ok (.getfield 10, 3) := by decide +kernel
theorem dX6_add_60 : decode cX6_add 60 = .ok (.iload_n 1, 1) := by decide +kernel
theorem dX6_add_61 : decode cX6_add 61 = .ok (.invokevirtual 75, 3) := by decide +kernel
theorem dX6_add_64 : decode cX6_add 64 = .ok (.iload_n 2, 1) := by decide +kernel
theorem dX6_add_65 : decode cX6_add 65 = .ok (.ifCond .eq 32, 3) := by decide +kernel
theorem dX6_add_68 : decode cX6_add 68 = .ok (.aload_n 0, 1) := by decide +kernel
theorem dX6_add_69 : decode cX6_add 69 = .ok (.getfield 10, 3) := by decide +kernel
theorem dX6_add_72 : decode cX6_add 72 = .ok (.iload_n 3, 1) := by decide +kernel
theorem dX6_add_73 : decode cX6_add 73 = .ok (.invokevirtual 79, 3) := by decide +kernel
theorem dX6_add_76 : decode cX6_add 76 = .ok (.ifCond .ne 21, 3) := by decide +kernel
theorem dX6_add_79 : decode cX6_add 79 = .ok (.aload_n 0, 1) := by decide +kernel
theorem dX6_add_80 : decode cX6_add 80 = .ok (.getfield 10, 3) := by decide +kernel
theorem dX6_add_83 : decode cX6_add 83 = .ok (.iload_n 3, 1) := by decide +kernel
theorem dX6_add_84 : decode cX6_add 84 = .ok (.aload_n 0, 1) := by decide +kernel
theorem dX6_add_85 : decode cX6_add 85 = .ok (.getfield 10, 3) := by decide +kernel
theorem dX6_add_88 : decode cX6_add 88 = .ok (.getfield 68, 3) := by decide +kernel
theorem dX6_add_91 : decode cX6_add 91 = .ok (.invokevirtual 83, 3) := by decide +kernel
theorem dX6_add_94 : decode cX6_add 94 = .ok (.ifCond .ne 11, 3) := by decide +kernel
theorem dX6_add_97 : decode cX6_add 97 = .ok (.aload_n 0, 1) := by decide +kernel
theorem dX6_add_98 : decode cX6_add 98 = .ok (.getfield 10, 3) := by decide +kernel
theorem dX6_add_101 : decode cX6_add 101 = .ok (.iload_n 2, 1) := by decide +kernel
theorem dX6_add_102 : decode cX6_add 102 = .ok (.invokevirtual 87, 3) := by decide +kernel
theorem dX6_add_105 : decode cX6_add 105 = .ok (.iload_n 2, 1) := by decide +kernel
theorem dX6_add_106 : decode cX6_add 106 = .ok (.ireturn, 1) := by decide +kernel
set_option maxRecDepth 20000 in
theorem ggX6_remove_X1_lines : GoodIn wsX6_remove wsX1_lines := goodIn_r _ [7, 8, 9, 10, 11, 12, 13, 14, 15, 78, 79, 80, 81, 82, 83, 84] (by decide +kernel) (by decide +kernel)
set_option maxRecDepth 20000 in
theorem gX6_remove_X1_lines : GoodIn wsX6_remove (wsV RX6 62 RX1 yX1_lines wsX1_lines) := goodIn_app (goodIn_of _ (by decide +kernel)) ggX6_remove_X1_lines
set_option maxRecDepth 20000 in
theorem ggX6_remove_X1_firstOf : GoodIn wsX6_remove wsX1_firstOf := goodIn_r _ [19, 8, 9, 10, 11, 12, 13, 14, 15, 78, 79, 80, 81, 82, 83, 84] (by decide +kernel) (by decide +kernel)
set_option maxRecDepth 20000 in
theorem gX6_remove_X1_firstOf : GoodIn wsX6_remove (wsV RX6 71 RX1 yX1_firstOf wsX1_firstOf) := goodIn_app (goodIn_of _ (by decide +kernel)) ggX6_remove_X1_firstOf
set_option maxRecDepth 20000 in
theorem ggX6_remove_X1_isFrozen : GoodIn wsX6_remove wsX1_isFrozen := goodIn_r _ [23, 24, 10, 11, 12, 13, 14, 15, 78, 79, 80, 81, 82, 83, 84] (by decide +kernel) (by decide +kernel)
set_option maxRecDepth 20000 in
theorem gX6_remove_X1_isFrozen : GoodIn wsX6_remove (wsV RX6 79 RX1 yX1_isFrozen wsX1_isFrozen) := goodIn_app (goodIn_of _ (by decide +kernel)) ggX6_remove_X1_isFrozen
set_option maxRecDepth 20000 in
theorem ggX6_remove_X6_beginChange : GoodIn wsX6_remove wsX6_beginChange := goodIn_r _ [29, 30, 1, 31, 32, 33, 34, 35, 36, 37, 38, 39, 40, 41, 42, 43, 44, 45, 46, 47, 48, 49, 6, 50, 51, 52, 8, 53, 9, 24, 54, 55, 56, 13, 57, 15, 58, 11, 12, 14, 59, 60, 61, 62, 63, 64, 73, 74, 75, 76, 77, 85, 86, 78, 79, 80, 81, 82, 83, 84, 87, 88, 89, 90, 91, 92, 93, 94, 95, 96] (by decide +kernel) (by decide +kernel)
set_option maxRecDepth 20000 in
theorem gX6_remove_X6_beginChange : GoodIn wsX6_remove (wsV RX6 52 RX6 yX6_beginChange wsX6_beginChange) := goodIn_app (goodIn_of _ (by decide +kernel)) ggX6_remove_X6_beginChange
set_option maxRecDepth 20000 in
theorem ggX6_remove_X1_dropLast : GoodIn wsX6_remove wsX1_dropLast := goodIn_r _ [68, 8, 9, 69, 70, 71, 13, 72, 15, 78, 79, 80, 81, 82, 83, 84] (by decide +kernel) (by decide +kernel)
set_option maxRecDepth 20000 in
theorem gX6_remove_X1_dropLast : GoodIn wsX6_remove (wsV RX6 90 RX1 yX1_dropLast wsX1_dropLast) := goodIn_app (goodIn_of _ (by decide +kernel)) ggX6_remove_X1_dropLast
theorem dX6_remove_0 : decode cX6_remove 0 = .ok (.aload_n 0, 1) := by decide +kernel
theorem dX6_remove_1 : decode cX6_remove 1 = .ok (.getfield 10, 3) := by decide +kernel
theorem dX6_remove_4 : decode cX6_remove 4 = .ok (.getfield 68, 3) := by decide +kernel
theorem dX6_remove_7 : decode cX6_remove 7 = .ok (.ifCond .eq 29, 3) := by decide +kernel
theorem dX6_remove_10 : decode cX6_remove 10 = .ok (.aload_n 0, 1) := by decide +kernel
theorem dX6_remove_11 : decode cX6_remove 11 = .ok (.getfield 10, 3) := by decide +kernel
theorem dX6_remove_14 : decode cX6_remove 14 = .ok (.aload_n 0, 1) := by decide +kernel
theorem dX6_remove_15 : decode cX6_remove 15 = .ok (.getfield 10, 3) := by decide +kernel
theorem dX6_remove_18 : decode cX6_remove 18 = .ok (.aload_n 0, 1) := by decide +kernel
theorem dX6_remove_19 : decode cX6_remove 19 = .ok (.getfield 10, 3) := by decide +kernel
theorem dX6_remove_22 : decode cX6_remove 22 = .ok (.invokevirtual 62, 3) := by decide +kernel
theorem dX6_remove_25 : decode cX6_remove 25 = .ok (.iconst 1, 1) := by decide +kernel
theorem dX6_remove_26 : decode cX6_remove 26 = .ok (.isub, 1) := by decide +kernel
theorem dX6_remove_27 : decode cX6_remove 27 = .ok (.invokevirtual 71, 3) := by decide +kernel
theorem dX6_remove_30 : decode cX6_remove 30 = .ok (.invokevirtual 79, 3) := by decide +kernel
theorem dX6_remove_33 : decode cX6_remove 33 = .ok (.ifCond .eq 6, 3) := by decide +kernel
theorem dX6_remove_36 : decode cX6_remove 36 = .ok (.bipush (-2), 2) := by decide +kernel
theorem dX6_remove_38 : decode cX6_remove 38 = .ok (.ireturn, 1) := by decide +kernel
theorem dX6_remove_39 : decode cX6_remove 39 = .ok (.aload_n 0, 1) := by decide +kernel
theorem dX6_remove_40 : decode cX6_remove 40 = .ok (.invokevirtual 52, 3) := by decide +kernel
theorem dX6_remove_43 : decode cX6_remove 43 = .ok (.aload_n 0, 1) := by decide +kernel
theorem dX6_remove_44 : decode cX6_remove 44 = .ok (.getfield 10, 3) := by decide +kernel
theorem dX6_remove_47 : decode cX6_remove 47 = .ok (.invokevirtual 90, 3) := by decide +kernel
theorem dX6_remove_50 : decode cX6_remove 50 = .ok (.aload_n 0, 1) := by decide +kernel
theorem dX6_remove_51 : decode cX6_remove 51 = .ok (.getfield 10, 3) := by decide +kernel
theorem dX6_remove_54 : decode cX6_remove 54 = .ok (.getfield 68, 3) := by decide +kernel
theorem dX6_remove_57 : decode cX6_remove 57 = .ok (.ireturn, 1) := by decide +kernel
set_option maxRecDepth 20000 in
theorem ggX6_pull_X1_hasLine : GoodIn wsX6_pull wsX1_hasLine := goodIn_r _ [7, 8, 9, 10, 6, 11, 12, 13, 14, 15, 16, 17, 18, 19, 99, 100, 101, 102, 103, 104, 105] (by decide +kernel) (by decide +kernel)
set_option maxRecDepth 20000 in
theorem gX6_pull_X1_hasLine : GoodIn wsX6_pull (wsV RX6 93 RX1 yX1_hasLine wsX1_hasLine) := goodIn_app (goodIn_of _ (by decide +kernel)) ggX6_pull_X1_hasLine
set_option maxRecDepth 20000 in
theorem ggX6_pull_X1_firstOf : GoodIn wsX6_pull wsX1_firstOf := goodIn_r _ [23, 12, 13, 14, 15, 16, 17, 18, 19, 99, 100, 101, 102, 103, 104, 105] (by decide +kernel) (by decide +kernel)
set_option maxRecDepth 20000 in
theorem gX6_pull_X1_firstOf : GoodIn wsX6_pull (wsV RX6 71 RX1 yX1_firstOf wsX1_firstOf) := goodIn_app (goodIn_of _ (by decide +kernel)) ggX6_pull_X1_firstOf
set_option maxRecDepth 20000 in
theorem ggX6_pull_X1_endOf : GoodIn wsX6_pull wsX1_endOf := goodIn_r _ [27, 12, 13, 14, 15, 16, 17, 18, 19, 99, 100, 101, 102, 103, 104, 105] (by decide +kernel) (by decide +kernel)
set_option maxRecDepth 20000 in
theorem gX6_pull_X1_endOf : GoodIn wsX6_pull (wsV RX6 96 RX1 yX1_endOf wsX1_endOf) := goodIn_app (goodIn_of _ (by decide +kernel)) ggX6_pull_X1_endOf
set_option maxRecDepth 20000 in
theorem ggX6_pull_X1_isFrozen : GoodIn wsX6_pull wsX1_isFrozen := goodIn_r _ [31, 32, 14, 15, 16, 17, 18, 19, 99, 100, 101, 102, 103, 104, 105] (by decide +kernel) (by decide +kernel)
set_option maxRecDepth 20000 in
theorem gX6_pull_X1_isFrozen : GoodIn wsX6_pull (wsV RX6 79 RX1 yX1_isFrozen wsX1_isFrozen) := goodIn_app (goodIn_of _ (by decide +kernel)) ggX6_pull_X1_isFrozen
set_option maxRecDepth 20000 in
theorem ggX6_pull_X1_fits : GoodIn wsX6_pull wsX1_fits := goodIn_r _ [36, 37, 38, 39, 6, 40, 41, 42, 14, 15, 16, 17, 18, 19, 99, 100, 101, 102, 103, 104, 105] (by decide +kernel) (by decide +kernel)
set_option maxRecDepth 20000 in
theorem gX6_pull_X1_fits : GoodIn wsX6_pull (wsV RX6 83 RX1 yX1_fits wsX1_fits) := goodIn_app (goodIn_of _ (by decide +kernel)) ggX6_pull_X1_fits
set_option maxRecDepth 20000 in
theorem ggX6_pull_X6_beginChange : GoodIn wsX6_pull wsX6_beginChange := goodIn_r _ [47, 48, 1, 49, 50, 51, 52, 53, 54, 55, 56, 57, 58, 59, 60, 61, 62, 63, 64, 65, 66, 67, 6, 68, 41, 69, 12, 42, 13, 32, 70, 71, 72, 17, 73, 19, 74, 15, 16, 18, 75, 76, 77, 78, 79, 80, 94, 95, 96, 97, 98, 106, 107, 99, 100, 101, 102, 103, 104, 105, 108, 109, 110, 111, 112, 113, 114, 115, 116, 117] (by decide +kernel) (by decide +kernel)
set_option maxRecDepth 20000 in
theorem gX6_pull_X6_beginChange : GoodIn wsX6_pull (wsV RX6 52 RX6 yX6_beginChange wsX6_beginChange) := goodIn_app (goodIn_of _ (by decide +kernel)) ggX6_pull_X6_beginChange
set_option maxRecDepth 20000 in
theorem ggX6_pull_X1_join : GoodIn wsX6_pull wsX1_join := goodIn_r _ [84, 13, 85, 86, 87, 17, 88, 19, 99, 100, 101, 102, 103, 104, 105] (by decide +kernel) (by decide +kernel)
set_option maxRecDepth 20000 in
theorem gX6_pull_X1_join : GoodIn wsX6_pull (wsV RX6 99 RX1 yX1_join wsX1_join) := goodIn_app (goodIn_of _ (by decide +kernel)) ggX6_pull_X1_join
set_option maxRecDepth 20000 in
theorem ggX6_pull_X1_begin : GoodIn wsX6_pull wsX1_begin := goodIn_r _ [92, 12, 13, 85, 86, 87, 17, 88, 19, 99, 100, 101, 102, 103, 104, 105] (by decide +kernel) (by decide +kernel)
set_option maxRecDepth 20000 in
theorem gX6_pull_X1_begin : GoodIn wsX6_pull (wsV RX6 87 RX1 yX1_begin wsX1_begin) := goodIn_app (goodIn_of _ (by decide +kernel)) ggX6_pull_X1_begin
set_option maxRecDepth 20000 in
theorem ggX6_pull_X1_lines : GoodIn wsX6_pull wsX1_lines := goodIn_r _ [11, 12, 13, 14, 15, 16, 17, 18, 19, 99, 100, 101, 102, 103, 104, 105] (by decide +kernel) (by decide +kernel)
set_option maxRecDepth 20000 in
theorem gX6_pull_X1_lines : GoodIn wsX6_pull (wsV RX6 62 RX1 yX1_lines wsX1_lines) := goodIn_app (goodIn_of _ (by decide +kernel)) ggX6_pull_X1_lines
theorem dX6_pull_0 : decode cX6_pull 0 = .ok (.aload_n 0, 1) := by decide +kernel
theorem dX6_pull_1 : decode cX6_pull 1 = .ok (.getfield 10, 3) := by decide +kernel
theorem dX6_pull_4 : decode cX6_pull 4 = .ok (.iload_n 1, 1) := by decide +kernel
theorem dX6_pull_5 : decode cX6_pull 5 = .ok (.invokevirtual 93, 3) := by decide +kernel
theorem dX6_pull_8 : decode cX6_pull 8 = .ok (.ifCond .ne 5, 3) := by decide +kernel
theorem dX6_pull_11 : decode cX6_pull 11 = .ok (.iconst (-1), 1) := by decide +kernel
theorem dX6_pull_12 : decode cX6_pull 12 = .ok (.ireturn, 1) := by decide +kernel
theorem dX6_pull_13 : decode cX6_pull 13 = .ok (.aload_n 0, 1) := by decide +kernel
theorem dX6_pull_14 : decode cX6_pull 14 = .ok (.getfield 10, 3) := by decide +kernel
theorem dX6_pull_17 : decode cX6_pull 17 = .ok (.iload_n 1, 1) := by decide +kernel
theorem dX6_pull_18 : decode cX6_pull 18 = .ok (.invokevirtual 71, 3) := by decide +kernel
theorem dX6_pull_21 : decode cX6_pull 21 = .ok (.istore_n 2, 1) := by decide +kernel
theorem dX6_pull_22 : decode cX6_pull 22 = .ok (.aload_n 0, 1) := by decide +kernel
theorem dX6_pull_23 : decode cX6_pull 23 = .ok (.getfield 10, 3) := by decide +kernel
theorem dX6_pull_26 : decode cX6_pull 26 = .ok (.iload_n 2, 1) := by decide +kernel
theorem dX6_pull_27 : decode cX6_pull 27 = .ok (.invokevirtual 96, 3) := by decide +kernel
theorem dX6_pull_30 : decode cX6_pull 30 = .ok (.istore_n 3, 1) := by decide +kernel
theorem dX6_pull_31 : decode cX6_pull 31 = .ok (.iload_n 3, 1) := by decide +kernel
theorem dX6_pull_32 : decode cX6_pull 32 = .ok (.aload_n 0, 1) := by decide +kernel
theorem dX6_pull_33 : decode cX6_pull 33 = .ok (.getfield 10, 3) := by decide +kernel
theorem dX6_pull_36 : decode cX6_pull 36 = .ok (.getfield 68, 3) := by decide +kernel
theorem dX6_pull_39 : decode cX6_pull 39 = .ok (.if_icmp .ge 39, 3) := by decide +kernel
theorem dX6_pull_42 : decode cX6_pull 42 = .ok (.aload_n 0, 1) := by decide +kernel
theorem dX6_pull_43 : decode cX6_pull 43 = .ok (.getfield 10, 3) := by decide +kernel
theorem dX6_pull_46 : decode cX6_pull 46 = .ok (.iload_n 2, 1) := by decide +kernel
theorem dX6_pull_47 : decode cX6_pull 47 = .ok (.invokevirtual 79, 3) := by decide +kernel
theorem dX6_pull_50 : decode cX6_pull 50 = .ok (.ifCond .ne 28, 3) := by decide +kernel
theorem dX6_pull_53 : decode cX6_pull 53 = .ok (.aload_n 0, 1) := by decide +kernel
theorem dX6_pull_54 : decode cX6_pull 54 = .ok (.getfield 10, 3) := by decide +kernel
theorem dX6_pull_57 : decode cX6_pull 57 = .ok (.iload_n 3, 1) := by decide +kernel
theorem dX6_pull_58 : decode cX6_pull 58 = .ok (.invokevirtual 79, 3) := by decide +kernel
theorem dX6_pull_61 : decode cX6_pull 61 = .ok (.ifCond .ne 17, 3) := by decide +kernel
theorem dX6_pull_64 : decode cX6_pull 64 = .ok (.aload_n 0, 1) := by decide +kernel
theorem dX6_pull_65 : decode cX6_pull 65 = .ok (.getfield 10, 3) := by decide +kernel
theorem dX6_pull_68 : decode cX6_pull 68 = .ok (.iload_n 2, 1) := by decide +kernel
theorem dX6_pull_69 : decode cX6_pull 69 = .ok (.iload_n 3, 1) := by decide +kernel
theorem dX6_pull_70 : decode cX6_pull 70 = .ok (.iconst 1, 1) := by decide +kernel
theorem dX6_pull_71 : decode cX6_pull 71 = .ok (.iadd, 1) := by decide +kernel
theorem dX6_pull_72 : decode cX6_pull 72 = .ok (.invokevirtual 83, 3) := by decide +kernel
theorem dX6_pull_75 : decode cX6_pull 75 = .ok (.ifCond .ne 6, 3) := by decide +kernel
theorem dX6_pull_78 : decode cX6_pull 78 = .ok (.bipush (-2), 2) := by decide +kernel
theorem dX6_pull_80 : decode cX6_pull 80 = .ok (.ireturn, 1) := by decide +kernel
theorem dX6_pull_81 : decode cX6_pull 81 = .ok (.aload_n 0, 1) := by decide +kernel
theorem dX6_pull_82 : decode cX6_pull 82 = .ok (.invokevirtual 52, 3) := by decide +kernel
theorem dX6_pull_85 : decode cX6_pull 85 = .ok (.aload_n 0, 1) := by decide +kernel
theorem dX6_pull_86 : decode cX6_pull 86 = .ok (.getfield 10, 3) := by decide +kernel
theorem dX6_pull_89 : decode cX6_pull 89 = .ok (.iload_n 3, 1) := by decide +kernel
theorem dX6_pull_90 : decode cX6_pull 90 = .ok (.invokevirtual 99, 3) := by decide +kernel
theorem dX6_pull_93 : decode cX6_pull 93 = .ok (.aload_n 0, 1) := by decide +kernel
theorem dX6_pull_94 : decode cX6_pull 94 = .ok (.getfield 10, 3) := by decide +kernel
theorem dX6_pull_97 : decode cX6_pull 97 = .ok (.iload_n 3, 1) := by decide +kernel
theorem dX6_pull_98 : decode cX6_pull 98 = .ok (.iconst 1, 1) := by decide +kernel
theorem dX6_pull_99 : decode cX6_pull 99 = .ok (.iadd, 1) := by decide +kernel
theorem dX6_pull_100 : decode cX6_pull 100 = .ok (.invokevirtual 87, 3) := by decide +kernel
theorem dX6_pull_103 : decode cX6_pull 103 = .ok (.aload_n 0, 1) := by decide +kernel
theorem dX6_pull_104 : decode cX6_pull 104 = .ok (.getfield 10, 3) := by decide +kernel
theorem dX6_pull_107 : decode cX6_pull 107 = .ok (.invokevirtual 62, 3) := by decide +kernel
theorem dX6_pull_110 : decode cX6_pull 110 = .ok (.ireturn, 1) := by decide +kernel
set_option maxRecDepth 20000 in
theorem ggX6_push_X1_hasLine : GoodIn wsX6_push wsX1_hasLine := goodIn_r _ [7, 8, 9, 10, 6, 11, 12, 13, 14, 15, 16, 17, 18, 19, 99, 100, 101, 102, 103, 104, 105] (by decide +kernel) (by decide +kernel)
set_option maxRecDepth 20000 in
theorem gX6_push_X1_hasLine : GoodIn wsX6_push (wsV RX6 93 RX1 yX1_hasLine wsX1_hasLine) := goodIn_app (goodIn_of _ (by decide +kernel)) ggX6_push_X1_hasLine
set_option maxRecDepth 20000 in
theorem ggX6_push_X1_firstOf : GoodIn wsX6_push wsX1_firstOf := goodIn_r _ [23, 12, 13, 14, 15, 16, 17, 18, 19, 99, 100, 101, 102, 103, 104, 105] (by decide +kernel) (by decide +kernel)
set_option maxRecDepth 20000 in
theorem gX6_push_X1_firstOf : GoodIn wsX6_push (wsV RX6 71 RX1 yX1_firstOf wsX1_firstOf) := goodIn_app (goodIn_of _ (by decide +kernel)) ggX6_push_X1_firstOf
set_option maxRecDepth 20000 in
theorem ggX6_push_X1_endOf : GoodIn wsX6_push wsX1_endOf := goodIn_r _ [27, 12, 13, 14, 15, 16, 17, 18, 19, 99, 100, 101, 102, 103, 104, 105] (by decide +kernel) (by decide +kernel)
set_option maxRecDepth 20000 in
theorem gX6_push_X1_endOf : GoodIn wsX6_push (wsV RX6 96 RX1 yX1_endOf wsX1_endOf) := goodIn_app (goodIn_of _ (by decide +kernel)) ggX6_push_X1_endOf
set_option maxRecDepth 20000 in
theorem ggX6_push_X1_isFrozen : GoodIn wsX6_push wsX1_isFrozen := goodIn_r _ [31, 32, 14, 15, 16, 17, 18, 19, 99, 100, 101, 102, 103, 104, 105] (by decide +kernel) (by decide +kernel)
set_option maxRecDepth 20000 in
theorem gX6_push_X1_isFrozen : GoodIn wsX6_push (wsV RX6 79 RX1 yX1_isFrozen wsX1_isFrozen) := goodIn_app (goodIn_of _ (by decide +kernel)) ggX6_push_X1_isFrozen
set_option maxRecDepth 20000 in
theorem ggX6_push_X1_fits : GoodIn wsX6_push wsX1_fits := goodIn_r _ [36, 37, 38, 39, 6, 40, 41, 42, 14, 15, 16, 17, 18, 19, 99, 100, 101, 102, 103, 104, 105] (by decide +kernel) (by decide +kernel)
set_option maxRecDepth 20000 in
theorem gX6_push_X1_fits : GoodIn wsX6_push (wsV RX6 83 RX1 yX1_fits wsX1_fits) := goodIn_app (goodIn_of _ (by decide +kernel)) ggX6_push_X1_fits
set_option maxRecDepth 20000 in
theorem ggX6_push_X6_beginChange : GoodIn wsX6_push wsX6_beginChange := goodIn_r _ [47, 48, 1, 49, 50, 51, 52, 53, 54, 55, 56, 57, 58, 59, 60, 61, 62, 63, 64, 65, 66, 67, 6, 68, 41, 69, 12, 42, 13, 32, 70, 71, 72, 17, 73, 19, 74, 15, 16, 18, 75, 76, 77, 78, 79, 80, 94, 95, 96, 97, 98, 106, 107, 99, 100, 101, 102, 103, 104, 105, 108, 109, 110, 111, 112, 113, 114, 115, 116, 117] (by decide +kernel) (by decide +kernel)
set_option maxRecDepth 20000 in
theorem gX6_push_X6_beginChange : GoodIn wsX6_push (wsV RX6 52 RX6 yX6_beginChange wsX6_beginChange) := goodIn_app (goodIn_of _ (by decide +kernel)) ggX6_push_X6_beginChange
set_option maxRecDepth 20000 in
theorem ggX6_push_X1_begin : GoodIn wsX6_push wsX1_begin := goodIn_r _ [84, 12, 13, 85, 86, 87, 17, 88, 19, 99, 100, 101, 102, 103, 104, 105] (by decide +kernel) (by decide +kernel)
set_option maxRecDepth 20000 in
theorem gX6_push_X1_begin : GoodIn wsX6_push (wsV RX6 87 RX1 yX1_begin wsX1_begin) := goodIn_app (goodIn_of _ (by decide +kernel)) ggX6_push_X1_begin
set_option maxRecDepth 20000 in
theorem ggX6_push_X1_join : GoodIn wsX6_push wsX1_join := goodIn_r _ [92, 13, 85, 86, 87, 17, 88, 19, 99, 100, 101, 102, 103, 104, 105] (by decide +kernel) (by decide +kernel)
set_option maxRecDepth 20000 in
theorem gX6_push_X1_join : GoodIn wsX6_push (wsV RX6 99 RX1 yX1_join wsX1_join) := goodIn_app (goodIn_of _ (by decide +kernel)) ggX6_push_X1_join
set_option maxRecDepth 20000 in
theorem ggX6_push_X1_lines : GoodIn wsX6_push wsX1_lines := goodIn_r _ [11, 12, 13, 14, 15, 16, 17, 18, 19, 99, 100, 101, 102, 103, 104, 105] (by decide +kernel) (by decide +kernel)
set_option maxRecDepth 20000 in
theorem gX6_push_X1_lines : GoodIn wsX6_push (wsV RX6 62 RX1 yX1_lines wsX1_lines) := goodIn_app (goodIn_of _ (by decide +kernel)) ggX6_push_X1_lines
theorem dX6_push_0 : decode cX6_push 0 = .ok (.aload_n 0, 1) := by decide +kernel
theorem dX6_push_1 : decode cX6_push 1 = .ok (.getfield 10, 3) := by decide +kernel
theorem dX6_push_4 : decode cX6_push 4 = .ok (.iload_n 1, 1) := by decide +kernel
theorem dX6_push_5 : decode cX6_push 5 = .ok (.invokevirtual 93, 3) := by decide +kernel
theorem dX6_push_8 : decode cX6_push 8 = .ok (.ifCond .ne 5, 3) := by decide +kernel
theorem dX6_push_11 : decode cX6_push 11 = .ok (.iconst (-1), 1) := by decide +kernel
theorem dX6_push_12 : decode cX6_push 12 = .ok (.ireturn, 1) := by decide +kernel
theorem dX6_push_13 : decode cX6_push 13 = .ok (.aload_n 0, 1) := by decide +kernel
theorem dX6_push_14 : decode cX6_push 14 = .ok (.getfield 10, 3) := by decide +kernel
theorem dX6_push_17 : decode cX6_push 17 = .ok (.iload_n 1, 1) := by decide +kernel
theorem dX6_push_18 : decode cX6_push 18 = .ok (.invokevirtual 71, 3) := by decide +kernel
theorem dX6_push_21 : decode cX6_push 21 = .ok (.istore_n 2, 1) := by decide +kernel
theorem dX6_push_22 : decode cX6_push 22 = .ok (.aload_n 0, 1) := by decide +kernel
theorem dX6_push_23 : decode cX6_push 23 = .ok (.getfield 10, 3) := by decide +kernel
theorem dX6_push_26 : decode cX6_push 26 = .ok (.iload_n 2, 1) := by decide +kernel
theorem dX6_push_27 : decode cX6_push 27 = .ok (.invokevirtual 96, 3) := by decide +kernel
theorem dX6_push_30 : decode cX6_push 30 = .ok (.istore_n 3, 1) := by decide +kernel
theorem dX6_push_31 : decode cX6_push 31 = .ok (.iload_n 3, 1) := by decide +kernel
theorem dX6_push_32 : decode cX6_push 32 = .ok (.iconst 1, 1) := by decide +kernel
theorem dX6_push_33 : decode cX6_push 33 = .ok (.isub, 1) := by decide +kernel
theorem dX6_push_34 : decode cX6_push 34 = .ok (.istore 4, 2) := by decide +kernel
theorem dX6_push_36 : decode cX6_push 36 = .ok (.iload_n 3, 1) := by decide +kernel
theorem dX6_push_37 : decode cX6_push 37 = .ok (.aload_n 0, 1) := by decide +kernel
theorem dX6_push_38 : decode cX6_push 38 = .ok (.getfield 10, 3) := by decide +kernel
theorem dX6_push_41 : decode cX6_push 41 = .ok (.getfield 68, 3) := by decide +kernel
theorem dX6_push_44 : decode cX6_push 44 = .ok (.if_icmp .lt 7, 3) := by decide +kernel
theorem dX6_push_47 : decode cX6_push 47 = .ok (.iconst 1, 1) := by decide +kernel
theorem dX6_push_48 : decode cX6_push 48 = .ok (.goto 4, 3) := by decide +kernel
theorem dX6_push_51 : decode cX6_push 51 = .ok (.iconst 0, 1) := by decide +kernel
theorem dX6_push_52 : decode cX6_push 52 = .ok (.istore 5, 2) := by decide +kernel
theorem dX6_push_54 : decode cX6_push 54 = .ok (.iload 4, 2) := by decide +kernel
theorem dX6_push_56 : decode cX6_push 56 = .ok (.iload_n 2, 1) := by decide +kernel
theorem dX6_push_57 : decode cX6_push 57 = .ok (.if_icmp .eq 50, 3) := by decide +kernel
theorem dX6_push_60 : decode cX6_push 60 = .ok (.aload_n 0, 1) := by decide +kernel
theorem dX6_push_61 : decode cX6_push 61 = .ok (.getfield 10, 3) := by decide +kernel
theorem dX6_push_64 : decode cX6_push 64 = .ok (.iload_n 2, 1) := by decide +kernel
theorem dX6_push_65 : decode cX6_push 65 = .ok (.invokevirtual 79, 3) := by decide +kernel
theorem dX6_push_68 : decode cX6_push 68 = .ok (.ifCond .ne 39, 3) := by decide +kernel
theorem dX6_push_71 : decode cX6_push 71 = .ok (.iload 5, 2) := by decide +kernel
theorem dX6_push_73 : decode cX6_push 73 = .ok (.ifCond .ne 37, 3) := by decide +kernel
theorem dX6_push_76 : decode cX6_push 76 = .ok (.aload_n 0, 1) := by decide +kernel
theorem dX6_push_77 : decode cX6_push 77 = .ok (.getfield 10, 3) := by decide +kernel
theorem dX6_push_80 : decode cX6_push 80 = .ok (.iload_n 3, 1) := by decide +kernel
theorem dX6_push_81 : decode cX6_push 81 = .ok (.invokevirtual 79, 3) := by decide +kernel
theorem dX6_push_84 : decode cX6_push 84 = .ok (.ifCond .ne 23, 3) := by decide +kernel
theorem dX6_push_87 : decode cX6_push 87 = .ok (.aload_n 0, 1) := by decide +kernel
theorem dX6_push_88 : decode cX6_push 88 = .ok (.getfield 10, 3) := by decide +kernel
theorem dX6_push_91 : decode cX6_push 91 = .ok (.iload 4, 2) := by decide +kernel
theorem dX6_push_93 : decode cX6_push 93 = .ok (.aload_n 0, 1) := by decide +kernel
theorem dX6_push_94 : decode cX6_push 94 = .ok (.getfield 10, 3) := by decide +kernel
theorem dX6_push_97 : decode cX6_push 97 = .ok (.iload_n 3, 1) := by decide +kernel
theorem dX6_push_98 : decode cX6_push 98 = .ok (.invokevirtual 96, 3) := by decide +kernel
theorem dX6_push_101 : decode cX6_push 101 = .ok (.invokevirtual 83, 3) := by decide +kernel
theorem dX6_push_104 : decode cX6_push 104 = .ok (.ifCond .ne 6, 3) := by decide +kernel
theorem dX6_push_107 : decode cX6_push 107 = .ok (.bipush (-2), 2) := by decide +kernel
theorem dX6_push_109 : decode cX6_push 109 = .ok (.ireturn, 1) := by decide +kernel
theorem dX6_push_110 : decode cX6_push 110 = .ok (.aload_n 0, 1) := by decide +kernel
theorem dX6_push_111 : decode cX6_push 111 = .ok (.invokevirtual 52, 3) := by decide +kernel
theorem dX6_push_114 : decode cX6_push 114 = .ok (.aload_n 0, 1) := by decide +kernel
theorem dX6_push_115 : decode cX6_push 115 = .ok (.getfield 10, 3) := by decide +kernel
theorem dX6_push_118 : decode cX6_push 118 = .ok (.iload 4, 2) := by decide +kernel
theorem dX6_push_120 : decode cX6_push 120 = .ok (.invokevirtual 87, 3) := by decide +kernel
theorem dX6_push_123 : decode cX6_push 123 = .ok (.aload_n 0, 1) := by decide +kernel
theorem dX6_push_124 : decode cX6_push 124 = .ok (.getfield 10, 3) := by decide +kernel
theorem dX6_push_127 : decode cX6_push 127 = .ok (.iload_n 3, 1) := by decide +kernel
theorem dX6_push_128 : decode cX6_push 128 = .ok (.invokevirtual 99, 3) := by decide +kernel
theorem dX6_push_131 : decode cX6_push 131 = .ok (.aload_n 0, 1) := by decide +kernel
theorem dX6_push_132 : decode cX6_push 132 = .ok (.getfield 10, 3) := by decide +kernel
theorem dX6_push_135 : decode cX6_push 135 = .ok (.invokevirtual 62, 3) := by decide +kernel
theorem dX6_push_138 : decode cX6_push 138 = .ok (.ireturn, 1) := by decide +kernel
set_option maxRecDepth 20000 in
theorem ggX6_freeze_X1_hasLine : GoodIn wsX6_freeze wsX1_hasLine := goodIn_r _ [6, 7, 8, 9, 5, 10, 11, 12, 13, 14, 15, 16, 17, 18, 84, 85, 86, 87, 88, 89, 90] (by decide +kernel) (by decide +kernel)
set_option maxRecDepth 20000 in
theorem gX6_freeze_X1_hasLine : GoodIn wsX6_freeze (wsV RX6 93 RX1 yX1_hasLine wsX1_hasLine) := goodIn_app (goodIn_of _ (by decide +kernel)) ggX6_freeze_X1_hasLine
set_option maxRecDepth 20000 in
theorem ggX6_freeze_X6_isWithin : GoodIn wsX6_freeze wsX6_isWithin := goodIn_r _ [22] (by decide +kernel) (by decide +kernel)
set_option maxRecDepth 20000 in
theorem gX6_freeze_X6_isWithin : GoodIn wsX6_freeze (va_wsS RX6 44 yX6_isWithin wsX6_isWithin) := goodIn_app (goodIn_of _ (by decide +kernel)) ggX6_freeze_X6_isWithin
set_option maxRecDepth 20000 in
theorem ggX6_freeze_X6_beginChange : GoodIn wsX6_freeze wsX6_beginChange := goodIn_r _ [26, 27, 1, 28, 29, 30, 31, 32, 33, 34, 35, 36, 37, 38, 39, 40, 41, 42, 43, 44, 45, 46, 5, 47, 48, 49, 11, 50, 12, 51, 52, 53, 54, 16, 55, 18, 56, 14, 15, 17, 57, 58, 59, 60, 61, 62, 79, 80, 81, 82, 83, 91, 92, 84, 85, 86, 87, 88, 89, 90, 93, 94, 95, 96, 97, 98, 99, 100, 101, 102] (by decide +kernel) (by decide +kernel)
set_option maxRecDepth 20000 in
theorem gX6_freeze_X6_beginChange : GoodIn wsX6_freeze (wsV RX6 52 RX6 yX6_beginChange wsX6_beginChange) := goodIn_app (goodIn_of _ (by decide +kernel)) ggX6_freeze_X6_beginChange
set_option maxRecDepth 20000 in
theorem ggX6_freeze_X1_firstOf : GoodIn wsX6_freeze wsX1_firstOf := goodIn_r _ [66, 11, 12, 13, 14, 15, 16, 17, 18, 84, 85, 86, 87, 88, 89, 90] (by decide +kernel) (by decide +kernel)
set_option maxRecDepth 20000 in
theorem gX6_freeze_X1_firstOf : GoodIn wsX6_freeze (wsV RX6 71 RX1 yX1_firstOf wsX1_firstOf) := goodIn_app (goodIn_of _ (by decide +kernel)) ggX6_freeze_X1_firstOf
set_option maxRecDepth 20000 in
theorem ggX6_freeze_X1_isFrozen : GoodIn wsX6_freeze wsX1_isFrozen := goodIn_r _ [70, 51, 13, 14, 15, 16, 17, 18, 84, 85, 86, 87, 88, 89, 90] (by decide +kernel) (by decide +kernel)
set_option maxRecDepth 20000 in
theorem gX6_freeze_X1_isFrozen : GoodIn wsX6_freeze (wsV RX6 79 RX1 yX1_isFrozen wsX1_isFrozen) := goodIn_app (goodIn_of _ (by decide +kernel)) ggX6_freeze_X1_isFrozen
set_option maxRecDepth 20000 in
theorem ggX6_freeze_X1_setFrozen : GoodIn wsX6_freeze wsX1_setFrozen := goodIn_r _ [74, 51, 75, 76, 77, 16, 78, 18, 84, 85, 86, 87, 88, 89, 90] (by decide +kernel) (by decide +kernel)
set_option maxRecDepth 20000 in
theorem gX6_freeze_X1_setFrozen : GoodIn wsX6_freeze (wsV RX6 102 RX1 yX1_setFrozen wsX1_setFrozen) := goodIn_app (goodIn_of _ (by decide +kernel)) ggX6_freeze_X1_setFrozen
theorem dX6_freeze_0 : decode cX6_freeze 0 = .ok (.aload_n 0, 1) := by decide +kernel
theorem dX6_freeze_1 : decode cX6_freeze 1 = .ok (.getfield 10, 3) := by decide +kernel
theorem dX6_freeze_4 : decode cX6_freeze 4 = .ok (.iload_n 1, 1) := by decide +kernel
theorem dX6_freeze_5 : decode cX6_freeze 5 = .ok (.invokevirtual 93, 3) := by decide +kernel
theorem dX6_freeze_8 : decode cX6_freeze 8 = .ok (.ifCond .eq 12, 3) := by decide +kernel
theorem dX6_freeze_11 : decode cX6_freeze 11 = .ok (.iload_n 2, 1) := by decide +kernel
theorem dX6_freeze_12 : decode cX6_freeze 12 = .ok (.iconst 0, 1) := by decide +kernel
theorem dX6_freeze_13 : decode cX6_freeze 13 = .ok (.iconst 1, 1) := by decide +kernel
theorem dX6_freeze_14 : decode cX6_freeze 14 = .ok (.invokestatic 44, 3) := by decide +kernel
theorem dX6_freeze_17 : decode cX6_freeze 17 = .ok (.ifCond .ne 5, 3) := by decide +kernel
theorem dX6_freeze_20 : decode cX6_freeze 20 = .ok (.iconst (-1), 1) := by decide +kernel
theorem dX6_freeze_21 : decode cX6_freeze 21 = .ok (.ireturn, 1) := by decide +kernel
theorem dX6_freeze_22 : decode cX6_freeze 22 = .ok (.aload_n 0, 1) := by decide +kernel
theorem dX6_freeze_23 : decode cX6_freeze 23 = .ok (.invokevirtual 52, 3) := by decide +kernel
theorem dX6_freeze_26 : decode cX6_freeze 26 = .ok (.aload_n 0, 1) := by decide +kernel
theorem dX6_freeze_27 : decode cX6_freeze 27 = .ok (.getfield 10, 3) := by decide +kernel
theorem dX6_freeze_30 : decode cX6_freeze 30 = .ok (.iload_n 1, 1) := by decide +kernel
theorem dX6_freeze_31 : decode cX6_freeze 31 = .ok (.invokevirtual 71, 3) := by decide +kernel
theorem dX6_freeze_34 : decode cX6_freeze 34 = .ok (.istore_n 3, 1) := by decide +kernel
theorem dX6_freeze_35 : decode cX6_freeze 35 = .ok (.aload_n 0, 1) := by decide +kernel
theorem dX6_freeze_36 : decode cX6_freeze 36 = .ok (.getfield 10, 3) := by decide +kernel
theorem dX6_freeze_39 : decode cX6_freeze 39 = .ok (.iload_n 3, 1) := by decide +kernel
theorem dX6_freeze_40 : decode cX6_freeze 40 = .ok (.invokevirtual 79, 3) := by decide +kernel
theorem dX6_freeze_43 : decode cX6_freeze 43 = .ok (.ifCond .eq 7, 3) := by decide +kernel
theorem dX6_freeze_46 : decode cX6_freeze 46 = .ok (.iconst 1, 1) := by decide +kernel
theorem dX6_freeze_47 : decode cX6_freeze 47 = .ok (.goto 4, 3) := by decide +kernel
theorem dX6_freeze_50 : decode cX6_freeze 50 = .ok (.iconst 0, 1) := by decide +kernel
theorem dX6_freeze_51 : decode cX6_freeze 51 = .ok (.istore 4, 2) := by decide +kernel
theorem dX6_freeze_53 : decode cX6_freeze 53 = .ok (.aload_n 0, 1) := by decide +kernel
theorem dX6_freeze_54 : decode cX6_freeze 54 = .ok (.getfield 10, 3) := by decide +kernel
theorem dX6_freeze_57 : decode cX6_freeze 57 = .ok (.iload_n 3, 1) := by decide +kernel
theorem dX6_freeze_58 : decode cX6_freeze 58 = .ok (.iload_n 2, 1) := by decide +kernel
theorem dX6_freeze_59 : decode cX6_freeze 59 = .ok (.invokevirtual 102, 3) := by decide +kernel
theorem dX6_freeze_62 : decode cX6_freeze 62 = .ok (.iload 4, 2) := by decide +kernel
theorem dX6_freeze_64 : decode cX6_freeze 64 = .ok (.ireturn, 1) := by decide +kernel
set_option maxRecDepth 20000 in
theorem ggX6_reflow_X1_frozenLines : GoodIn wsX6_reflow wsX1_frozenLines := goodIn_r _ [6, 7, 8, 9, 10, 11, 12, 13, 14, 93, 94, 95, 96, 97, 98, 99] (by decide +kernel) (by decide +kernel)
set_option maxRecDepth 20000 in
theorem gX6_reflow_X1_frozenLines : GoodIn wsX6_reflow (wsV RX6 48 RX1 yX1_frozenLines wsX1_frozenLines) := goodIn_app (goodIn_of _ (by decide +kernel)) ggX6_reflow_X1_frozenLines
set_option maxRecDepth 20000 in
theorem ggX6_reflow_X6_beginChange : GoodIn wsX6_reflow wsX6_beginChange := goodIn_r _ [19, 20, 1, 21, 22, 23, 24, 25, 26, 27, 28, 29, 30, 31, 32, 33, 34, 35, 36, 37, 38, 39, 5, 40, 41, 42, 7, 43, 44, 8, 45, 46, 47, 12, 48, 14, 49, 10, 11, 13, 50, 51, 52, 53, 54, 55, 88, 89, 90, 91, 92, 100, 101, 93, 94, 95, 96, 97, 98, 99, 102, 103, 104, 105, 106, 107, 108, 109, 110, 111] (by decide +kernel) (by decide +kernel)
set_option maxRecDepth 20000 in
theorem gX6_reflow_X6_beginChange : GoodIn wsX6_reflow (wsV RX6 52 RX6 yX6_beginChange wsX6_beginChange) := goodIn_app (goodIn_of _ (by decide +kernel)) ggX6_reflow_X6_beginChange
set_option maxRecDepth 20000 in
theorem ggX6_reflow_X1_fill : GoodIn wsX6_reflow wsX1_fill := goodIn_r _ [59, 7, 60, 61, 62, 5, 63, 44, 64, 65, 66, 12, 67, 14, 68, 69, 70, 71, 72, 73, 74, 75, 41, 43, 9, 10, 11, 13, 76, 77, 78, 79, 80, 81, 82, 83, 93, 94, 95, 96, 97, 98, 99] (by decide +kernel) (by decide +kernel)
set_option maxRecDepth 20000 in
theorem gX6_reflow_X1_fill : GoodIn wsX6_reflow (wsV RX6 59 RX1 yX1_fill wsX1_fill) := goodIn_app (goodIn_of _ (by decide +kernel)) ggX6_reflow_X1_fill
set_option maxRecDepth 20000 in
theorem ggX6_reflow_X1_lines : GoodIn wsX6_reflow wsX1_lines := goodIn_r _ [87, 7, 44, 9, 10, 11, 12, 13, 14, 93, 94, 95, 96, 97, 98, 99] (by decide +kernel) (by decide +kernel)
set_option maxRecDepth 20000 in
theorem gX6_reflow_X1_lines : GoodIn wsX6_reflow (wsV RX6 62 RX1 yX1_lines wsX1_lines) := goodIn_app (goodIn_of _ (by decide +kernel)) ggX6_reflow_X1_lines
theorem dX6_reflow_0 : decode cX6_reflow 0 = .ok (.aload_n 0, 1) := by decide +kernel
theorem dX6_reflow_1 : decode cX6_reflow 1 = .ok (.getfield 10, 3) := by decide +kernel
theorem dX6_reflow_4 : decode cX6_reflow 4 = .ok (.invokevirtual 48, 3) := by decide +kernel
theorem dX6_reflow_7 : decode cX6_reflow 7 = .ok (.ifCond .le 6, 3) := by decide +kernel
theorem dX6_reflow_10 : decode cX6_reflow 10 = .ok (.bipush (-2), 2) := by decide +kernel
theorem dX6_reflow_12 : decode cX6_reflow 12 = .ok (.ireturn, 1) := by decide +kernel
theorem dX6_reflow_13 : decode cX6_reflow 13 = .ok (.aload_n 0, 1) := by decide +kernel
theorem dX6_reflow_14 : decode cX6_reflow 14 = .ok (.invokevirtual 52, 3) := by decide +kernel
theorem dX6_reflow_17 : decode cX6_reflow 17 = .ok (.aload_n 0, 1) := by decide +kernel
theorem dX6_reflow_18 : decode cX6_reflow 18 = .ok (.getfield 10, 3) := by decide +kernel
theorem dX6_reflow_21 : decode cX6_reflow 21 = .ok (.invokevirtual 59, 3) := by decide +kernel
theorem dX6_reflow_24 : decode cX6_reflow 24 = .ok (.aload_n 0, 1) := by decide +kernel
theorem dX6_reflow_25 : decode cX6_reflow 25 = .ok (.getfield 10, 3) := by decide +kernel
theorem dX6_reflow_28 : decode cX6_reflow 28 = .ok (.invokevirtual 62, 3) := by decide +kernel
theorem dX6_reflow_31 : decode cX6_reflow 31 = .ok (.ireturn, 1) := by decide +kernel
set_option maxRecDepth 20000 in
theorem ggX6_count_X4_layAll : GoodIn wsX6_count wsX4_layAll := goodIn_r _ [14, 15, 16, 17, 18, 19, 20, 21, 22, 23, 24, 25, 26, 27, 28, 29, 30, 31, 13, 32, 33, 34, 35, 36, 37, 38, 39, 40, 41, 42, 43, 44, 45, 46, 47, 48, 49, 50, 51, 52, 53, 54, 55, 56, 57, 58, 59, 60, 61, 62, 63, 64, 65, 66, 67, 68, 69, 70, 120, 121, 122, 123, 124, 125, 130, 131, 132, 133, 134] (by decide +kernel) (by decide +kernel)
set_option maxRecDepth 20000 in
theorem gX6_count_X4_layAll : GoodIn wsX6_count (wsV RX6 106 RX4 yX4_layAll wsX4_layAll) := goodIn_app (goodIn_of _ (by decide +kernel)) ggX6_count_X4_layAll
set_option maxRecDepth 20000 in
theorem ggX6_count_X1_lines : GoodIn wsX6_count wsX1_lines := goodIn_r _ [74, 21, 22, 23, 24, 25, 26, 27, 28, 120, 121, 122, 123, 124, 125, 130] (by decide +kernel) (by decide +kernel)
set_option maxRecDepth 20000 in
theorem gX6_count_X1_lines : GoodIn wsX6_count (wsV RX6 62 RX1 yX1_lines wsX1_lines) := goodIn_app (goodIn_of _ (by decide +kernel)) ggX6_count_X1_lines
set_option maxRecDepth 20000 in
theorem ggX6_count_X1_badnessOfAll : GoodIn wsX6_count wsX1_badnessOfAll := goodIn_r _ [78, 21, 22, 23, 24, 25, 26, 27, 28, 79, 17, 18, 19, 20, 80, 81, 82, 83, 84, 46, 47, 48, 49, 50, 120, 121, 122, 123, 124, 125, 130] (by decide +kernel) (by decide +kernel)
set_option maxRecDepth 20000 in
theorem gX6_count_X1_badnessOfAll : GoodIn wsX6_count (wsV RX6 110 RX1 yX1_badnessOfAll wsX1_badnessOfAll) := goodIn_app (goodIn_of _ (by decide +kernel)) ggX6_count_X1_badnessOfAll
set_option maxRecDepth 20000 in
theorem ggX6_count_X4_greatestReach : GoodIn wsX6_count wsX4_greatestReach := goodIn_r _ [88, 33, 34, 35, 36, 37, 70, 24, 25, 26, 27, 28, 131, 132, 133, 134, 130] (by decide +kernel) (by decide +kernel)
set_option maxRecDepth 20000 in
theorem gX6_count_X4_greatestReach : GoodIn wsX6_count (wsV RX6 113 RX4 yX4_greatestReach wsX4_greatestReach) := goodIn_app (goodIn_of _ (by decide +kernel)) ggX6_count_X4_greatestReach
set_option maxRecDepth 20000 in
theorem ggX6_count_X4_joints : GoodIn wsX6_count wsX4_joints := goodIn_r _ [92, 15, 93, 94, 95, 19, 96, 21, 22, 23, 24, 25, 26, 27, 28, 97, 98, 99, 100, 101, 102, 103, 13, 104, 63, 64, 65, 66, 43, 44, 34, 35, 36, 37, 67, 68, 69, 70, 120, 121, 122, 123, 124, 125, 130, 131, 132, 133, 134] (by decide +kernel) (by decide +kernel)
set_option maxRecDepth 20000 in
theorem gX6_count_X4_joints : GoodIn wsX6_count (wsV RX6 117 RX4 yX4_joints wsX4_joints) := goodIn_app (goodIn_of _ (by decide +kernel)) ggX6_count_X4_joints
set_option maxRecDepth 20000 in
theorem ggX6_count_X1_frozenLines : GoodIn wsX6_count wsX1_frozenLines := goodIn_r _ [108, 21, 109, 23, 24, 25, 26, 27, 28, 120, 121, 122, 123, 124, 125, 130] (by decide +kernel) (by decide +kernel)
set_option maxRecDepth 20000 in
theorem gX6_count_X1_frozenLines : GoodIn wsX6_count (wsV RX6 48 RX1 yX1_frozenLines wsX1_frozenLines) := goodIn_app (goodIn_of _ (by decide +kernel)) ggX6_count_X1_frozenLines
set_option maxRecDepth 20000 in
theorem ggX6_count_X4_gapsOfGreatestReach : GoodIn wsX6_count wsX4_gapsOfGreatestReach := goodIn_r _ [113, 33, 114, 86, 87, 13, 88, 34, 35, 36, 37, 70, 24, 25, 26, 27, 28, 131, 132, 133, 134, 130] (by decide +kernel) (by decide +kernel)
set_option maxRecDepth 20000 in
theorem gX6_count_X4_gapsOfGreatestReach : GoodIn wsX6_count (wsV RX6 127 RX4 yX4_gapsOfGreatestReach wsX4_gapsOfGreatestReach) := goodIn_app (goodIn_of _ (by decide +kernel)) ggX6_count_X4_gapsOfGreatestReach
theorem dX6_count_0 : decode cX6_count 0 = .ok (.aload_n 0, 1) := by decide +kernel
theorem dX6_count_1 : decode cX6_count 1 = .ok (.getfield 26, 3) := by decide +kernel
theorem dX6_count_4 : decode cX6_count 4 = .ok (.aload_n 0, 1) := by decide +kernel
theorem dX6_count_5 : decode cX6_count 5 = .ok (.getfield 10, 3) := by decide +kernel
theorem dX6_count_8 : decode cX6_count 8 = .ok (.invokevirtual 106, 3) := by decide +kernel
theorem dX6_count_11 : decode cX6_count 11 = .ok (.iload_n 1, 1) := by decide +kernel
theorem dX6_count_12 : decode cX6_count 12 = .ok (.tableswitch 187 0 11 #[64, 72, 80, 88, 96, 104, 120, 136, 148, 156, 164, 172], 64) := by decide +kernel
theorem dX6_count_76 : decode cX6_count 76 = .ok (.aload_n 0, 1) := by decide +kernel
theorem dX6_count_77 : decode cX6_count 77 = .ok (.getfield 10, 3) := by decide +kernel
theorem dX6_count_80 : decode cX6_count 80 = .ok (.getfield 68, 3) := by decide +kernel
theorem dX6_count_83 : decode cX6_count 83 = .ok (.ireturn, 1) := by decide +kernel
theorem dX6_count_84 : decode cX6_count 84 = .ok (.aload_n 0, 1) := by decide +kernel
theorem dX6_count_85 : decode cX6_count 85 = .ok (.getfield 10, 3) := by decide +kernel
theorem dX6_count_88 : decode cX6_count 88 = .ok (.invokevirtual 62, 3) := by decide +kernel
theorem dX6_count_91 : decode cX6_count 91 = .ok (.ireturn, 1) := by decide +kernel
theorem dX6_count_92 : decode cX6_count 92 = .ok (.aload_n 0, 1) := by decide +kernel
theorem dX6_count_93 : decode cX6_count 93 = .ok (.getfield 10, 3) := by decide +kernel
theorem dX6_count_96 : decode cX6_count 96 = .ok (.getfield 55, 3) := by decide +kernel
theorem dX6_count_99 : decode cX6_count 99 = .ok (.ireturn, 1) := by decide +kernel
theorem dX6_count_100 : decode cX6_count 100 = .ok (.aload_n 0, 1) := by decide +kernel
theorem dX6_count_101 : decode cX6_count 101 = .ok (.getfield 10, 3) := by decide +kernel
theorem dX6_count_104 : decode cX6_count 104 = .ok (.getfield 65, 3) := by decide +kernel
theorem dX6_count_107 : decode cX6_count 107 = .ok (.ireturn, 1) := by decide +kernel
theorem dX6_count_108 : decode cX6_count 108 = .ok (.aload_n 0, 1) := by decide +kernel
theorem dX6_count_109 : decode cX6_count 109 = .ok (.getfield 10, 3) := by decide +kernel
theorem dX6_count_112 : decode cX6_count 112 = .ok (.invokevirtual 110, 3) := by decide +kernel
theorem dX6_count_115 : decode cX6_count 115 = .ok (.ireturn, 1) := by decide +kernel
theorem dX6_count_116 : decode cX6_count 116 = .ok (.aload_n 0, 1) := by decide +kernel
theorem dX6_count_117 : decode cX6_count 117 = .ok (.getfield 26, 3) := by decide +kernel
theorem dX6_count_120 : decode cX6_count 120 = .ok (.iconst 0, 1) := by decide +kernel
theorem dX6_count_121 : decode cX6_count 121 = .ok (.aload_n 0, 1) := by decide +kernel
theorem dX6_count_122 : decode cX6_count 122 = .ok (.getfield 10, 3) := by decide +kernel
theorem dX6_count_125 : decode cX6_count 125 = .ok (.getfield 68, 3) := by decide +kernel
theorem dX6_count_128 : decode cX6_count 128 = .ok (.invokevirtual 113, 3) := by decide +kernel
theorem dX6_count_131 : decode cX6_count 131 = .ok (.ireturn, 1) := by decide +kernel
theorem dX6_count_132 : decode cX6_count 132 = .ok (.aload_n 0, 1) := by decide +kernel
theorem dX6_count_133 : decode cX6_count 133 = .ok (.getfield 10, 3) := by decide +kernel
theorem dX6_count_136 : decode cX6_count 136 = .ok (.getfield 68, 3) := by decide +kernel
theorem dX6_count_139 : decode cX6_count 139 = .ok (.aload_n 0, 1) := by decide +kernel
theorem dX6_count_140 : decode cX6_count 140 = .ok (.getfield 10, 3) := by decide +kernel
theorem dX6_count_143 : decode cX6_count 143 = .ok (.invokevirtual 62, 3) := by decide +kernel
theorem dX6_count_146 : decode cX6_count 146 = .ok (.isub, 1) := by decide +kernel
theorem dX6_count_147 : decode cX6_count 147 = .ok (.ireturn, 1) := by decide +kernel
theorem dX6_count_148 : decode cX6_count 148 = .ok (.aload_n 0, 1) := by decide +kernel
theorem dX6_count_149 : decode cX6_count 149 = .ok (.getfield 26, 3) := by decide +kernel
theorem dX6_count_152 : decode cX6_count 152 = .ok (.aload_n 0, 1) := by decide +kernel
theorem dX6_count_153 : decode cX6_count 153 = .ok (.getfield 10, 3) := by decide +kernel
theorem dX6_count_156 : decode cX6_count 156 = .ok (.invokevirtual 117, 3) := by decide +kernel
theorem dX6_count_159 : decode cX6_count 159 = .ok (.ireturn, 1) := by decide +kernel
theorem dX6_count_160 : decode cX6_count 160 = .ok (.aload_n 0, 1) := by decide +kernel
theorem dX6_count_161 : decode cX6_count 161 = .ok (.getfield 10, 3) := by decide +kernel
theorem dX6_count_164 : decode cX6_count 164 = .ok (.invokevirtual 48, 3) := by decide +kernel
theorem dX6_count_167 : decode cX6_count 167 = .ok (.ireturn, 1) := by decide +kernel
theorem dX6_count_168 : decode cX6_count 168 = .ok (.aload_n 0, 1) := by decide +kernel
theorem dX6_count_169 : decode cX6_count 169 = .ok (.getfield 19, 3) := by decide +kernel
theorem dX6_count_172 : decode cX6_count 172 = .ok (.getfield 121, 3) := by decide +kernel
theorem dX6_count_175 : decode cX6_count 175 = .ok (.ireturn, 1) := by decide +kernel
theorem dX6_count_176 : decode cX6_count 176 = .ok (.aload_n 0, 1) := by decide +kernel
theorem dX6_count_177 : decode cX6_count 177 = .ok (.getfield 40, 3) := by decide +kernel
theorem dX6_count_180 : decode cX6_count 180 = .ok (.getfield 124, 3) := by decide +kernel
theorem dX6_count_183 : decode cX6_count 183 = .ok (.ireturn, 1) := by decide +kernel
theorem dX6_count_184 : decode cX6_count 184 = .ok (.aload_n 0, 1) := by decide +kernel
theorem dX6_count_185 : decode cX6_count 185 = .ok (.getfield 26, 3) := by decide +kernel
theorem dX6_count_188 : decode cX6_count 188 = .ok (.aload_n 0, 1) := by decide +kernel
theorem dX6_count_189 : decode cX6_count 189 = .ok (.getfield 10, 3) := by decide +kernel
theorem dX6_count_192 : decode cX6_count 192 = .ok (.getfield 68, 3) := by decide +kernel
theorem dX6_count_195 : decode cX6_count 195 = .ok (.invokevirtual 127, 3) := by decide +kernel
theorem dX6_count_198 : decode cX6_count 198 = .ok (.ireturn, 1) := by decide +kernel
theorem dX6_count_199 : decode cX6_count 199 = .ok (.iconst (-1), 1) := by decide +kernel
theorem dX6_count_200 : decode cX6_count 200 = .ok (.ireturn, 1) := by decide +kernel
set_option maxRecDepth 20000 in
theorem ggX6_word_X6_isWithin : GoodIn wsX6_word wsX6_isWithin := goodIn_r _ [7] (by decide +kernel) (by decide +kernel)
set_option maxRecDepth 20000 in
theorem gX6_word_X6_isWithin : GoodIn wsX6_word (va_wsS RX6 44 yX6_isWithin wsX6_isWithin) := goodIn_app (goodIn_of _ (by decide +kernel)) ggX6_word_X6_isWithin
set_option maxRecDepth 20000 in
theorem ggX6_word_X4_layAll : GoodIn wsX6_word wsX4_layAll := goodIn_r _ [12, 13, 14, 15, 16, 17, 18, 19, 20, 21, 22, 23, 24, 25, 26, 27, 28, 29, 11, 30, 31, 32, 33, 34, 35, 36, 37, 38, 39, 40, 41, 42, 43, 44, 45, 46, 47, 48, 49, 50, 51, 52, 53, 54, 55, 56, 57, 58, 59, 60, 61, 62, 63, 64, 65, 66, 67, 68, 83, 84, 85, 86, 87, 88, 89, 90, 91, 92, 93] (by decide +kernel) (by decide +kernel)
set_option maxRecDepth 20000 in
theorem gX6_word_X4_layAll : GoodIn wsX6_word (wsV RX6 106 RX4 yX4_layAll wsX4_layAll) := goodIn_app (goodIn_of _ (by decide +kernel)) ggX6_word_X4_layAll
set_option maxRecDepth 20000 in
theorem ggX6_word_X1_lengthOf : GoodIn wsX6_word wsX1_lengthOf := goodIn_r _ [56, 48, 21, 22, 23, 24, 25, 26, 83, 84, 85, 86, 87, 88, 89] (by decide +kernel) (by decide +kernel)
set_option maxRecDepth 20000 in
theorem gX6_word_X1_lengthOf : GoodIn wsX6_word (wsV RX6 130 RX1 yX1_lengthOf wsX1_lengthOf) := goodIn_app (goodIn_of _ (by decide +kernel)) ggX6_word_X1_lengthOf
set_option maxRecDepth 20000 in
theorem ggX6_word_X1_lineOf : GoodIn wsX6_word wsX1_lineOf := goodIn_r _ [73, 19, 20, 21, 22, 23, 24, 25, 26, 83, 84, 85, 86, 87, 88, 89] (by decide +kernel) (by decide +kernel)
set_option maxRecDepth 20000 in
theorem gX6_word_X1_lineOf : GoodIn wsX6_word (wsV RX6 133 RX1 yX1_lineOf wsX1_lineOf) := goodIn_app (goodIn_of _ (by decide +kernel)) ggX6_word_X1_lineOf
set_option maxRecDepth 20000 in
theorem ggX6_word_X4_columnOf : GoodIn wsX6_word wsX4_columnOf := goodIn_r _ [77, 40, 68, 22, 23, 24, 25, 26, 90, 91, 92, 93, 89] (by decide +kernel) (by decide +kernel)
set_option maxRecDepth 20000 in
theorem gX6_word_X4_columnOf : GoodIn wsX6_word (wsV RX6 136 RX4 yX4_columnOf wsX4_columnOf) := goodIn_app (goodIn_of _ (by decide +kernel)) ggX6_word_X4_columnOf
theorem dX6_word_0 : decode cX6_word 0 = .ok (.iload_n 1, 1) := by decide +kernel
theorem dX6_word_1 : decode cX6_word 1 = .ok (.iconst 0, 1) := by decide +kernel
theorem dX6_word_2 : decode cX6_word 2 = .ok (.aload_n 0, 1) := by decide +kernel
theorem dX6_word_3 : decode cX6_word 3 = .ok (.getfield 10, 3) := by decide +kernel
theorem dX6_word_6 : decode cX6_word 6 = .ok (.getfield 68, 3) := by decide +kernel
theorem dX6_word_9 : decode cX6_word 9 = .ok (.iconst 1, 1) := by decide +kernel
theorem dX6_word_10 : decode cX6_word 10 = .ok (.isub, 1) := by decide +kernel
theorem dX6_word_11 : decode cX6_word 11 = .ok (.invokestatic 44, 3) := by decide +kernel
theorem dX6_word_14 : decode cX6_word 14 = .ok (.ifCond .ne 5, 3) := by decide +kernel
theorem dX6_word_17 : decode cX6_word 17 = .ok (.iconst (-1), 1) := by decide +kernel
theorem dX6_word_18 : decode cX6_word 18 = .ok (.ireturn, 1) := by decide +kernel
theorem dX6_word_19 : decode cX6_word 19 = .ok (.aload_n 0, 1) := by decide +kernel
theorem dX6_word_20 : decode cX6_word 20 = .ok (.getfield 26, 3) := by decide +kernel
theorem dX6_word_23 : decode cX6_word 23 = .ok (.aload_n 0, 1) := by decide +kernel
theorem dX6_word_24 : decode cX6_word 24 = .ok (.getfield 10, 3) := by decide +kernel
theorem dX6_word_27 : decode cX6_word 27 = .ok (.invokevirtual 106, 3) := by decide +kernel
theorem dX6_word_30 : decode cX6_word 30 = .ok (.iload_n 2, 1) := by decide +kernel
theorem dX6_word_31 : decode cX6_word 31 = .ok (.tableswitch 52 0 2 #[25, 34, 43], 25) := by decide +kernel
theorem dX6_word_56 : decode cX6_word 56 = .ok (.aload_n 0, 1) := by decide +kernel
theorem dX6_word_57 : decode cX6_word 57 = .ok (.getfield 10, 3) := by decide +kernel
theorem dX6_word_60 : decode cX6_word 60 = .ok (.iload_n 1, 1) := by decide +kernel
theorem dX6_word_61 : decode cX6_word 61 = .ok (.invokevirtual 130, 3) := by decide +kernel
theorem dX6_word_64 : decode cX6_word 64 = .ok (.ireturn, 1) := by decide +kernel
theorem dX6_word_65 : decode cX6_word 65 = .ok (.aload_n 0, 1) := by decide +kernel
theorem dX6_word_66 : decode cX6_word 66 = .ok (.getfield 10, 3) := by decide +kernel
theorem dX6_word_69 : decode cX6_word 69 = .ok (.iload_n 1, 1) := by decide +kernel
theorem dX6_word_70 : decode cX6_word 70 = .ok (.invokevirtual 133, 3) := by decide +kernel
theorem dX6_word_73 : decode cX6_word 73 = .ok (.ireturn, 1) := by decide +kernel
theorem dX6_word_74 : decode cX6_word 74 = .ok (.aload_n 0, 1) := by decide +kernel
theorem dX6_word_75 : decode cX6_word 75 = .ok (.getfield 26, 3) := by decide +kernel
theorem dX6_word_78 : decode cX6_word 78 = .ok (.iload_n 1, 1) := by decide +kernel
theorem dX6_word_79 : decode cX6_word 79 = .ok (.invokevirtual 136, 3) := by decide +kernel
theorem dX6_word_82 : decode cX6_word 82 = .ok (.ireturn, 1) := by decide +kernel
theorem dX6_word_83 : decode cX6_word 83 = .ok (.iconst (-1), 1) := by decide +kernel
theorem dX6_word_84 : decode cX6_word 84 = .ok (.ireturn, 1) := by decide +kernel
set_option maxRecDepth 20000 in
theorem ggX6_line_X1_hasLine : GoodIn wsX6_line wsX1_hasLine := goodIn_r _ [7, 8, 9, 10, 6, 11, 12, 13, 14, 15, 16, 17, 18, 19, 97, 98, 99, 100, 101, 102, 103] (by decide +kernel) (by decide +kernel)
set_option maxRecDepth 20000 in
theorem gX6_line_X1_hasLine : GoodIn wsX6_line (wsV RX6 93 RX1 yX1_hasLine wsX1_hasLine) := goodIn_app (goodIn_of _ (by decide +kernel)) ggX6_line_X1_hasLine
set_option maxRecDepth 20000 in
theorem ggX6_line_X1_firstOf : GoodIn wsX6_line wsX1_firstOf := goodIn_r _ [23, 12, 13, 14, 15, 16, 17, 18, 19, 97, 98, 99, 100, 101, 102, 103] (by decide +kernel) (by decide +kernel)
set_option maxRecDepth 20000 in
theorem gX6_line_X1_firstOf : GoodIn wsX6_line (wsV RX6 71 RX1 yX1_firstOf wsX1_firstOf) := goodIn_app (goodIn_of _ (by decide +kernel)) ggX6_line_X1_firstOf
set_option maxRecDepth 20000 in
theorem ggX6_line_X1_endOf : GoodIn wsX6_line wsX1_endOf := goodIn_r _ [27, 12, 13, 14, 15, 16, 17, 18, 19, 97, 98, 99, 100, 101, 102, 103] (by decide +kernel) (by decide +kernel)
set_option maxRecDepth 20000 in
theorem gX6_line_X1_endOf : GoodIn wsX6_line (wsV RX6 96 RX1 yX1_endOf wsX1_endOf) := goodIn_app (goodIn_of _ (by decide +kernel)) ggX6_line_X1_endOf
set_option maxRecDepth 20000 in
theorem ggX6_line_X4_layAll : GoodIn wsX6_line wsX4_layAll := goodIn_r _ [32, 33, 34, 25, 26, 6, 27, 12, 13, 14, 15, 16, 17, 18, 19, 35, 36, 37, 31, 38, 39, 40, 41, 42, 43, 44, 45, 46, 47, 48, 49, 50, 51, 52, 53, 54, 55, 56, 57, 58, 59, 60, 61, 62, 63, 64, 65, 66, 67, 68, 69, 70, 71, 72, 73, 74, 75, 76, 97, 98, 99, 100, 101, 102, 103, 104, 105, 106, 107] (by decide +kernel) (by decide +kernel)
set_option maxRecDepth 20000 in
theorem gX6_line_X4_layAll : GoodIn wsX6_line (wsV RX6 106 RX4 yX4_layAll wsX4_layAll) := goodIn_app (goodIn_of _ (by decide +kernel)) ggX6_line_X4_layAll
set_option maxRecDepth 20000 in
theorem ggX6_line_X1_extra : GoodIn wsX6_line wsX1_extra := goodIn_r _ [54, 55, 56, 14, 15, 16, 17, 18, 19, 97, 98, 99, 100, 101, 102, 103] (by decide +kernel) (by decide +kernel)
set_option maxRecDepth 20000 in
theorem gX6_line_X1_extra : GoodIn wsX6_line (wsV RX6 139 RX1 yX1_extra wsX1_extra) := goodIn_app (goodIn_of _ (by decide +kernel)) ggX6_line_X1_extra
set_option maxRecDepth 20000 in
theorem ggX6_line_X1_badness : GoodIn wsX6_line wsX1_badness := goodIn_r _ [81, 12, 82, 52, 53, 6, 54, 55, 56, 14, 15, 16, 17, 18, 19, 97, 98, 99, 100, 101, 102, 103] (by decide +kernel) (by decide +kernel)
set_option maxRecDepth 20000 in
theorem gX6_line_X1_badness : GoodIn wsX6_line (wsV RX6 142 RX1 yX1_badness wsX1_badness) := goodIn_app (goodIn_of _ (by decide +kernel)) ggX6_line_X1_badness
set_option maxRecDepth 20000 in
theorem ggX6_line_X1_isFrozen : GoodIn wsX6_line wsX1_isFrozen := goodIn_r _ [86, 87, 14, 15, 16, 17, 18, 19, 97, 98, 99, 100, 101, 102, 103] (by decide +kernel) (by decide +kernel)
set_option maxRecDepth 20000 in
theorem gX6_line_X1_isFrozen : GoodIn wsX6_line (wsV RX6 79 RX1 yX1_isFrozen wsX1_isFrozen) := goodIn_app (goodIn_of _ (by decide +kernel)) ggX6_line_X1_isFrozen
set_option maxRecDepth 20000 in
theorem ggX6_line_X4_greatestReach : GoodIn wsX6_line wsX4_greatestReach := goodIn_r _ [91, 39, 40, 41, 42, 43, 76, 15, 16, 17, 18, 19, 104, 105, 106, 107, 103] (by decide +kernel) (by decide +kernel)
set_option maxRecDepth 20000 in
theorem gX6_line_X4_greatestReach : GoodIn wsX6_line (wsV RX6 113 RX4 yX4_greatestReach wsX4_greatestReach) := goodIn_app (goodIn_of _ (by decide +kernel)) ggX6_line_X4_greatestReach
theorem dX6_line_0 : decode cX6_line 0 = .ok (.aload_n 0, 1) := by decide +kernel
theorem dX6_line_1 : decode cX6_line 1 = .ok (.getfield 10, 3) := by decide +kernel
theorem dX6_line_4 : decode cX6_line 4 = .ok (.iload_n 1, 1) := by decide +kernel
theorem dX6_line_5 : decode cX6_line 5 = .ok (.invokevirtual 93, 3) := by decide +kernel
theorem dX6_line_8 : decode cX6_line 8 = .ok (.ifCond .ne 5, 3) := by decide +kernel
theorem dX6_line_11 : decode cX6_line 11 = .ok (.iconst (-1), 1) := by decide +kernel
theorem dX6_line_12 : decode cX6_line 12 = .ok (.ireturn, 1) := by decide +kernel
theorem dX6_line_13 : decode cX6_line 13 = .ok (.aload_n 0, 1) := by decide +kernel
theorem dX6_line_14 : decode cX6_line 14 = .ok (.getfield 10, 3) := by decide +kernel
theorem dX6_line_17 : decode cX6_line 17 = .ok (.iload_n 1, 1) := by decide +kernel
theorem dX6_line_18 : decode cX6_line 18 = .ok (.invokevirtual 71, 3) := by decide +kernel
theorem dX6_line_21 : decode cX6_line 21 = .ok (.istore_n 3, 1) := by decide +kernel
theorem dX6_line_22 : decode cX6_line 22 = .ok (.aload_n 0, 1) := by decide +kernel
theorem dX6_line_23 : decode cX6_line 23 = .ok (.getfield 10, 3) := by decide +kernel
theorem dX6_line_26 : decode cX6_line 26 = .ok (.iload_n 3, 1) := by decide +kernel
theorem dX6_line_27 : decode cX6_line 27 = .ok (.invokevirtual 96, 3) := by decide +kernel
theorem dX6_line_30 : decode cX6_line 30 = .ok (.istore 4, 2) := by decide +kernel
theorem dX6_line_32 : decode cX6_line 32 = .ok (.aload_n 0, 1) := by decide +kernel
theorem dX6_line_33 : decode cX6_line 33 = .ok (.getfield 26, 3) := by decide +kernel
theorem dX6_line_36 : decode cX6_line 36 = .ok (.aload_n 0, 1) := by decide +kernel
theorem dX6_line_37 : decode cX6_line 37 = .ok (.getfield 10, 3) := by decide +kernel
theorem dX6_line_40 : decode cX6_line 40 = .ok (.invokevirtual 106, 3) := by decide +kernel
theorem dX6_line_43 : decode cX6_line 43 = .ok (.iload_n 2, 1) := by decide +kernel
theorem dX6_line_44 : decode cX6_line 44 = .ok (.tableswitch 108 0 6 #[44, 46, 51, 62, 73, 80, 97], 44) := by decide +kernel
theorem dX6_line_88 : decode cX6_line 88 = .ok (.iload_n 3, 1) := by decide +kernel
theorem dX6_line_89 : decode cX6_line 89 = .ok (.ireturn, 1) := by decide +kernel
theorem dX6_line_90 : decode cX6_line 90 = .ok (.iload 4, 2) := by decide +kernel
theorem dX6_line_92 : decode cX6_line 92 = .ok (.iload_n 3, 1) := by decide +kernel
theorem dX6_line_93 : decode cX6_line 93 = .ok (.isub, 1) := by decide +kernel
theorem dX6_line_94 : decode cX6_line 94 = .ok (.ireturn, 1) := by decide +kernel
theorem dX6_line_95 : decode cX6_line 95 = .ok (.aload_n 0, 1) := by decide +kernel
theorem dX6_line_96 : decode cX6_line 96 = .ok (.getfield 10, 3) := by decide +kernel
theorem dX6_line_99 : decode cX6_line 99 = .ok (.iload_n 3, 1) := by decide +kernel
theorem dX6_line_100 : decode cX6_line 100 = .ok (.iload 4, 2) := by decide +kernel
theorem dX6_line_102 : decode cX6_line 102 = .ok (.invokevirtual 139, 3) := by decide +kernel
theorem dX6_line_105 : decode cX6_line 105 = .ok (.ireturn, 1) := by decide +kernel
theorem dX6_line_106 : decode cX6_line 106 = .ok (.aload_n 0, 1) := by decide +kernel
theorem dX6_line_107 : decode cX6_line 107 = .ok (.getfield 10, 3) := by decide +kernel
theorem dX6_line_110 : decode cX6_line 110 = .ok (.iload_n 3, 1) := by decide +kernel
theorem dX6_line_111 : decode cX6_line 111 = .ok (.iload 4, 2) := by decide +kernel
theorem dX6_line_113 : decode cX6_line 113 = .ok (.invokevirtual 142, 3) := by decide +kernel
theorem dX6_line_116 : decode cX6_line 116 = .ok (.ireturn, 1) := by decide +kernel
theorem dX6_line_117 : decode cX6_line 117 = .ok (.iload 4, 2) := by decide +kernel
theorem dX6_line_119 : decode cX6_line 119 = .ok (.iload_n 3, 1) := by decide +kernel
theorem dX6_line_120 : decode cX6_line 120 = .ok (.isub, 1) := by decide +kernel
theorem dX6_line_121 : decode cX6_line 121 = .ok (.iconst 1, 1) := by decide +kernel
theorem dX6_line_122 : decode cX6_line 122 = .ok (.isub, 1) := by decide +kernel
theorem dX6_line_123 : decode cX6_line 123 = .ok (.ireturn, 1) := by decide +kernel
theorem dX6_line_124 : decode cX6_line 124 = .ok (.aload_n 0, 1) := by decide +kernel
theorem dX6_line_125 : decode cX6_line 125 = .ok (.getfield 10, 3) := by decide +kernel
theorem dX6_line_128 : decode cX6_line 128 = .ok (.iload_n 3, 1) := by decide +kernel
theorem dX6_line_129 : decode cX6_line 129 = .ok (.invokevirtual 79, 3) := by decide +kernel
theorem dX6_line_132 : decode cX6_line 132 = .ok (.ifCond .eq 7, 3) := by decide +kernel
end
section
theorem dX6_line_135 : decode cX6_line 135 = .ok (.iconst 1, 1) := by decide +kernel
theorem dX6_line_136 : decode cX6_line 136 = .ok (.goto 4, 3) := by decide +kernel
theorem dX6_line_139 : decode cX6_line 139 = .ok (.iconst 0, 1) := by decide +kernel
theorem dX6_line_140 : decode cX6_line 140 = .ok (.ireturn, 1) := by decide +kernel
theorem dX6_line_141 : decode cX6_line 141 = .ok (.aload_n 0, 1) := by decide +kernel
theorem dX6_line_142 : decode cX6_line 142 = .ok (.getfield 26, 3) := by decide +kernel
theorem dX6_line_145 : decode cX6_line 145 = .ok (.iload_n 3, 1) := by decide +kernel
theorem dX6_line_146 : decode cX6_line 146 = .ok (.iload 4, 2) := by decide +kernel
theorem dX6_line_148 : decode cX6_line 148 = .ok (.invokevirtual 113, 3) := by decide +kernel
theorem dX6_line_151 : decode cX6_line 151 = .ok (.ireturn, 1) := by decide +kernel
theorem dX6_line_152 : decode cX6_line 152 = .ok (.iconst (-1), 1) := by decide +kernel
theorem dX6_line_153 : decode cX6_line 153 = .ok (.ireturn, 1) := by decide +kernel
set_option maxRecDepth 20000 in
theorem ggX6_undo_X0_restoreLatest : GoodIn wsX6_undo wsX0_restoreLatest := goodIn_r _ [9, 10, 11, 12, 13, 8, 14, 15, 16, 17, 18, 19, 20, 21, 22, 23, 24, 25, 26, 27, 28, 29, 30, 31, 32, 33, 34, 35, 36, 48, 49, 50, 51, 52, 53, 54, 55, 56] (by decide +kernel) (by decide +kernel)
set_option maxRecDepth 20000 in
theorem gX6_undo_X0_restoreLatest : GoodIn wsX6_undo (wsV RX6 145 RX0 yX0_restoreLatest wsX0_restoreLatest) := goodIn_app (goodIn_of _ (by decide +kernel)) ggX6_undo_X0_restoreLatest
set_option maxRecDepth 20000 in
theorem ggX6_undo_X3_forget : GoodIn wsX6_undo wsX3_forget := goodIn_r _ [41, 42, 57, 58, 59, 60, 61, 62, 63, 64, 65, 66] (by decide +kernel) (by decide +kernel)
set_option maxRecDepth 20000 in
theorem gX6_undo_X3_forget : GoodIn wsX6_undo (wsV RX6 148 RX3 yX3_forget wsX3_forget) := goodIn_app (goodIn_of _ (by decide +kernel)) ggX6_undo_X3_forget
theorem dX6_undo_0 : decode cX6_undo 0 = .ok (.aload_n 0, 1) := by decide +kernel
theorem dX6_undo_1 : decode cX6_undo 1 = .ok (.getfield 19, 3) := by decide +kernel
theorem dX6_undo_4 : decode cX6_undo 4 = .ok (.getfield 121, 3) := by decide +kernel
theorem dX6_undo_7 : decode cX6_undo 7 = .ok (.ifCond .ne 6, 3) := by decide +kernel
theorem dX6_undo_10 : decode cX6_undo 10 = .ok (.bipush (-2), 2) := by decide +kernel
theorem dX6_undo_12 : decode cX6_undo 12 = .ok (.ireturn, 1) := by decide +kernel
theorem dX6_undo_13 : decode cX6_undo 13 = .ok (.aload_n 0, 1) := by decide +kernel
theorem dX6_undo_14 : decode cX6_undo 14 = .ok (.getfield 19, 3) := by decide +kernel
theorem dX6_undo_17 : decode cX6_undo 17 = .ok (.aload_n 0, 1) := by decide +kernel
theorem dX6_undo_18 : decode cX6_undo 18 = .ok (.getfield 10, 3) := by decide +kernel
theorem dX6_undo_21 : decode cX6_undo 21 = .ok (.invokevirtual 145, 3) := by decide +kernel
theorem dX6_undo_24 : decode cX6_undo 24 = .ok (.aload_n 0, 1) := by decide +kernel
theorem dX6_undo_25 : decode cX6_undo 25 = .ok (.getfield 33, 3) := by decide +kernel
theorem dX6_undo_28 : decode cX6_undo 28 = .ok (.invokevirtual 148, 3) := by decide +kernel
theorem dX6_undo_31 : decode cX6_undo 31 = .ok (.aload_n 0, 1) := by decide +kernel
theorem dX6_undo_32 : decode cX6_undo 32 = .ok (.getfield 19, 3) := by decide +kernel
theorem dX6_undo_35 : decode cX6_undo 35 = .ok (.getfield 121, 3) := by decide +kernel
theorem dX6_undo_38 : decode cX6_undo 38 = .ok (.ireturn, 1) := by decide +kernel
set_option maxRecDepth 20000 in
theorem ggX6_gap_X1_hasLine : GoodIn wsX6_gap wsX1_hasLine := goodIn_r _ [7, 8, 9, 10, 6, 11, 12, 13, 14, 15, 16, 17, 18, 19, 102, 103, 104, 105, 106, 107, 108] (by decide +kernel) (by decide +kernel)
set_option maxRecDepth 20000 in
theorem gX6_gap_X1_hasLine : GoodIn wsX6_gap (wsV RX6 93 RX1 yX1_hasLine wsX1_hasLine) := goodIn_app (goodIn_of _ (by decide +kernel)) ggX6_gap_X1_hasLine
set_option maxRecDepth 20000 in
theorem ggX6_gap_X1_firstOf : GoodIn wsX6_gap wsX1_firstOf := goodIn_r _ [23, 12, 13, 14, 15, 16, 17, 18, 19, 102, 103, 104, 105, 106, 107, 108] (by decide +kernel) (by decide +kernel)
set_option maxRecDepth 20000 in
theorem gX6_gap_X1_firstOf : GoodIn wsX6_gap (wsV RX6 71 RX1 yX1_firstOf wsX1_firstOf) := goodIn_app (goodIn_of _ (by decide +kernel)) ggX6_gap_X1_firstOf
set_option maxRecDepth 20000 in
theorem ggX6_gap_X1_endOf : GoodIn wsX6_gap wsX1_endOf := goodIn_r _ [27, 12, 13, 14, 15, 16, 17, 18, 19, 102, 103, 104, 105, 106, 107, 108] (by decide +kernel) (by decide +kernel)
set_option maxRecDepth 20000 in
theorem gX6_gap_X1_endOf : GoodIn wsX6_gap (wsV RX6 96 RX1 yX1_endOf wsX1_endOf) := goodIn_app (goodIn_of _ (by decide +kernel)) ggX6_gap_X1_endOf
set_option maxRecDepth 20000 in
theorem ggX6_gap_X6_isWithin : GoodIn wsX6_gap wsX6_isWithin := goodIn_r _ [31] (by decide +kernel) (by decide +kernel)
set_option maxRecDepth 20000 in
theorem gX6_gap_X6_isWithin : GoodIn wsX6_gap (va_wsS RX6 44 yX6_isWithin wsX6_isWithin) := goodIn_app (goodIn_of _ (by decide +kernel)) ggX6_gap_X6_isWithin
set_option maxRecDepth 20000 in
theorem ggX6_gap_X4_layAll : GoodIn wsX6_gap wsX4_layAll := goodIn_r _ [36, 37, 38, 25, 26, 6, 27, 12, 13, 14, 15, 16, 17, 18, 19, 39, 40, 41, 35, 42, 43, 44, 45, 46, 47, 48, 49, 50, 51, 52, 53, 54, 55, 56, 57, 58, 59, 60, 61, 62, 63, 64, 65, 66, 67, 68, 69, 70, 71, 72, 73, 74, 75, 76, 77, 78, 79, 80, 102, 103, 104, 105, 106, 107, 108, 109, 110, 111, 112] (by decide +kernel) (by decide +kernel)
set_option maxRecDepth 20000 in
theorem gX6_gap_X4_layAll : GoodIn wsX6_gap (wsV RX6 106 RX4 yX4_layAll wsX4_layAll) := goodIn_app (goodIn_of _ (by decide +kernel)) ggX6_gap_X4_layAll
set_option maxRecDepth 20000 in
theorem ggX6_gap_X4_gapColumn : GoodIn wsX6_gap wsX4_gapColumn := goodIn_r _ [84, 53, 80, 15, 16, 17, 18, 19, 109, 110, 111, 112, 108] (by decide +kernel) (by decide +kernel)
set_option maxRecDepth 20000 in
theorem gX6_gap_X4_gapColumn : GoodIn wsX6_gap (wsV RX6 151 RX4 yX4_gapColumn wsX4_gapColumn) := goodIn_app (goodIn_of _ (by decide +kernel)) ggX6_gap_X4_gapColumn
set_option maxRecDepth 20000 in
theorem ggX6_gap_X4_gapWidth : GoodIn wsX6_gap wsX4_gapWidth := goodIn_r _ [88, 54, 80, 15, 16, 17, 18, 19, 109, 110, 111, 112, 108] (by decide +kernel) (by decide +kernel)
set_option maxRecDepth 20000 in
theorem gX6_gap_X4_gapWidth : GoodIn wsX6_gap (wsV RX6 154 RX4 yX4_gapWidth wsX4_gapWidth) := goodIn_app (goodIn_of _ (by decide +kernel)) ggX6_gap_X4_gapWidth
set_option maxRecDepth 20000 in
theorem ggX6_gap_X4_reachOf : GoodIn wsX6_gap wsX4_reachOf := goodIn_r _ [92, 43, 80, 15, 16, 17, 18, 19, 109, 110, 111, 112, 108] (by decide +kernel) (by decide +kernel)
set_option maxRecDepth 20000 in
theorem gX6_gap_X4_reachOf : GoodIn wsX6_gap (wsV RX6 157 RX4 yX4_reachOf wsX4_reachOf) := goodIn_app (goodIn_of _ (by decide +kernel)) ggX6_gap_X4_reachOf
set_option maxRecDepth 20000 in
theorem ggX6_gap_X4_gapsThatMeet : GoodIn wsX6_gap wsX4_gapsThatMeet := goodIn_r _ [96, 73, 74, 75, 35, 76, 53, 54, 44, 45, 46, 47, 77, 78, 79, 80, 15, 16, 17, 18, 19, 109, 110, 111, 112, 108] (by decide +kernel) (by decide +kernel)
set_option maxRecDepth 20000 in
theorem gX6_gap_X4_gapsThatMeet : GoodIn wsX6_gap (wsV RX6 160 RX4 yX4_gapsThatMeet wsX4_gapsThatMeet) := goodIn_app (goodIn_of _ (by decide +kernel)) ggX6_gap_X4_gapsThatMeet
theorem dX6_gap_0 : decode cX6_gap 0 = .ok (.aload_n 0, 1) := by decide +kernel
theorem dX6_gap_1 : decode cX6_gap 1 = .ok (.getfield 10, 3) := by decide +kernel
theorem dX6_gap_4 : decode cX6_gap 4 = .ok (.iload_n 1, 1) := by decide +kernel
theorem dX6_gap_5 : decode cX6_gap 5 = .ok (.invokevirtual 93, 3) := by decide +kernel
theorem dX6_gap_8 : decode cX6_gap 8 = .ok (.ifCond .ne 5, 3) := by decide +kernel
theorem dX6_gap_11 : decode cX6_gap 11 = .ok (.iconst (-1), 1) := by decide +kernel
theorem dX6_gap_12 : decode cX6_gap 12 = .ok (.ireturn, 1) := by decide +kernel
theorem dX6_gap_13 : decode cX6_gap 13 = .ok (.aload_n 0, 1) := by decide +kernel
theorem dX6_gap_14 : decode cX6_gap 14 = .ok (.getfield 10, 3) := by decide +kernel
theorem dX6_gap_17 : decode cX6_gap 17 = .ok (.iload_n 1, 1) := by decide +kernel
theorem dX6_gap_18 : decode cX6_gap 18 = .ok (.invokevirtual 71, 3) := by decide +kernel
theorem dX6_gap_21 : decode cX6_gap 21 = .ok (.istore 4, 2) := by decide +kernel
theorem dX6_gap_23 : decode cX6_gap 23 = .ok (.aload_n 0, 1) := by decide +kernel
theorem dX6_gap_24 : decode cX6_gap 24 = .ok (.getfield 10, 3) := by decide +kernel
theorem dX6_gap_27 : decode cX6_gap 27 = .ok (.iload 4, 2) := by decide +kernel
theorem dX6_gap_29 : decode cX6_gap 29 = .ok (.invokevirtual 96, 3) := by decide +kernel
theorem dX6_gap_32 : decode cX6_gap 32 = .ok (.istore 5, 2) := by decide +kernel
theorem dX6_gap_34 : decode cX6_gap 34 = .ok (.iload_n 2, 1) := by decide +kernel
theorem dX6_gap_35 : decode cX6_gap 35 = .ok (.iconst 0, 1) := by decide +kernel
theorem dX6_gap_36 : decode cX6_gap 36 = .ok (.iload 5, 2) := by decide +kernel
theorem dX6_gap_38 : decode cX6_gap 38 = .ok (.iload 4, 2) := by decide +kernel
theorem dX6_gap_40 : decode cX6_gap 40 = .ok (.isub, 1) := by decide +kernel
theorem dX6_gap_41 : decode cX6_gap 41 = .ok (.iconst 2, 1) := by decide +kernel
theorem dX6_gap_42 : decode cX6_gap 42 = .ok (.isub, 1) := by decide +kernel
theorem dX6_gap_43 : decode cX6_gap 43 = .ok (.invokestatic 44, 3) := by decide +kernel
theorem dX6_gap_46 : decode cX6_gap 46 = .ok (.ifCond .ne 5, 3) := by decide +kernel
theorem dX6_gap_49 : decode cX6_gap 49 = .ok (.iconst (-1), 1) := by decide +kernel
theorem dX6_gap_50 : decode cX6_gap 50 = .ok (.ireturn, 1) := by decide +kernel
theorem dX6_gap_51 : decode cX6_gap 51 = .ok (.iload 4, 2) := by decide +kernel
theorem dX6_gap_53 : decode cX6_gap 53 = .ok (.iload_n 2, 1) := by decide +kernel
theorem dX6_gap_54 : decode cX6_gap 54 = .ok (.iadd, 1) := by decide +kernel
theorem dX6_gap_55 : decode cX6_gap 55 = .ok (.istore 6, 2) := by decide +kernel
theorem dX6_gap_57 : decode cX6_gap 57 = .ok (.aload_n 0, 1) := by decide +kernel
theorem dX6_gap_58 : decode cX6_gap 58 = .ok (.getfield 26, 3) := by decide +kernel
theorem dX6_gap_61 : decode cX6_gap 61 = .ok (.aload_n 0, 1) := by decide +kernel
theorem dX6_gap_62 : decode cX6_gap 62 = .ok (.getfield 10, 3) := by decide +kernel
theorem dX6_gap_65 : decode cX6_gap 65 = .ok (.invokevirtual 106, 3) := by decide +kernel
theorem dX6_gap_68 : decode cX6_gap 68 = .ok (.iload_n 3, 1) := by decide +kernel
theorem dX6_gap_69 : decode cX6_gap 69 = .ok (.tableswitch 108 0 4 #[35, 45, 55, 65, 87], 35) := by decide +kernel
theorem dX6_gap_104 : decode cX6_gap 104 = .ok (.aload_n 0, 1) := by decide +kernel
theorem dX6_gap_105 : decode cX6_gap 105 = .ok (.getfield 26, 3) := by decide +kernel
theorem dX6_gap_108 : decode cX6_gap 108 = .ok (.iload 6, 2) := by decide +kernel
theorem dX6_gap_110 : decode cX6_gap 110 = .ok (.invokevirtual 151, 3) := by decide +kernel
theorem dX6_gap_113 : decode cX6_gap 113 = .ok (.ireturn, 1) := by decide +kernel
theorem dX6_gap_114 : decode cX6_gap 114 = .ok (.aload_n 0, 1) := by decide +kernel
theorem dX6_gap_115 : decode cX6_gap 115 = .ok (.getfield 26, 3) := by decide +kernel
theorem dX6_gap_118 : decode cX6_gap 118 = .ok (.iload 6, 2) := by decide +kernel
theorem dX6_gap_120 : decode cX6_gap 120 = .ok (.invokevirtual 154, 3) := by decide +kernel
theorem dX6_gap_123 : decode cX6_gap 123 = .ok (.ireturn, 1) := by decide +kernel
theorem dX6_gap_124 : decode cX6_gap 124 = .ok (.aload_n 0, 1) := by decide +kernel
theorem dX6_gap_125 : decode cX6_gap 125 = .ok (.getfield 26, 3) := by decide +kernel
theorem dX6_gap_128 : decode cX6_gap 128 = .ok (.iload 6, 2) := by decide +kernel
theorem dX6_gap_130 : decode cX6_gap 130 = .ok (.invokevirtual 157, 3) := by decide +kernel
theorem dX6_gap_133 : decode cX6_gap 133 = .ok (.ireturn, 1) := by decide +kernel
theorem dX6_gap_134 : decode cX6_gap 134 = .ok (.aload_n 0, 1) := by decide +kernel
theorem dX6_gap_135 : decode cX6_gap 135 = .ok (.getfield 26, 3) := by decide +kernel
theorem dX6_gap_138 : decode cX6_gap 138 = .ok (.iload 6, 2) := by decide +kernel
theorem dX6_gap_140 : decode cX6_gap 140 = .ok (.aload_n 0, 1) := by decide +kernel
theorem dX6_gap_141 : decode cX6_gap 141 = .ok (.getfield 10, 3) := by decide +kernel
theorem dX6_gap_144 : decode cX6_gap 144 = .ok (.iload_n 1, 1) := by decide +kernel
theorem dX6_gap_145 : decode cX6_gap 145 = .ok (.iconst 1, 1) := by decide +kernel
theorem dX6_gap_146 : decode cX6_gap 146 = .ok (.isub, 1) := by decide +kernel
theorem dX6_gap_147 : decode cX6_gap 147 = .ok (.invokevirtual 71, 3) := by decide +kernel
theorem dX6_gap_150 : decode cX6_gap 150 = .ok (.iload 4, 2) := by decide +kernel
theorem dX6_gap_152 : decode cX6_gap 152 = .ok (.invokevirtual 160, 3) := by decide +kernel
theorem dX6_gap_155 : decode cX6_gap 155 = .ok (.ireturn, 1) := by decide +kernel
theorem dX6_gap_156 : decode cX6_gap 156 = .ok (.aload_n 0, 1) := by decide +kernel
theorem dX6_gap_157 : decode cX6_gap 157 = .ok (.getfield 26, 3) := by decide +kernel
theorem dX6_gap_160 : decode cX6_gap 160 = .ok (.iload 6, 2) := by decide +kernel
theorem dX6_gap_162 : decode cX6_gap 162 = .ok (.iload 5, 2) := by decide +kernel
theorem dX6_gap_164 : decode cX6_gap 164 = .ok (.aload_n 0, 1) := by decide +kernel
theorem dX6_gap_165 : decode cX6_gap 165 = .ok (.getfield 10, 3) := by decide +kernel
theorem dX6_gap_168 : decode cX6_gap 168 = .ok (.iload 5, 2) := by decide +kernel
theorem dX6_gap_170 : decode cX6_gap 170 = .ok (.invokevirtual 96, 3) := by decide +kernel
theorem dX6_gap_173 : decode cX6_gap 173 = .ok (.invokevirtual 160, 3) := by decide +kernel
theorem dX6_gap_176 : decode cX6_gap 176 = .ok (.ireturn, 1) := by decide +kernel
theorem dX6_gap_177 : decode cX6_gap 177 = .ok (.iconst (-1), 1) := by decide +kernel
theorem dX6_gap_178 : decode cX6_gap 178 = .ok (.ireturn, 1) := by decide +kernel
set_option maxRecDepth 20000 in
theorem ggX6_river_X6_isWithin : GoodIn wsX6_river wsX6_isWithin := goodIn_r _ [7] (by decide +kernel) (by decide +kernel)
set_option maxRecDepth 20000 in
theorem gX6_river_X6_isWithin : GoodIn wsX6_river (va_wsS RX6 44 yX6_isWithin wsX6_isWithin) := goodIn_app (goodIn_of _ (by decide +kernel)) ggX6_river_X6_isWithin
set_option maxRecDepth 20000 in
theorem ggX6_river_X4_layAll : GoodIn wsX6_river wsX4_layAll := goodIn_r _ [12, 13, 14, 15, 16, 17, 18, 19, 20, 21, 22, 23, 24, 25, 26, 27, 28, 29, 11, 30, 31, 32, 33, 34, 35, 36, 37, 38, 39, 40, 41, 42, 43, 44, 45, 46, 47, 48, 49, 50, 51, 52, 53, 54, 55, 56, 57, 58, 59, 60, 61, 62, 63, 64, 65, 66, 67, 68, 99, 100, 101, 102, 103, 104, 105, 106, 107, 108, 109] (by decide +kernel) (by decide +kernel)
set_option maxRecDepth 20000 in
theorem gX6_river_X4_layAll : GoodIn wsX6_river (wsV RX6 106 RX4 yX4_layAll wsX4_layAll) := goodIn_app (goodIn_of _ (by decide +kernel)) ggX6_river_X4_layAll
set_option maxRecDepth 20000 in
theorem ggX6_river_X4_greatestReach : GoodIn wsX6_river wsX4_greatestReach := goodIn_r _ [72, 31, 32, 33, 34, 35, 68, 22, 23, 24, 25, 26, 106, 107, 108, 109, 105] (by decide +kernel) (by decide +kernel)
set_option maxRecDepth 20000 in
theorem gX6_river_X4_greatestReach : GoodIn wsX6_river (wsV RX6 113 RX4 yX4_greatestReach wsX4_greatestReach) := goodIn_app (goodIn_of _ (by decide +kernel)) ggX6_river_X4_greatestReach
set_option maxRecDepth 20000 in
theorem ggX6_river_X4_firstOfReach : GoodIn wsX6_river wsX4_firstOfReach := goodIn_r _ [76, 31, 68, 22, 23, 24, 25, 26, 106, 107, 108, 109, 105] (by decide +kernel) (by decide +kernel)
set_option maxRecDepth 20000 in
theorem gX6_river_X4_firstOfReach : GoodIn wsX6_river (wsV RX6 164 RX4 yX4_firstOfReach wsX4_firstOfReach) := goodIn_app (goodIn_of _ (by decide +kernel)) ggX6_river_X4_firstOfReach
set_option maxRecDepth 20000 in
theorem ggX6_river_X6_gapAbove : GoodIn wsX6_river wsX6_gapAbove := goodIn_r _ [80, 2, 1, 81, 82, 83, 17, 84, 19, 20, 21, 22, 23, 24, 25, 26, 85, 86, 87, 88, 89, 62, 63, 11, 64, 41, 42, 32, 33, 34, 35, 65, 66, 67, 68, 90, 91, 92, 93, 31, 94, 95, 96, 97, 98, 99, 100, 101, 102, 103, 104, 105, 106, 107, 108, 109] (by decide +kernel) (by decide +kernel)
set_option maxRecDepth 20000 in
theorem gX6_river_X6_gapAbove : GoodIn wsX6_river (wsV RX6 167 RX6 yX6_gapAbove wsX6_gapAbove) := goodIn_app (goodIn_of _ (by decide +kernel)) ggX6_river_X6_gapAbove
set_option maxRecDepth 20000 in
theorem ggX6_river_X1_lineOf : GoodIn wsX6_river wsX1_lineOf := goodIn_r _ [84, 19, 20, 21, 22, 23, 24, 25, 26, 99, 100, 101, 102, 103, 104, 105] (by decide +kernel) (by decide +kernel)
set_option maxRecDepth 20000 in
theorem gX6_river_X1_lineOf : GoodIn wsX6_river (wsV RX6 133 RX1 yX1_lineOf wsX1_lineOf) := goodIn_app (goodIn_of _ (by decide +kernel)) ggX6_river_X1_lineOf
set_option maxRecDepth 20000 in
theorem ggX6_river_X1_firstOf : GoodIn wsX6_river wsX1_firstOf := goodIn_r _ [88, 19, 20, 21, 22, 23, 24, 25, 26, 99, 100, 101, 102, 103, 104, 105] (by decide +kernel) (by decide +kernel)
set_option maxRecDepth 20000 in
theorem gX6_river_X1_firstOf : GoodIn wsX6_river (wsV RX6 71 RX1 yX1_firstOf wsX1_firstOf) := goodIn_app (goodIn_of _ (by decide +kernel)) ggX6_river_X1_firstOf
theorem dX6_river_0 : decode cX6_river 0 = .ok (.iload_n 1, 1) := by decide +kernel
theorem dX6_river_1 : decode cX6_river 1 = .ok (.ifCond .lt 12, 3) := by decide +kernel
theorem dX6_river_4 : decode cX6_river 4 = .ok (.iload_n 2, 1) := by decide +kernel
theorem dX6_river_5 : decode cX6_river 5 = .ok (.iconst 0, 1) := by decide +kernel
theorem dX6_river_6 : decode cX6_river 6 = .ok (.iconst 1, 1) := by decide +kernel
theorem dX6_river_7 : decode cX6_river 7 = .ok (.invokestatic 44, 3) := by decide +kernel
theorem dX6_river_10 : decode cX6_river 10 = .ok (.ifCond .ne 5, 3) := by decide +kernel
theorem dX6_river_13 : decode cX6_river 13 = .ok (.iconst (-1), 1) := by decide +kernel
theorem dX6_river_14 : decode cX6_river 14 = .ok (.ireturn, 1) := by decide +kernel
theorem dX6_river_15 : decode cX6_river 15 = .ok (.aload_n 0, 1) := by decide +kernel
theorem dX6_river_16 : decode cX6_river 16 = .ok (.getfield 26, 3) := by decide +kernel
theorem dX6_river_19 : decode cX6_river 19 = .ok (.aload_n 0, 1) := by decide +kernel
theorem dX6_river_20 : decode cX6_river 20 = .ok (.getfield 10, 3) := by decide +kernel
theorem dX6_river_23 : decode cX6_river 23 = .ok (.invokevirtual 106, 3) := by decide +kernel
theorem dX6_river_26 : decode cX6_river 26 = .ok (.aload_n 0, 1) := by decide +kernel
theorem dX6_river_27 : decode cX6_river 27 = .ok (.getfield 26, 3) := by decide +kernel
theorem dX6_river_30 : decode cX6_river 30 = .ok (.iconst 0, 1) := by decide +kernel
theorem dX6_river_31 : decode cX6_river 31 = .ok (.aload_n 0, 1) := by decide +kernel
theorem dX6_river_32 : decode cX6_river 32 = .ok (.getfield 10, 3) := by decide +kernel
theorem dX6_river_35 : decode cX6_river 35 = .ok (.getfield 68, 3) := by decide +kernel
theorem dX6_river_38 : decode cX6_river 38 = .ok (.invokevirtual 113, 3) := by decide +kernel
theorem dX6_river_41 : decode cX6_river 41 = .ok (.istore_n 3, 1) := by decide +kernel
theorem dX6_river_42 : decode cX6_river 42 = .ok (.iload_n 1, 1) := by decide +kernel
theorem dX6_river_43 : decode cX6_river 43 = .ok (.iload_n 3, 1) := by decide +kernel
theorem dX6_river_44 : decode cX6_river 44 = .ok (.if_icmp .lt 6, 3) := by decide +kernel
theorem dX6_river_47 : decode cX6_river 47 = .ok (.bipush (-4), 2) := by decide +kernel
theorem dX6_river_49 : decode cX6_river 49 = .ok (.ireturn, 1) := by decide +kernel
theorem dX6_river_50 : decode cX6_river 50 = .ok (.aload_n 0, 1) := by decide +kernel
theorem dX6_river_51 : decode cX6_river 51 = .ok (.getfield 26, 3) := by decide +kernel
theorem dX6_river_54 : decode cX6_river 54 = .ok (.iload_n 3, 1) := by decide +kernel
theorem dX6_river_55 : decode cX6_river 55 = .ok (.iconst 0, 1) := by decide +kernel
theorem dX6_river_56 : decode cX6_river 56 = .ok (.aload_n 0, 1) := by decide +kernel
theorem dX6_river_57 : decode cX6_river 57 = .ok (.getfield 10, 3) := by decide +kernel
theorem dX6_river_60 : decode cX6_river 60 = .ok (.getfield 68, 3) := by decide +kernel
theorem dX6_river_63 : decode cX6_river 63 = .ok (.invokevirtual 164, 3) := by decide +kernel
theorem dX6_river_66 : decode cX6_river 66 = .ok (.istore 4, 2) := by decide +kernel
theorem dX6_river_68 : decode cX6_river 68 = .ok (.iconst 0, 1) := by decide +kernel
theorem dX6_river_69 : decode cX6_river 69 = .ok (.istore 5, 2) := by decide +kernel
theorem dX6_river_71 : decode cX6_river 71 = .ok (.iload 5, 2) := by decide +kernel
theorem dX6_river_73 : decode cX6_river 73 = .ok (.iload_n 1, 1) := by decide +kernel
theorem dX6_river_74 : decode cX6_river 74 = .ok (.if_icmp .ge 17, 3) := by decide +kernel
theorem dX6_river_77 : decode cX6_river 77 = .ok (.aload_n 0, 1) := by decide +kernel
theorem dX6_river_78 : decode cX6_river 78 = .ok (.iload 4, 2) := by decide +kernel
theorem dX6_river_80 : decode cX6_river 80 = .ok (.invokevirtual 167, 3) := by decide +kernel
theorem dX6_river_83 : decode cX6_river 83 = .ok (.istore 4, 2) := by decide +kernel
theorem dX6_river_85 : decode cX6_river 85 = .ok (.iinc 5 1, 3) := by decide +kernel
theorem dX6_river_88 : decode cX6_river 88 = .ok (.goto (-17), 3) := by decide +kernel
theorem dX6_river_91 : decode cX6_river 91 = .ok (.aload_n 0, 1) := by decide +kernel
theorem dX6_river_92 : decode cX6_river 92 = .ok (.getfield 10, 3) := by decide +kernel
theorem dX6_river_95 : decode cX6_river 95 = .ok (.iload 4, 2) := by decide +kernel
theorem dX6_river_97 : decode cX6_river 97 = .ok (.invokevirtual 133, 3) := by decide +kernel
theorem dX6_river_100 : decode cX6_river 100 = .ok (.istore 5, 2) := by decide +kernel
theorem dX6_river_102 : decode cX6_river 102 = .ok (.iload_n 2, 1) := by decide +kernel
theorem dX6_river_103 : decode cX6_river 103 = .ok (.ifCond .ne 8, 3) := by decide +kernel
theorem dX6_river_106 : decode cX6_river 106 = .ok (.iload 5, 2) := by decide +kernel
theorem dX6_river_108 : decode cX6_river 108 = .ok (.goto 15, 3) := by decide +kernel
theorem dX6_river_111 : decode cX6_river 111 = .ok (.iload 4, 2) := by decide +kernel
theorem dX6_river_113 : decode cX6_river 113 = .ok (.aload_n 0, 1) := by decide +kernel
theorem dX6_river_114 : decode cX6_river 114 = .ok (.getfield 10, 3) := by decide +kernel
theorem dX6_river_117 : decode cX6_river 117 = .ok (.iload 5, 2) := by decide +kernel
theorem dX6_river_119 : decode cX6_river 119 = .ok (.invokevirtual 71, 3) := by decide +kernel
theorem dX6_river_122 : decode cX6_river 122 = .ok (.isub, 1) := by decide +kernel
theorem dX6_river_123 : decode cX6_river 123 = .ok (.ireturn, 1) := by decide +kernel
set_option maxRecDepth 20000 in
theorem ggX6_at_X1_hasLine : GoodIn wsX6_at wsX1_hasLine := goodIn_r _ [8, 9, 10, 11, 7, 12, 13, 14, 15, 16, 17, 18, 19, 20, 92, 93, 94, 95, 96, 97, 98] (by decide +kernel) (by decide +kernel)
set_option maxRecDepth 20000 in
theorem gX6_at_X1_hasLine : GoodIn wsX6_at (wsV RX6 93 RX1 yX1_hasLine wsX1_hasLine) := goodIn_app (goodIn_of _ (by decide +kernel)) ggX6_at_X1_hasLine
set_option maxRecDepth 20000 in
theorem ggX6_at_X6_isWithin : GoodIn wsX6_at wsX6_isWithin := goodIn_r _ [24] (by decide +kernel) (by decide +kernel)
set_option maxRecDepth 20000 in
theorem gX6_at_X6_isWithin : GoodIn wsX6_at (va_wsS RX6 44 yX6_isWithin wsX6_isWithin) := goodIn_app (goodIn_of _ (by decide +kernel)) ggX6_at_X6_isWithin
set_option maxRecDepth 20000 in
theorem ggX6_at_X4_layAll : GoodIn wsX6_at wsX4_layAll := goodIn_r _ [29, 30, 31, 32, 33, 7, 34, 13, 14, 15, 16, 17, 18, 19, 20, 35, 36, 37, 28, 38, 39, 40, 41, 42, 43, 44, 45, 46, 47, 48, 49, 50, 51, 52, 53, 54, 55, 56, 57, 58, 59, 60, 61, 62, 63, 64, 65, 66, 67, 68, 69, 70, 71, 72, 73, 74, 75, 76, 92, 93, 94, 95, 96, 97, 98, 99, 100, 101, 102] (by decide +kernel) (by decide +kernel)
set_option maxRecDepth 20000 in
theorem gX6_at_X4_layAll : GoodIn wsX6_at (wsV RX6 106 RX4 yX4_layAll wsX4_layAll) := goodIn_app (goodIn_of _ (by decide +kernel)) ggX6_at_X4_layAll
set_option maxRecDepth 20000 in
theorem ggX6_at_X1_firstOf : GoodIn wsX6_at wsX1_firstOf := goodIn_r _ [80, 13, 14, 15, 16, 17, 18, 19, 20, 92, 93, 94, 95, 96, 97, 98] (by decide +kernel) (by decide +kernel)
set_option maxRecDepth 20000 in
theorem gX6_at_X1_firstOf : GoodIn wsX6_at (wsV RX6 71 RX1 yX1_firstOf wsX1_firstOf) := goodIn_app (goodIn_of _ (by decide +kernel)) ggX6_at_X1_firstOf
set_option maxRecDepth 20000 in
theorem ggX6_at_X1_endOf : GoodIn wsX6_at wsX1_endOf := goodIn_r _ [34, 13, 14, 15, 16, 17, 18, 19, 20, 92, 93, 94, 95, 96, 97, 98] (by decide +kernel) (by decide +kernel)
set_option maxRecDepth 20000 in
theorem gX6_at_X1_endOf : GoodIn wsX6_at (wsV RX6 96 RX1 yX1_endOf wsX1_endOf) := goodIn_app (goodIn_of _ (by decide +kernel)) ggX6_at_X1_endOf
set_option maxRecDepth 20000 in
theorem ggX6_at_X4_columnOf : GoodIn wsX6_at wsX4_columnOf := goodIn_r _ [85, 48, 76, 16, 17, 18, 19, 20, 99, 100, 101, 102, 98] (by decide +kernel) (by decide +kernel)
set_option maxRecDepth 20000 in
theorem gX6_at_X4_columnOf : GoodIn wsX6_at (wsV RX6 136 RX4 yX4_columnOf wsX4_columnOf) := goodIn_app (goodIn_of _ (by decide +kernel)) ggX6_at_X4_columnOf
set_option maxRecDepth 20000 in
theorem ggX6_at_X1_lengthOf : GoodIn wsX6_at wsX1_lengthOf := goodIn_r _ [64, 56, 15, 16, 17, 18, 19, 20, 92, 93, 94, 95, 96, 97, 98] (by decide +kernel) (by decide +kernel)
set_option maxRecDepth 20000 in
theorem gX6_at_X1_lengthOf : GoodIn wsX6_at (wsV RX6 130 RX1 yX1_lengthOf wsX1_lengthOf) := goodIn_app (goodIn_of _ (by decide +kernel)) ggX6_at_X1_lengthOf
theorem dX6_at_0 : decode cX6_at 0 = .ok (.aload_n 0, 1) := by decide +kernel
theorem dX6_at_1 : decode cX6_at 1 = .ok (.getfield 10, 3) := by decide +kernel
theorem dX6_at_4 : decode cX6_at 4 = .ok (.iload_n 1, 1) := by decide +kernel
theorem dX6_at_5 : decode cX6_at 5 = .ok (.invokevirtual 93, 3) := by decide +kernel
theorem dX6_at_8 : decode cX6_at 8 = .ok (.ifCond .eq 20, 3) := by decide +kernel
theorem dX6_at_11 : decode cX6_at 11 = .ok (.iload_n 2, 1) := by decide +kernel
theorem dX6_at_12 : decode cX6_at 12 = .ok (.iconst 0, 1) := by decide +kernel
theorem dX6_at_13 : decode cX6_at 13 = .ok (.aload_n 0, 1) := by decide +kernel
theorem dX6_at_14 : decode cX6_at 14 = .ok (.getfield 10, 3) := by decide +kernel
theorem dX6_at_17 : decode cX6_at 17 = .ok (.getfield 55, 3) := by decide +kernel
theorem dX6_at_20 : decode cX6_at 20 = .ok (.iconst 1, 1) := by decide +kernel
theorem dX6_at_21 : decode cX6_at 21 = .ok (.isub, 1) := by decide +kernel
theorem dX6_at_22 : decode cX6_at 22 = .ok (.invokestatic 44, 3) := by decide +kernel
theorem dX6_at_25 : decode cX6_at 25 = .ok (.ifCond .ne 5, 3) := by decide +kernel
theorem dX6_at_28 : decode cX6_at 28 = .ok (.iconst (-1), 1) := by decide +kernel
theorem dX6_at_29 : decode cX6_at 29 = .ok (.ireturn, 1) := by decide +kernel
theorem dX6_at_30 : decode cX6_at 30 = .ok (.aload_n 0, 1) := by decide +kernel
theorem dX6_at_31 : decode cX6_at 31 = .ok (.getfield 26, 3) := by decide +kernel
theorem dX6_at_34 : decode cX6_at 34 = .ok (.aload_n 0, 1) := by decide +kernel
theorem dX6_at_35 : decode cX6_at 35 = .ok (.getfield 10, 3) := by decide +kernel
theorem dX6_at_38 : decode cX6_at 38 = .ok (.invokevirtual 106, 3) := by decide +kernel
theorem dX6_at_41 : decode cX6_at 41 = .ok (.aload_n 0, 1) := by decide +kernel
theorem dX6_at_42 : decode cX6_at 42 = .ok (.getfield 10, 3) := by decide +kernel
theorem dX6_at_45 : decode cX6_at 45 = .ok (.iload_n 1, 1) := by decide +kernel
theorem dX6_at_46 : decode cX6_at 46 = .ok (.invokevirtual 71, 3) := by decide +kernel
theorem dX6_at_49 : decode cX6_at 49 = .ok (.istore_n 3, 1) := by decide +kernel
theorem dX6_at_50 : decode cX6_at 50 = .ok (.aload_n 0, 1) := by decide +kernel
theorem dX6_at_51 : decode cX6_at 51 = .ok (.getfield 10, 3) := by decide +kernel
theorem dX6_at_54 : decode cX6_at 54 = .ok (.iload_n 3, 1) := by decide +kernel
theorem dX6_at_55 : decode cX6_at 55 = .ok (.invokevirtual 96, 3) := by decide +kernel
theorem dX6_at_58 : decode cX6_at 58 = .ok (.istore 4, 2) := by decide +kernel
theorem dX6_at_60 : decode cX6_at 60 = .ok (.iload_n 3, 1) := by decide +kernel
theorem dX6_at_61 : decode cX6_at 61 = .ok (.istore 5, 2) := by decide +kernel
theorem dX6_at_63 : decode cX6_at 63 = .ok (.iload 5, 2) := by decide +kernel
theorem dX6_at_65 : decode cX6_at 65 = .ok (.iload 4, 2) := by decide +kernel
theorem dX6_at_67 : decode cX6_at 67 = .ok (.if_icmp .ge 45, 3) := by decide +kernel
theorem dX6_at_70 : decode cX6_at 70 = .ok (.aload_n 0, 1) := by decide +kernel
theorem dX6_at_71 : decode cX6_at 71 = .ok (.getfield 26, 3) := by decide +kernel
theorem dX6_at_74 : decode cX6_at 74 = .ok (.iload 5, 2) := by decide +kernel
theorem dX6_at_76 : decode cX6_at 76 = .ok (.invokevirtual 136, 3) := by decide +kernel
theorem dX6_at_79 : decode cX6_at 79 = .ok (.istore 6, 2) := by decide +kernel
theorem dX6_at_81 : decode cX6_at 81 = .ok (.iload_n 2, 1) := by decide +kernel
theorem dX6_at_82 : decode cX6_at 82 = .ok (.iload 6, 2) := by decide +kernel
theorem dX6_at_84 : decode cX6_at 84 = .ok (.if_icmp .lt 22, 3) := by decide +kernel
theorem dX6_at_87 : decode cX6_at 87 = .ok (.iload_n 2, 1) := by decide +kernel
theorem dX6_at_88 : decode cX6_at 88 = .ok (.iload 6, 2) := by decide +kernel
theorem dX6_at_90 : decode cX6_at 90 = .ok (.aload_n 0, 1) := by decide +kernel
theorem dX6_at_91 : decode cX6_at 91 = .ok (.getfield 10, 3) := by decide +kernel
theorem dX6_at_94 : decode cX6_at 94 = .ok (.iload 5, 2) := by decide +kernel
theorem dX6_at_96 : decode cX6_at 96 = .ok (.invokevirtual 130, 3) := by decide +kernel
theorem dX6_at_99 : decode cX6_at 99 = .ok (.iadd, 1) := by decide +kernel
theorem dX6_at_100 : decode cX6_at 100 = .ok (.if_icmp .ge 6, 3) := by decide +kernel
theorem dX6_at_103 : decode cX6_at 103 = .ok (.iload 5, 2) := by decide +kernel
theorem dX6_at_105 : decode cX6_at 105 = .ok (.ireturn, 1) := by decide +kernel
theorem dX6_at_106 : decode cX6_at 106 = .ok (.iinc 5 1, 3) := by decide +kernel
theorem dX6_at_109 : decode cX6_at 109 = .ok (.goto (-46), 3) := by decide +kernel
theorem dX6_at_112 : decode cX6_at 112 = .ok (.bipush (-4), 2) := by decide +kernel
theorem dX6_at_114 : decode cX6_at 114 = .ok (.ireturn, 1) := by decide +kernel
set_option maxRecDepth 20000 in
theorem ggX6_plan_X6_isWithin : GoodIn wsX6_plan wsX6_isWithin := goodIn_r _ [8] (by decide +kernel) (by decide +kernel)
set_option maxRecDepth 20000 in
theorem gX6_plan_X6_isWithin : GoodIn wsX6_plan (va_wsS RX6 44 yX6_isWithin wsX6_isWithin) := goodIn_app (goodIn_of _ (by decide +kernel)) ggX6_plan_X6_isWithin
set_option maxRecDepth 20000 in
theorem ggX6_plan_X3_solve : GoodIn wsX6_plan wsX3_solve := goodIn_r _ [13, 14, 15, 16, 17, 18, 19, 20, 21, 22, 23, 24, 25, 26, 27, 28, 29, 30, 31, 32, 33, 34, 35, 36, 37, 38, 39, 40, 41, 42, 43, 12, 44, 45, 46, 47, 48, 49, 50, 51, 52, 53, 54, 55, 56, 57, 58, 59, 60, 61, 62, 63, 64, 65, 66, 67, 68, 69, 70, 71, 72, 73, 74, 75, 76, 77, 78, 79, 80, 81, 82, 83, 84, 85, 86, 87, 88, 89, 90, 91, 92, 93, 94, 95, 96, 97, 98, 99, 100, 101, 102, 103, 104, 105, 106, 107, 108, 109, 110, 111, 112, 113, 114, 115, 116, 117, 118, 119, 120, 121, 122, 123, 124, 125, 126, 127, 128, 129, 130, 131, 132, 133, 134, 135, 136, 137, 155, 156, 157, 158, 159, 160, 161, 162, 163, 164, 165, 166, 167, 168, 169, 170, 171, 172, 173, 174, 175] (by decide +kernel) (by decide +kernel)
set_option maxRecDepth 20000 in
theorem gX6_plan_X3_solve : GoodIn wsX6_plan (wsV RX6 170 RX3 yX3_solve wsX3_solve) := goodIn_app (goodIn_of _ (by decide +kernel)) ggX6_plan_X3_solve
set_option maxRecDepth 20000 in
theorem ggX6_plan_X3_hasFound : GoodIn wsX6_plan wsX3_hasFound := goodIn_r _ [141, 17, 16, 155, 156, 157, 158, 159, 160, 161, 162, 163, 164] (by decide +kernel) (by decide +kernel)
set_option maxRecDepth 20000 in
theorem gX6_plan_X3_hasFound : GoodIn wsX6_plan (wsV RX6 174 RX3 yX3_hasFound wsX3_hasFound) := goodIn_app (goodIn_of _ (by decide +kernel)) ggX6_plan_X3_hasFound
set_option maxRecDepth 20000 in
theorem ggX6_plan_X3_bestChanged : GoodIn wsX6_plan wsX3_bestChanged := goodIn_r _ [145, 17, 61, 155, 156, 157, 158, 159, 160, 161, 162, 163, 164] (by decide +kernel) (by decide +kernel)
set_option maxRecDepth 20000 in
theorem gX6_plan_X3_bestChanged : GoodIn wsX6_plan (wsV RX6 178 RX3 yX3_bestChanged wsX3_bestChanged) := goodIn_app (goodIn_of _ (by decide +kernel)) ggX6_plan_X3_bestChanged
set_option maxRecDepth 20000 in
theorem ggX6_plan_X3_bestBadness : GoodIn wsX6_plan wsX3_bestBadness := goodIn_r _ [149, 17, 61, 155, 156, 157, 158, 159, 160, 161, 162, 163, 164] (by decide +kernel) (by decide +kernel)
set_option maxRecDepth 20000 in
theorem gX6_plan_X3_bestBadness : GoodIn wsX6_plan (wsV RX6 184 RX3 yX3_bestBadness wsX3_bestBadness) := goodIn_app (goodIn_of _ (by decide +kernel)) ggX6_plan_X3_bestBadness
theorem dX6_plan_0 : decode cX6_plan 0 = .ok (.iload_n 1, 1) := by decide +kernel
theorem dX6_plan_1 : decode cX6_plan 1 = .ok (.iconst 1, 1) := by decide +kernel
theorem dX6_plan_2 : decode cX6_plan 2 = .ok (.bipush 24, 2) := by decide +kernel
theorem dX6_plan_4 : decode cX6_plan 4 = .ok (.invokestatic 44, 3) := by decide +kernel
theorem dX6_plan_7 : decode cX6_plan 7 = .ok (.ifCond .eq 12, 3) := by decide +kernel
theorem dX6_plan_10 : decode cX6_plan 10 = .ok (.iload_n 2, 1) := by decide +kernel
theorem dX6_plan_11 : decode cX6_plan 11 = .ok (.iconst 0, 1) := by decide +kernel
theorem dX6_plan_12 : decode cX6_plan 12 = .ok (.iconst 3, 1) := by decide +kernel
theorem dX6_plan_13 : decode cX6_plan 13 = .ok (.invokestatic 44, 3) := by decide +kernel
theorem dX6_plan_16 : decode cX6_plan 16 = .ok (.ifCond .ne 5, 3) := by decide +kernel
theorem dX6_plan_19 : decode cX6_plan 19 = .ok (.iconst (-1), 1) := by decide +kernel
theorem dX6_plan_20 : decode cX6_plan 20 = .ok (.ireturn, 1) := by decide +kernel
theorem dX6_plan_21 : decode cX6_plan 21 = .ok (.aload_n 0, 1) := by decide +kernel
theorem dX6_plan_22 : decode cX6_plan 22 = .ok (.getfield 33, 3) := by decide +kernel
theorem dX6_plan_25 : decode cX6_plan 25 = .ok (.aload_n 0, 1) := by decide +kernel
theorem dX6_plan_26 : decode cX6_plan 26 = .ok (.getfield 10, 3) := by decide +kernel
theorem dX6_plan_29 : decode cX6_plan 29 = .ok (.iload_n 1, 1) := by decide +kernel
theorem dX6_plan_30 : decode cX6_plan 30 = .ok (.invokevirtual 170, 3) := by decide +kernel
theorem dX6_plan_33 : decode cX6_plan 33 = .ok (.aload_n 0, 1) := by decide +kernel
theorem dX6_plan_34 : decode cX6_plan 34 = .ok (.getfield 33, 3) := by decide +kernel
theorem dX6_plan_37 : decode cX6_plan 37 = .ok (.invokevirtual 174, 3) := by decide +kernel
theorem dX6_plan_40 : decode cX6_plan 40 = .ok (.ifCond .ne 6, 3) := by decide +kernel
theorem dX6_plan_43 : decode cX6_plan 43 = .ok (.bipush (-4), 2) := by decide +kernel
theorem dX6_plan_45 : decode cX6_plan 45 = .ok (.ireturn, 1) := by decide +kernel
theorem dX6_plan_46 : decode cX6_plan 46 = .ok (.iload_n 2, 1) := by decide +kernel
theorem dX6_plan_47 : decode cX6_plan 47 = .ok (.tableswitch 49 0 2 #[25, 33, 41], 25) := by decide +kernel
theorem dX6_plan_72 : decode cX6_plan 72 = .ok (.aload_n 0, 1) := by decide +kernel
theorem dX6_plan_73 : decode cX6_plan 73 = .ok (.getfield 33, 3) := by decide +kernel
theorem dX6_plan_76 : decode cX6_plan 76 = .ok (.invokevirtual 178, 3) := by decide +kernel
theorem dX6_plan_79 : decode cX6_plan 79 = .ok (.ireturn, 1) := by decide +kernel
theorem dX6_plan_80 : decode cX6_plan 80 = .ok (.aload_n 0, 1) := by decide +kernel
theorem dX6_plan_81 : decode cX6_plan 81 = .ok (.getfield 33, 3) := by decide +kernel
theorem dX6_plan_84 : decode cX6_plan 84 = .ok (.getfield 181, 3) := by decide +kernel
theorem dX6_plan_87 : decode cX6_plan 87 = .ok (.ireturn, 1) := by decide +kernel
theorem dX6_plan_88 : decode cX6_plan 88 = .ok (.aload_n 0, 1) := by decide +kernel
theorem dX6_plan_89 : decode cX6_plan 89 = .ok (.getfield 33, 3) := by decide +kernel
theorem dX6_plan_92 : decode cX6_plan 92 = .ok (.invokevirtual 184, 3) := by decide +kernel
theorem dX6_plan_95 : decode cX6_plan 95 = .ok (.ireturn, 1) := by decide +kernel
theorem dX6_plan_96 : decode cX6_plan 96 = .ok (.aload_n 0, 1) := by decide +kernel
theorem dX6_plan_97 : decode cX6_plan 97 = .ok (.getfield 33, 3) := by decide +kernel
theorem dX6_plan_100 : decode cX6_plan 100 = .ok (.getfield 187, 3) := by decide +kernel
theorem dX6_plan_103 : decode cX6_plan 103 = .ok (.ireturn, 1) := by decide +kernel
set_option maxRecDepth 20000 in
theorem ggX6_planned_X6_isWithin : GoodIn wsX6_planned wsX6_isWithin := goodIn_r _ [7] (by decide +kernel) (by decide +kernel)
set_option maxRecDepth 20000 in
theorem gX6_planned_X6_isWithin : GoodIn wsX6_planned (va_wsS RX6 44 yX6_isWithin wsX6_isWithin) := goodIn_app (goodIn_of _ (by decide +kernel)) ggX6_planned_X6_isWithin
set_option maxRecDepth 20000 in
theorem ggX6_planned_X3_solve : GoodIn wsX6_planned wsX3_solve := goodIn_r _ [12, 13, 14, 15, 16, 17, 18, 19, 20, 21, 22, 23, 24, 25, 26, 27, 28, 29, 30, 31, 32, 33, 34, 35, 36, 37, 38, 39, 40, 41, 42, 11, 43, 44, 45, 46, 47, 48, 49, 50, 51, 52, 53, 54, 55, 56, 57, 58, 59, 60, 61, 62, 63, 64, 65, 66, 67, 68, 69, 70, 71, 72, 73, 74, 75, 76, 77, 78, 79, 80, 81, 82, 83, 84, 85, 86, 87, 88, 89, 90, 91, 92, 93, 94, 95, 96, 97, 98, 99, 100, 101, 102, 103, 104, 105, 106, 107, 108, 109, 110, 111, 112, 113, 114, 115, 116, 117, 118, 119, 120, 121, 122, 123, 124, 125, 126, 127, 128, 129, 130, 131, 132, 133, 134, 135, 136, 150, 151, 152, 153, 154, 155, 156, 157, 158, 159, 160, 161, 162, 163, 164, 165, 166, 167, 168, 169, 170] (by decide +kernel) (by decide +kernel)
set_option maxRecDepth 20000 in
theorem gX6_planned_X3_solve : GoodIn wsX6_planned (wsV RX6 170 RX3 yX3_solve wsX3_solve) := goodIn_app (goodIn_of _ (by decide +kernel)) ggX6_planned_X3_solve
set_option maxRecDepth 20000 in
theorem ggX6_planned_X3_hasFound : GoodIn wsX6_planned wsX3_hasFound := goodIn_r _ [140, 16, 15, 150, 151, 152, 153, 154, 155, 156, 157, 158, 159] (by decide +kernel) (by decide +kernel)
set_option maxRecDepth 20000 in
theorem gX6_planned_X3_hasFound : GoodIn wsX6_planned (wsV RX6 174 RX3 yX3_hasFound wsX3_hasFound) := goodIn_app (goodIn_of _ (by decide +kernel)) ggX6_planned_X3_hasFound
set_option maxRecDepth 20000 in
theorem ggX6_planned_X3_bestWords : GoodIn wsX6_planned wsX3_bestWords := goodIn_r _ [144, 104, 91, 37, 38, 33, 39, 35, 150, 151, 152, 153, 154, 155, 156, 157, 158, 159, 166] (by decide +kernel) (by decide +kernel)
set_option maxRecDepth 20000 in
theorem gX6_planned_X3_bestWords : GoodIn wsX6_planned (wsV RX6 190 RX3 yX3_bestWords wsX3_bestWords) := goodIn_app (goodIn_of _ (by decide +kernel)) ggX6_planned_X3_bestWords
theorem dX6_planned_0 : decode cX6_planned 0 = .ok (.iload_n 1, 1) := by decide +kernel
theorem dX6_planned_1 : decode cX6_planned 1 = .ok (.iconst 1, 1) := by decide +kernel
theorem dX6_planned_2 : decode cX6_planned 2 = .ok (.bipush 24, 2) := by decide +kernel
theorem dX6_planned_4 : decode cX6_planned 4 = .ok (.invokestatic 44, 3) := by decide +kernel
theorem dX6_planned_7 : decode cX6_planned 7 = .ok (.ifCond .eq 7, 3) := by decide +kernel
theorem dX6_planned_10 : decode cX6_planned 10 = .ok (.iload_n 2, 1) := by decide +kernel
theorem dX6_planned_11 : decode cX6_planned 11 = .ok (.ifCond .ge 5, 3) := by decide +kernel
theorem dX6_planned_14 : decode cX6_planned 14 = .ok (.iconst (-1), 1) := by decide +kernel
theorem dX6_planned_15 : decode cX6_planned 15 = .ok (.ireturn, 1) := by decide +kernel
theorem dX6_planned_16 : decode cX6_planned 16 = .ok (.aload_n 0, 1) := by decide +kernel
theorem dX6_planned_17 : decode cX6_planned 17 = .ok (.getfield 33, 3) := by decide +kernel
theorem dX6_planned_20 : decode cX6_planned 20 = .ok (.aload_n 0, 1) := by decide +kernel
theorem dX6_planned_21 : decode cX6_planned 21 = .ok (.getfield 10, 3) := by decide +kernel
theorem dX6_planned_24 : decode cX6_planned 24 = .ok (.iload_n 1, 1) := by decide +kernel
theorem dX6_planned_25 : decode cX6_planned 25 = .ok (.invokevirtual 170, 3) := by decide +kernel
theorem dX6_planned_28 : decode cX6_planned 28 = .ok (.aload_n 0, 1) := by decide +kernel
theorem dX6_planned_29 : decode cX6_planned 29 = .ok (.getfield 33, 3) := by decide +kernel
theorem dX6_planned_32 : decode cX6_planned 32 = .ok (.invokevirtual 174, 3) := by decide +kernel
theorem dX6_planned_35 : decode cX6_planned 35 = .ok (.ifCond .eq 14, 3) := by decide +kernel
theorem dX6_planned_38 : decode cX6_planned 38 = .ok (.iload_n 2, 1) := by decide +kernel
theorem dX6_planned_39 : decode cX6_planned 39 = .ok (.aload_n 0, 1) := by decide +kernel
theorem dX6_planned_40 : decode cX6_planned 40 = .ok (.getfield 33, 3) := by decide +kernel
theorem dX6_planned_43 : decode cX6_planned 43 = .ok (.getfield 181, 3) := by decide +kernel
theorem dX6_planned_46 : decode cX6_planned 46 = .ok (.if_icmp .lt 6, 3) := by decide +kernel
theorem dX6_planned_49 : decode cX6_planned 49 = .ok (.bipush (-4), 2) := by decide +kernel
theorem dX6_planned_51 : decode cX6_planned 51 = .ok (.ireturn, 1) := by decide +kernel
theorem dX6_planned_52 : decode cX6_planned 52 = .ok (.aload_n 0, 1) := by decide +kernel
theorem dX6_planned_53 : decode cX6_planned 53 = .ok (.getfield 33, 3) := by decide +kernel
theorem dX6_planned_56 : decode cX6_planned 56 = .ok (.iload_n 2, 1) := by decide +kernel
theorem dX6_planned_57 : decode cX6_planned 57 = .ok (.invokevirtual 190, 3) := by decide +kernel
theorem dX6_planned_60 : decode cX6_planned 60 = .ok (.ireturn, 1) := by decide +kernel
set_option maxRecDepth 20000 in
theorem ggX6_dam_X6_isWithin : GoodIn wsX6_dam wsX6_isWithin := goodIn_r _ [6] (by decide +kernel) (by decide +kernel)
set_option maxRecDepth 20000 in
theorem gX6_dam_X6_isWithin : GoodIn wsX6_dam (va_wsS RX6 44 yX6_isWithin wsX6_isWithin) := goodIn_app (goodIn_of _ (by decide +kernel)) ggX6_dam_X6_isWithin
set_option maxRecDepth 20000 in
theorem ggX6_dam_X3_solve : GoodIn wsX6_dam wsX3_solve := goodIn_r _ [11, 12, 13, 14, 15, 16, 17, 18, 19, 20, 21, 22, 23, 24, 25, 26, 27, 28, 29, 30, 31, 32, 33, 34, 35, 36, 37, 38, 39, 40, 41, 10, 42, 43, 44, 45, 46, 47, 48, 49, 50, 51, 52, 53, 54, 55, 56, 57, 58, 59, 60, 61, 62, 63, 64, 65, 66, 67, 68, 69, 70, 71, 72, 73, 74, 75, 76, 77, 78, 79, 80, 81, 82, 83, 84, 85, 86, 87, 88, 89, 90, 91, 92, 93, 94, 95, 96, 97, 98, 99, 100, 101, 102, 103, 104, 105, 106, 107, 108, 109, 110, 111, 112, 113, 114, 115, 116, 117, 118, 119, 120, 121, 122, 123, 124, 125, 126, 127, 128, 129, 130, 131, 132, 133, 134, 135, 191, 192, 193, 194, 195, 196, 197, 198, 199, 200, 201, 202, 203, 204, 205, 206, 207, 208, 209, 210, 211] (by decide +kernel) (by decide +kernel)
set_option maxRecDepth 20000 in
theorem gX6_dam_X3_solve : GoodIn wsX6_dam (wsV RX6 170 RX3 yX3_solve wsX3_solve) := goodIn_app (goodIn_of _ (by decide +kernel)) ggX6_dam_X3_solve
set_option maxRecDepth 20000 in
theorem ggX6_dam_X3_hasFound : GoodIn wsX6_dam wsX3_hasFound := goodIn_r _ [139, 15, 14, 191, 192, 193, 194, 195, 196, 197, 198, 199, 200] (by decide +kernel) (by decide +kernel)
set_option maxRecDepth 20000 in
theorem gX6_dam_X3_hasFound : GoodIn wsX6_dam (wsV RX6 174 RX3 yX3_hasFound wsX3_hasFound) := goodIn_app (goodIn_of _ (by decide +kernel)) ggX6_dam_X3_hasFound
set_option maxRecDepth 20000 in
theorem ggX6_dam_X3_bestChanged : GoodIn wsX6_dam wsX3_bestChanged := goodIn_r _ [143, 15, 59, 191, 192, 193, 194, 195, 196, 197, 198, 199, 200] (by decide +kernel) (by decide +kernel)
set_option maxRecDepth 20000 in
theorem gX6_dam_X3_bestChanged : GoodIn wsX6_dam (wsV RX6 178 RX3 yX3_bestChanged wsX3_bestChanged) := goodIn_app (goodIn_of _ (by decide +kernel)) ggX6_dam_X3_bestChanged
set_option maxRecDepth 20000 in
theorem ggX6_dam_X6_beginChange : GoodIn wsX6_dam wsX6_beginChange := goodIn_r _ [147, 148, 2, 1, 149, 150, 151, 152, 153, 154, 155, 156, 157, 158, 159, 160, 161, 162, 163, 164, 19, 20, 21, 22, 23, 24, 25, 26, 27, 28, 29, 30, 31, 32, 33, 34, 35, 36, 37, 38, 165, 166, 167, 10, 168, 12, 186, 187, 188, 189, 190, 212, 213, 201, 202, 203, 204, 205, 206, 207, 191, 192, 193, 194, 195, 196, 197, 198, 199, 200] (by decide +kernel) (by decide +kernel)
set_option maxRecDepth 20000 in
theorem gX6_dam_X6_beginChange : GoodIn wsX6_dam (wsV RX6 52 RX6 yX6_beginChange wsX6_beginChange) := goodIn_app (goodIn_of _ (by decide +kernel)) ggX6_dam_X6_beginChange
set_option maxRecDepth 20000 in
theorem ggX6_dam_X3_divide : GoodIn wsX6_dam wsX3_divide := goodIn_r _ [172, 16, 103, 173, 174, 175, 21, 176, 27, 177, 178, 179, 32, 180, 34, 181, 182, 183, 184, 25, 185, 51, 52, 53, 90, 36, 37, 38, 191, 192, 193, 194, 195, 196, 197, 198, 199, 200, 201, 202, 203, 204, 205, 206, 207] (by decide +kernel) (by decide +kernel)
set_option maxRecDepth 20000 in
theorem gX6_dam_X3_divide : GoodIn wsX6_dam (wsV RX6 193 RX3 yX3_divide wsX3_divide) := goodIn_app (goodIn_of _ (by decide +kernel)) ggX6_dam_X3_divide
theorem dX6_dam_0 : decode cX6_dam 0 = .ok (.iload_n 1, 1) := by decide +kernel
theorem dX6_dam_1 : decode cX6_dam 1 = .ok (.iconst 1, 1) := by decide +kernel
theorem dX6_dam_2 : decode cX6_dam 2 = .ok (.bipush 24, 2) := by decide +kernel
theorem dX6_dam_4 : decode cX6_dam 4 = .ok (.invokestatic 44, 3) := by decide +kernel
theorem dX6_dam_7 : decode cX6_dam 7 = .ok (.ifCond .ne 5, 3) := by decide +kernel
theorem dX6_dam_10 : decode cX6_dam 10 = .ok (.iconst (-1), 1) := by decide +kernel
theorem dX6_dam_11 : decode cX6_dam 11 = .ok (.ireturn, 1) := by decide +kernel
theorem dX6_dam_12 : decode cX6_dam 12 = .ok (.aload_n 0, 1) := by decide +kernel
theorem dX6_dam_13 : decode cX6_dam 13 = .ok (.getfield 33, 3) := by decide +kernel
theorem dX6_dam_16 : decode cX6_dam 16 = .ok (.aload_n 0, 1) := by decide +kernel
theorem dX6_dam_17 : decode cX6_dam 17 = .ok (.getfield 10, 3) := by decide +kernel
theorem dX6_dam_20 : decode cX6_dam 20 = .ok (.iload_n 1, 1) := by decide +kernel
theorem dX6_dam_21 : decode cX6_dam 21 = .ok (.invokevirtual 170, 3) := by decide +kernel
theorem dX6_dam_24 : decode cX6_dam 24 = .ok (.aload_n 0, 1) := by decide +kernel
theorem dX6_dam_25 : decode cX6_dam 25 = .ok (.getfield 33, 3) := by decide +kernel
theorem dX6_dam_28 : decode cX6_dam 28 = .ok (.invokevirtual 174, 3) := by decide +kernel
theorem dX6_dam_31 : decode cX6_dam 31 = .ok (.ifCond .ne 6, 3) := by decide +kernel
theorem dX6_dam_34 : decode cX6_dam 34 = .ok (.bipush (-2), 2) := by decide +kernel
theorem dX6_dam_36 : decode cX6_dam 36 = .ok (.ireturn, 1) := by decide +kernel
theorem dX6_dam_37 : decode cX6_dam 37 = .ok (.aload_n 0, 1) := by decide +kernel
theorem dX6_dam_38 : decode cX6_dam 38 = .ok (.getfield 33, 3) := by decide +kernel
theorem dX6_dam_41 : decode cX6_dam 41 = .ok (.invokevirtual 178, 3) := by decide +kernel
theorem dX6_dam_44 : decode cX6_dam 44 = .ok (.istore_n 2, 1) := by decide +kernel
theorem dX6_dam_45 : decode cX6_dam 45 = .ok (.aload_n 0, 1) := by decide +kernel
theorem dX6_dam_46 : decode cX6_dam 46 = .ok (.invokevirtual 52, 3) := by decide +kernel
theorem dX6_dam_49 : decode cX6_dam 49 = .ok (.aload_n 0, 1) := by decide +kernel
theorem dX6_dam_50 : decode cX6_dam 50 = .ok (.getfield 33, 3) := by decide +kernel
theorem dX6_dam_53 : decode cX6_dam 53 = .ok (.aload_n 0, 1) := by decide +kernel
theorem dX6_dam_54 : decode cX6_dam 54 = .ok (.getfield 10, 3) := by decide +kernel
theorem dX6_dam_57 : decode cX6_dam 57 = .ok (.invokevirtual 193, 3) := by decide +kernel
theorem dX6_dam_60 : decode cX6_dam 60 = .ok (.iload_n 2, 1) := by decide +kernel
theorem dX6_dam_61 : decode cX6_dam 61 = .ok (.ireturn, 1) := by decide +kernel
set_option maxRecDepth 20000 in
theorem ggX6_leastRiver_X3_solve : GoodIn wsX6_leastRiver wsX3_solve := goodIn_r _ [7, 8, 9, 10, 11, 12, 13, 14, 15, 16, 17, 18, 19, 20, 21, 22, 23, 24, 25, 26, 27, 28, 29, 30, 31, 32, 33, 34, 35, 36, 37, 6, 38, 39, 40, 41, 42, 43, 44, 45, 46, 47, 48, 49, 50, 51, 52, 53, 54, 55, 56, 57, 58, 59, 60, 61, 62, 63, 64, 65, 66, 67, 68, 69, 70, 71, 72, 73, 74, 75, 76, 77, 78, 79, 80, 81, 82, 83, 84, 85, 86, 87, 88, 89, 90, 91, 92, 93, 94, 95, 96, 97, 98, 99, 100, 101, 102, 103, 104, 105, 106, 107, 108, 109, 110, 111, 112, 113, 114, 115, 116, 117, 118, 119, 120, 121, 122, 123, 124, 125, 126, 127, 128, 129, 130, 131, 141, 142, 143, 144, 145, 146, 147, 148, 149, 150, 151, 152, 153, 154, 155, 156, 157, 158, 159, 160, 161] (by decide +kernel) (by decide +kernel)
set_option maxRecDepth 20000 in
theorem gX6_leastRiver_X3_solve : GoodIn wsX6_leastRiver (wsV RX6 170 RX3 yX3_solve wsX3_solve) := goodIn_app (goodIn_of _ (by decide +kernel)) ggX6_leastRiver_X3_solve
set_option maxRecDepth 20000 in
theorem ggX6_leastRiver_X3_hasFound : GoodIn wsX6_leastRiver wsX3_hasFound := goodIn_r _ [135, 11, 10, 141, 142, 143, 144, 145, 146, 147, 148, 149, 150] (by decide +kernel) (by decide +kernel)
set_option maxRecDepth 20000 in
theorem gX6_leastRiver_X3_hasFound : GoodIn wsX6_leastRiver (wsV RX6 174 RX3 yX3_hasFound wsX3_hasFound) := goodIn_app (goodIn_of _ (by decide +kernel)) ggX6_leastRiver_X3_hasFound
theorem dX6_leastRiver_0 : decode cX6_leastRiver 0 = .ok (.iconst 1, 1) := by decide +kernel
theorem dX6_leastRiver_1 : decode cX6_leastRiver 1 = .ok (.istore_n 1, 1) := by decide +kernel
theorem dX6_leastRiver_2 : decode cX6_leastRiver 2 = .ok (.iload_n 1, 1) := by decide +kernel
theorem dX6_leastRiver_3 : decode cX6_leastRiver 3 = .ok (.bipush 24, 2) := by decide +kernel
theorem dX6_leastRiver_5 : decode cX6_leastRiver 5 = .ok (.if_icmp .gt 33, 3) := by decide +kernel
theorem dX6_leastRiver_8 : decode cX6_leastRiver 8 = .ok (.aload_n 0, 1) := by decide +kernel
theorem dX6_leastRiver_9 : decode cX6_leastRiver 9 = .ok (.getfield 33, 3) := by decide +kernel
theorem dX6_leastRiver_12 : decode cX6_leastRiver 12 = .ok (.aload_n 0, 1) := by decide +kernel
theorem dX6_leastRiver_13 : decode cX6_leastRiver 13 = .ok (.getfield 10, 3) := by decide +kernel
theorem dX6_leastRiver_16 : decode cX6_leastRiver 16 = .ok (.iload_n 1, 1) := by decide +kernel
theorem dX6_leastRiver_17 : decode cX6_leastRiver 17 = .ok (.invokevirtual 170, 3) := by decide +kernel
theorem dX6_leastRiver_20 : decode cX6_leastRiver 20 = .ok (.aload_n 0, 1) := by decide +kernel
theorem dX6_leastRiver_21 : decode cX6_leastRiver 21 = .ok (.getfield 33, 3) := by decide +kernel
theorem dX6_leastRiver_24 : decode cX6_leastRiver 24 = .ok (.invokevirtual 174, 3) := by decide +kernel
theorem dX6_leastRiver_27 : decode cX6_leastRiver 27 = .ok (.ifCond .eq 5, 3) := by decide +kernel
theorem dX6_leastRiver_30 : decode cX6_leastRiver 30 = .ok (.iload_n 1, 1) := by decide +kernel
theorem dX6_leastRiver_31 : decode cX6_leastRiver 31 = .ok (.ireturn, 1) := by decide +kernel
theorem dX6_leastRiver_32 : decode cX6_leastRiver 32 = .ok (.iinc 1 1, 3) := by decide +kernel
theorem dX6_leastRiver_35 : decode cX6_leastRiver 35 = .ok (.goto (-33), 3) := by decide +kernel
theorem dX6_leastRiver_38 : decode cX6_leastRiver 38 = .ok (.bipush (-4), 2) := by decide +kernel
theorem dX6_leastRiver_40 : decode cX6_leastRiver 40 = .ok (.ireturn, 1) := by decide +kernel
set_option maxRecDepth 20000 in
theorem ggX6_type_X6_isWithin : GoodIn wsX6_type wsX6_isWithin := goodIn_r _ [6] (by decide +kernel) (by decide +kernel)
set_option maxRecDepth 20000 in
theorem gX6_type_X6_isWithin : GoodIn wsX6_type (va_wsS RX6 44 yX6_isWithin wsX6_isWithin) := goodIn_app (goodIn_of _ (by decide +kernel)) ggX6_type_X6_isWithin
set_option maxRecDepth 20000 in
theorem ggX6_type_X5_append : GoodIn wsX6_type wsX5_append := goodIn_r _ [11, 12, 13, 14, 15, 16, 17, 18, 19, 25, 26, 27] (by decide +kernel) (by decide +kernel)
set_option maxRecDepth 20000 in
theorem gX6_type_X5_append : GoodIn wsX6_type (wsV RX6 196 RX5 yX5_append wsX5_append) := goodIn_app (goodIn_of _ (by decide +kernel)) ggX6_type_X5_append
theorem dX6_type_0 : decode cX6_type 0 = .ok (.iload_n 1, 1) := by decide +kernel
theorem dX6_type_1 : decode cX6_type 1 = .ok (.bipush 32, 2) := by decide +kernel
theorem dX6_type_3 : decode cX6_type 3 = .ok (.bipush 126, 2) := by decide +kernel
theorem dX6_type_5 : decode cX6_type 5 = .ok (.invokestatic 44, 3) := by decide +kernel
theorem dX6_type_8 : decode cX6_type 8 = .ok (.ifCond .ne 5, 3) := by decide +kernel
theorem dX6_type_11 : decode cX6_type 11 = .ok (.iconst (-1), 1) := by decide +kernel
theorem dX6_type_12 : decode cX6_type 12 = .ok (.ireturn, 1) := by decide +kernel
theorem dX6_type_13 : decode cX6_type 13 = .ok (.aload_n 0, 1) := by decide +kernel
theorem dX6_type_14 : decode cX6_type 14 = .ok (.getfield 40, 3) := by decide +kernel
theorem dX6_type_17 : decode cX6_type 17 = .ok (.getfield 124, 3) := by decide +kernel
theorem dX6_type_20 : decode cX6_type 20 = .ok (.bipush 100, 2) := by decide +kernel
theorem dX6_type_22 : decode cX6_type 22 = .ok (.if_icmp .lt 6, 3) := by decide +kernel
theorem dX6_type_25 : decode cX6_type 25 = .ok (.bipush (-3), 2) := by decide +kernel
theorem dX6_type_27 : decode cX6_type 27 = .ok (.ireturn, 1) := by decide +kernel
theorem dX6_type_28 : decode cX6_type 28 = .ok (.aload_n 0, 1) := by decide +kernel
theorem dX6_type_29 : decode cX6_type 29 = .ok (.getfield 40, 3) := by decide +kernel
theorem dX6_type_32 : decode cX6_type 32 = .ok (.iload_n 1, 1) := by decide +kernel
theorem dX6_type_33 : decode cX6_type 33 = .ok (.invokevirtual 196, 3) := by decide +kernel
theorem dX6_type_36 : decode cX6_type 36 = .ok (.aload_n 0, 1) := by decide +kernel
theorem dX6_type_37 : decode cX6_type 37 = .ok (.getfield 40, 3) := by decide +kernel
theorem dX6_type_40 : decode cX6_type 40 = .ok (.getfield 124, 3) := by decide +kernel
theorem dX6_type_43 : decode cX6_type 43 = .ok (.ireturn, 1) := by decide +kernel
theorem dX6_clearText_0 : decode cX6_clearText 0 = .ok (.aload_n 0, 1) := by decide +kernel
theorem dX6_clearText_1 : decode cX6_clearText 1 = .ok (.getfield 40, 3) := by decide +kernel
theorem dX6_clearText_4 : decode cX6_clearText 4 = .ok (.getfield 124, 3) := by decide +kernel
theorem dX6_clearText_7 : decode cX6_clearText 7 = .ok (.istore_n 1, 1) := by decide +kernel
theorem dX6_clearText_8 : decode cX6_clearText 8 = .ok (.aload_n 0, 1) := by decide +kernel
theorem dX6_clearText_9 : decode cX6_clearText 9 = .ok (.getfield 40, 3) := by decide +kernel
theorem dX6_clearText_12 : decode cX6_clearText 12 = .ok (.iconst 0, 1) := by decide +kernel
theorem dX6_clearText_13 : decode cX6_clearText 13 = .ok (.putfield 124, 3) := by decide +kernel
theorem dX6_clearText_16 : decode cX6_clearText 16 = .ok (.iload_n 1, 1) := by decide +kernel
theorem dX6_clearText_17 : decode cX6_clearText 17 = .ok (.ireturn, 1) := by decide +kernel
set_option maxRecDepth 20000 in
theorem ggX6_fault_X5_firstFault : GoodIn wsX6_fault wsX5_firstFault := goodIn_r _ [6, 7, 8, 9, 10, 11, 12, 13, 14, 20, 21, 22] (by decide +kernel) (by decide +kernel)
set_option maxRecDepth 20000 in
theorem gX6_fault_X5_firstFault : GoodIn wsX6_fault (wsV RX6 197 RX5 yX5_firstFault wsX5_firstFault) := goodIn_app (goodIn_of _ (by decide +kernel)) ggX6_fault_X5_firstFault
theorem dX6_fault_0 : decode cX6_fault 0 = .ok (.aload_n 0, 1) := by decide +kernel
theorem dX6_fault_1 : decode cX6_fault 1 = .ok (.getfield 40, 3) := by decide +kernel
theorem dX6_fault_4 : decode cX6_fault 4 = .ok (.invokevirtual 197, 3) := by decide +kernel
theorem dX6_fault_7 : decode cX6_fault 7 = .ok (.ireturn, 1) := by decide +kernel
set_option maxRecDepth 20000 in
theorem ggX6_read_X5_firstFault : GoodIn wsX6_read wsX5_firstFault := goodIn_r _ [8, 9, 10, 11, 12, 13, 14, 15, 16, 113, 114, 115] (by decide +kernel) (by decide +kernel)
set_option maxRecDepth 20000 in
theorem gX6_read_X5_firstFault : GoodIn wsX6_read (wsV RX6 197 RX5 yX5_firstFault wsX5_firstFault) := goodIn_app (goodIn_of _ (by decide +kernel)) ggX6_read_X5_firstFault
set_option maxRecDepth 20000 in
theorem ggX6_read_X6_beginChange : GoodIn wsX6_read wsX6_beginChange := goodIn_r _ [21, 22, 2, 23, 24, 25, 26, 27, 28, 29, 30, 31, 32, 33, 34, 35, 36, 37, 38, 39, 40, 41, 42, 43, 44, 45, 46, 47, 48, 49, 50, 51, 52, 14, 53, 16, 54, 12, 13, 15, 55, 56, 57, 58, 59, 60, 102, 103, 104, 105, 106, 116, 117, 107, 108, 109, 110, 111, 112, 115, 118, 119, 120, 121, 122, 123, 124, 125, 126, 127] (by decide +kernel) (by decide +kernel)
set_option maxRecDepth 20000 in
theorem gX6_read_X6_beginChange : GoodIn wsX6_read (wsV RX6 52 RX6 yX6_beginChange wsX6_beginChange) := goodIn_app (goodIn_of _ (by decide +kernel)) ggX6_read_X6_beginChange
set_option maxRecDepth 20000 in
theorem ggX6_read_X5_giveWords : GoodIn wsX6_read wsX5_giveWords := goodIn_r _ [64, 9, 10, 65, 66, 67, 42, 68, 46, 48, 49, 69, 70, 71, 14, 72, 16, 11, 12, 13, 15, 73, 74, 75, 76, 47, 77, 78, 79, 80, 113, 114, 107, 108, 109, 110, 111, 112, 115] (by decide +kernel) (by decide +kernel)
set_option maxRecDepth 20000 in
theorem gX6_read_X5_giveWords : GoodIn wsX6_read (wsV RX6 200 RX5 yX5_giveWords wsX5_giveWords) := goodIn_app (goodIn_of _ (by decide +kernel)) ggX6_read_X5_giveWords
set_option maxRecDepth 20000 in
theorem ggX6_read_X1_fill : GoodIn wsX6_read wsX1_fill := goodIn_r _ [84, 46, 85, 86, 87, 42, 88, 48, 69, 70, 71, 14, 72, 16, 89, 90, 91, 92, 93, 94, 95, 96, 44, 47, 97, 12, 13, 15, 98, 99, 100, 101, 77, 78, 79, 80, 107, 108, 109, 110, 111, 112, 115] (by decide +kernel) (by decide +kernel)
set_option maxRecDepth 20000 in
theorem gX6_read_X1_fill : GoodIn wsX6_read (wsV RX6 59 RX1 yX1_fill wsX1_fill) := goodIn_app (goodIn_of _ (by decide +kernel)) ggX6_read_X1_fill
theorem dX6_read_0 : decode cX6_read 0 = .ok (.aload_n 0, 1) := by decide +kernel
theorem dX6_read_1 : decode cX6_read 1 = .ok (.getfield 40, 3) := by decide +kernel
theorem dX6_read_4 : decode cX6_read 4 = .ok (.invokevirtual 197, 3) := by decide +kernel
theorem dX6_read_7 : decode cX6_read 7 = .ok (.bipush (-4), 2) := by decide +kernel
theorem dX6_read_9 : decode cX6_read 9 = .ok (.if_icmp .eq 6, 3) := by decide +kernel
theorem dX6_read_12 : decode cX6_read 12 = .ok (.bipush (-2), 2) := by decide +kernel
theorem dX6_read_14 : decode cX6_read 14 = .ok (.ireturn, 1) := by decide +kernel
theorem dX6_read_15 : decode cX6_read 15 = .ok (.aload_n 0, 1) := by decide +kernel
theorem dX6_read_16 : decode cX6_read 16 = .ok (.invokevirtual 52, 3) := by decide +kernel
theorem dX6_read_19 : decode cX6_read 19 = .ok (.aload_n 0, 1) := by decide +kernel
theorem dX6_read_20 : decode cX6_read 20 = .ok (.getfield 40, 3) := by decide +kernel
theorem dX6_read_23 : decode cX6_read 23 = .ok (.aload_n 0, 1) := by decide +kernel
theorem dX6_read_24 : decode cX6_read 24 = .ok (.getfield 10, 3) := by decide +kernel
theorem dX6_read_27 : decode cX6_read 27 = .ok (.invokevirtual 200, 3) := by decide +kernel
theorem dX6_read_30 : decode cX6_read 30 = .ok (.aload_n 0, 1) := by decide +kernel
theorem dX6_read_31 : decode cX6_read 31 = .ok (.getfield 10, 3) := by decide +kernel
theorem dX6_read_34 : decode cX6_read 34 = .ok (.invokevirtual 59, 3) := by decide +kernel
theorem dX6_read_37 : decode cX6_read 37 = .ok (.aload_n 0, 1) := by decide +kernel
theorem dX6_read_38 : decode cX6_read 38 = .ok (.getfield 10, 3) := by decide +kernel
theorem dX6_read_41 : decode cX6_read 41 = .ok (.getfield 68, 3) := by decide +kernel
theorem dX6_read_44 : decode cX6_read 44 = .ok (.ireturn, 1) := by decide +kernel
set_option maxRecDepth 20000 in
theorem ggX6_beginChange_X0_keep : GoodIn wsX6_beginChange wsX0_keep := goodIn_r _ [8, 9, 10, 11, 12, 13, 7, 14, 15, 16, 17, 18, 19, 20, 21, 22, 23, 24, 25, 26, 27, 28, 29, 30, 31, 32, 33, 34, 35, 36, 37, 38, 39, 51, 52, 53, 54, 55, 56, 57, 58, 59] (by decide +kernel) (by decide +kernel)
set_option maxRecDepth 20000 in
theorem gX6_beginChange_X0_keep : GoodIn wsX6_beginChange (wsV RX6 203 RX0 yX0_keep wsX0_keep) := goodIn_app (goodIn_of _ (by decide +kernel)) ggX6_beginChange_X0_keep
set_option maxRecDepth 20000 in
theorem ggX6_beginChange_X3_forget : GoodIn wsX6_beginChange wsX3_forget := goodIn_r _ [44, 45, 60, 61, 62, 63, 64, 65, 66, 67, 68, 69] (by decide +kernel) (by decide +kernel)
set_option maxRecDepth 20000 in
theorem gX6_beginChange_X3_forget : GoodIn wsX6_beginChange (wsV RX6 148 RX3 yX3_forget wsX3_forget) := goodIn_app (goodIn_of _ (by decide +kernel)) ggX6_beginChange_X3_forget
theorem dX6_beginChange_0 : decode cX6_beginChange 0 = .ok (.aload_n 0, 1) := by decide +kernel
theorem dX6_beginChange_1 : decode cX6_beginChange 1 = .ok (.getfield 19, 3) := by decide +kernel
theorem dX6_beginChange_4 : decode cX6_beginChange 4 = .ok (.aload_n 0, 1) := by decide +kernel
theorem dX6_beginChange_5 : decode cX6_beginChange 5 = .ok (.getfield 10, 3) := by decide +kernel
theorem dX6_beginChange_8 : decode cX6_beginChange 8 = .ok (.invokevirtual 203, 3) := by decide +kernel
theorem dX6_beginChange_11 : decode cX6_beginChange 11 = .ok (.aload_n 0, 1) := by decide +kernel
theorem dX6_beginChange_12 : decode cX6_beginChange 12 = .ok (.getfield 33, 3) := by decide +kernel
theorem dX6_beginChange_15 : decode cX6_beginChange 15 = .ok (.invokevirtual 148, 3) := by decide +kernel
theorem dX6_beginChange_18 : decode cX6_beginChange 18 = .ok (.return_, 1) := by decide +kernel
set_option maxRecDepth 20000 in
theorem ggX6_gapAbove_X1_lineOf : GoodIn wsX6_gapAbove wsX1_lineOf := goodIn_r _ [7, 8, 9, 10, 11, 12, 13, 14, 15, 45, 46, 47, 48, 49, 50, 51] (by decide +kernel) (by decide +kernel)
set_option maxRecDepth 20000 in
theorem gX6_gapAbove_X1_lineOf : GoodIn wsX6_gapAbove (wsV RX6 133 RX1 yX1_lineOf wsX1_lineOf) := goodIn_app (goodIn_of _ (by decide +kernel)) ggX6_gapAbove_X1_lineOf
set_option maxRecDepth 20000 in
theorem ggX6_gapAbove_X1_firstOf : GoodIn wsX6_gapAbove wsX1_firstOf := goodIn_r _ [19, 8, 9, 10, 11, 12, 13, 14, 15, 45, 46, 47, 48, 49, 50, 51] (by decide +kernel) (by decide +kernel)
set_option maxRecDepth 20000 in
theorem gX6_gapAbove_X1_firstOf : GoodIn wsX6_gapAbove (wsV RX6 71 RX1 yX1_firstOf wsX1_firstOf) := goodIn_app (goodIn_of _ (by decide +kernel)) ggX6_gapAbove_X1_firstOf
set_option maxRecDepth 20000 in
theorem ggX6_gapAbove_X4_meet : GoodIn wsX6_gapAbove wsX4_meet := goodIn_r _ [24, 25, 26, 27, 28, 29, 30, 31, 32, 33, 34, 11, 12, 13, 14, 15, 52, 53, 54, 55, 51] (by decide +kernel) (by decide +kernel)
set_option maxRecDepth 20000 in
theorem gX6_gapAbove_X4_meet : GoodIn wsX6_gapAbove (wsV RX6 206 RX4 yX4_meet wsX4_meet) := goodIn_app (goodIn_of _ (by decide +kernel)) ggX6_gapAbove_X4_meet
set_option maxRecDepth 20000 in
theorem ggX6_gapAbove_X4_reachOf : GoodIn wsX6_gapAbove wsX4_reachOf := goodIn_r _ [38, 39, 34, 11, 12, 13, 14, 15, 52, 53, 54, 55, 51] (by decide +kernel) (by decide +kernel)
set_option maxRecDepth 20000 in
theorem gX6_gapAbove_X4_reachOf : GoodIn wsX6_gapAbove (wsV RX6 157 RX4 yX4_reachOf wsX4_reachOf) := goodIn_app (goodIn_of _ (by decide +kernel)) ggX6_gapAbove_X4_reachOf
theorem dX6_gapAbove_0 : decode cX6_gapAbove 0 = .ok (.aload_n 0, 1) := by decide +kernel
theorem dX6_gapAbove_1 : decode cX6_gapAbove 1 = .ok (.getfield 10, 3) := by decide +kernel
theorem dX6_gapAbove_4 : decode cX6_gapAbove 4 = .ok (.iload_n 1, 1) := by decide +kernel
theorem dX6_gapAbove_5 : decode cX6_gapAbove 5 = .ok (.invokevirtual 133, 3) := by decide +kernel
theorem dX6_gapAbove_8 : decode cX6_gapAbove 8 = .ok (.istore_n 2, 1) := by decide +kernel
theorem dX6_gapAbove_9 : decode cX6_gapAbove 9 = .ok (.aload_n 0, 1) := by decide +kernel
theorem dX6_gapAbove_10 : decode cX6_gapAbove 10 = .ok (.getfield 10, 3) := by decide +kernel
theorem dX6_gapAbove_13 : decode cX6_gapAbove 13 = .ok (.iload_n 2, 1) := by decide +kernel
theorem dX6_gapAbove_14 : decode cX6_gapAbove 14 = .ok (.iconst 1, 1) := by decide +kernel
theorem dX6_gapAbove_15 : decode cX6_gapAbove 15 = .ok (.isub, 1) := by decide +kernel
theorem dX6_gapAbove_16 : decode cX6_gapAbove 16 = .ok (.invokevirtual 71, 3) := by decide +kernel
theorem dX6_gapAbove_19 : decode cX6_gapAbove 19 = .ok (.istore_n 3, 1) := by decide +kernel
theorem dX6_gapAbove_20 : decode cX6_gapAbove 20 = .ok (.aload_n 0, 1) := by decide +kernel
theorem dX6_gapAbove_21 : decode cX6_gapAbove 21 = .ok (.getfield 10, 3) := by decide +kernel
theorem dX6_gapAbove_24 : decode cX6_gapAbove 24 = .ok (.iload_n 2, 1) := by decide +kernel
theorem dX6_gapAbove_25 : decode cX6_gapAbove 25 = .ok (.invokevirtual 71, 3) := by decide +kernel
theorem dX6_gapAbove_28 : decode cX6_gapAbove 28 = .ok (.istore 4, 2) := by decide +kernel
theorem dX6_gapAbove_30 : decode cX6_gapAbove 30 = .ok (.iload_n 3, 1) := by decide +kernel
theorem dX6_gapAbove_31 : decode cX6_gapAbove 31 = .ok (.istore 5, 2) := by decide +kernel
theorem dX6_gapAbove_33 : decode cX6_gapAbove 33 = .ok (.iload 5, 2) := by decide +kernel
theorem dX6_gapAbove_35 : decode cX6_gapAbove 35 = .ok (.iload 4, 2) := by decide +kernel
theorem dX6_gapAbove_37 : decode cX6_gapAbove 37 = .ok (.if_icmp .ge 47, 3) := by decide +kernel
theorem dX6_gapAbove_40 : decode cX6_gapAbove 40 = .ok (.aload_n 0, 1) := by decide +kernel
theorem dX6_gapAbove_41 : decode cX6_gapAbove 41 = .ok (.getfield 26, 3) := by decide +kernel
theorem dX6_gapAbove_44 : decode cX6_gapAbove 44 = .ok (.iload 5, 2) := by decide +kernel
theorem dX6_gapAbove_46 : decode cX6_gapAbove 46 = .ok (.iload_n 1, 1) := by decide +kernel
theorem dX6_gapAbove_47 : decode cX6_gapAbove 47 = .ok (.invokevirtual 206, 3) := by decide +kernel
theorem dX6_gapAbove_50 : decode cX6_gapAbove 50 = .ok (.ifCond .eq 28, 3) := by decide +kernel
theorem dX6_gapAbove_53 : decode cX6_gapAbove 53 = .ok (.aload_n 0, 1) := by decide +kernel
theorem dX6_gapAbove_54 : decode cX6_gapAbove 54 = .ok (.getfield 26, 3) := by decide +kernel
theorem dX6_gapAbove_57 : decode cX6_gapAbove 57 = .ok (.iload 5, 2) := by decide +kernel
theorem dX6_gapAbove_59 : decode cX6_gapAbove 59 = .ok (.invokevirtual 157, 3) := by decide +kernel
theorem dX6_gapAbove_62 : decode cX6_gapAbove 62 = .ok (.aload_n 0, 1) := by decide +kernel
theorem dX6_gapAbove_63 : decode cX6_gapAbove 63 = .ok (.getfield 26, 3) := by decide +kernel
theorem dX6_gapAbove_66 : decode cX6_gapAbove 66 = .ok (.iload_n 1, 1) := by decide +kernel
theorem dX6_gapAbove_67 : decode cX6_gapAbove 67 = .ok (.invokevirtual 157, 3) := by decide +kernel
theorem dX6_gapAbove_70 : decode cX6_gapAbove 70 = .ok (.iconst 1, 1) := by decide +kernel
theorem dX6_gapAbove_71 : decode cX6_gapAbove 71 = .ok (.isub, 1) := by decide +kernel
theorem dX6_gapAbove_72 : decode cX6_gapAbove 72 = .ok (.if_icmp .ne 6, 3) := by decide +kernel
theorem dX6_gapAbove_75 : decode cX6_gapAbove 75 = .ok (.iload 5, 2) := by decide +kernel
theorem dX6_gapAbove_77 : decode cX6_gapAbove 77 = .ok (.ireturn, 1) := by decide +kernel
theorem dX6_gapAbove_78 : decode cX6_gapAbove 78 = .ok (.iinc 5 1, 3) := by decide +kernel
theorem dX6_gapAbove_81 : decode cX6_gapAbove 81 = .ok (.goto (-48), 3) := by decide +kernel
theorem dX6_gapAbove_84 : decode cX6_gapAbove 84 = .ok (.iload_n 1, 1) := by decide +kernel
theorem dX6_gapAbove_85 : decode cX6_gapAbove 85 = .ok (.ireturn, 1) := by decide +kernel
theorem dX6_isWithin_0 : decode cX6_isWithin 0 = .ok (.iload_n 0, 1) := by decide +kernel
theorem dX6_isWithin_1 : decode cX6_isWithin 1 = .ok (.iload_n 1, 1) := by decide +kernel
theorem dX6_isWithin_2 : decode cX6_isWithin 2 = .ok (.if_icmp .lt 12, 3) := by decide +kernel
theorem dX6_isWithin_5 : decode cX6_isWithin 5 = .ok (.iload_n 0, 1) := by decide +kernel
theorem dX6_isWithin_6 : decode cX6_isWithin 6 = .ok (.iload_n 2, 1) := by decide +kernel
theorem dX6_isWithin_7 : decode cX6_isWithin 7 = .ok (.if_icmp .gt 7, 3) := by decide +kernel
theorem dX6_isWithin_10 : decode cX6_isWithin 10 = .ok (.iconst 1, 1) := by decide +kernel
theorem dX6_isWithin_11 : decode cX6_isWithin 11 = .ok (.goto 4, 3) := by decide +kernel
theorem dX6_isWithin_14 : decode cX6_isWithin 14 = .ok (.iconst 0, 1) := by decide +kernel
theorem dX6_isWithin_15 : decode cX6_isWithin 15 = .ok (.ireturn, 1) := by decide +kernel
theorem dX7_init_0 : decode cX7_init 0 = .ok (.aload_n 0, 1) := by decide +kernel
theorem dX7_init_1 : decode cX7_init 1 = .ok (.invokespecial 1, 3) := by decide +kernel
theorem dX7_init_4 : decode cX7_init 4 = .ok (.aload_n 0, 1) := by decide +kernel
theorem dX7_init_5 : decode cX7_init 5 = .ok (.bipush 77, 2) := by decide +kernel
theorem dX7_init_7 : decode cX7_init 7 = .ok (.newarray .int, 2) := by decide +kernel
theorem dX7_init_9 : decode cX7_init 9 = .ok (.putfield 7, 3) := by decide +kernel
theorem dX7_init_12 : decode cX7_init 12 = .ok (.aload_n 0, 1) := by decide +kernel
theorem dX7_init_13 : decode cX7_init 13 = .ok (.sipush 385, 3) := by decide +kernel
theorem dX7_init_16 : decode cX7_init 16 = .ok (.newarray .int, 2) := by decide +kernel
theorem dX7_init_18 : decode cX7_init 18 = .ok (.putfield 13, 3) := by decide +kernel
theorem dX7_init_21 : decode cX7_init 21 = .ok (.aload_n 0, 1) := by decide +kernel
theorem dX7_init_22 : decode cX7_init 22 = .ok (.bipush 100, 2) := by decide +kernel
theorem dX7_init_24 : decode cX7_init 24 = .ok (.newarray .char, 2) := by decide +kernel
theorem dX7_init_26 : decode cX7_init 26 = .ok (.putfield 16, 3) := by decide +kernel
theorem dX7_init_29 : decode cX7_init 29 = .ok (.aload_n 0, 1) := by decide +kernel
theorem dX7_init_30 : decode cX7_init 30 = .ok (.bipush 24, 2) := by decide +kernel
theorem dX7_init_32 : decode cX7_init 32 = .ok (.newarray .int, 2) := by decide +kernel
theorem dX7_init_34 : decode cX7_init 34 = .ok (.putfield 20, 3) := by decide +kernel
theorem dX7_init_37 : decode cX7_init 37 = .ok (.aload_n 0, 1) := by decide +kernel
theorem dX7_init_38 : decode cX7_init 38 = .ok (.bipush 24, 2) := by decide +kernel
theorem dX7_init_40 : decode cX7_init 40 = .ok (.newarray .int, 2) := by decide +kernel
theorem dX7_init_42 : decode cX7_init 42 = .ok (.putfield 23, 3) := by decide +kernel
theorem dX7_init_45 : decode cX7_init 45 = .ok (.aload_n 0, 1) := by decide +kernel
theorem dX7_init_46 : decode cX7_init 46 = .ok (.bipush 24, 2) := by decide +kernel
theorem dX7_init_48 : decode cX7_init 48 = .ok (.newarray .int, 2) := by decide +kernel
theorem dX7_init_50 : decode cX7_init 50 = .ok (.putfield 26, 3) := by decide +kernel
theorem dX7_init_53 : decode cX7_init 53 = .ok (.aload_n 0, 1) := by decide +kernel
theorem dX7_init_54 : decode cX7_init 54 = .ok (.bipush 24, 2) := by decide +kernel
theorem dX7_init_56 : decode cX7_init 56 = .ok (.newarray .int, 2) := by decide +kernel
theorem dX7_init_58 : decode cX7_init 58 = .ok (.putfield 29, 3) := by decide +kernel
theorem dX7_init_61 : decode cX7_init 61 = .ok (.aload_n 0, 1) := by decide +kernel
theorem dX7_init_62 : decode cX7_init 62 = .ok (.bipush 26, 2) := by decide +kernel
theorem dX7_init_64 : decode cX7_init 64 = .ok (.newarray .int, 2) := by decide +kernel
theorem dX7_init_66 : decode cX7_init 66 = .ok (.putfield 32, 3) := by decide +kernel
theorem dX7_init_69 : decode cX7_init 69 = .ok (.aload_n 0, 1) := by decide +kernel
theorem dX7_init_70 : decode cX7_init 70 = .ok (.bipush 26, 2) := by decide +kernel
theorem dX7_init_72 : decode cX7_init 72 = .ok (.newarray .int, 2) := by decide +kernel
theorem dX7_init_74 : decode cX7_init 74 = .ok (.putfield 35, 3) := by decide +kernel
theorem dX7_init_77 : decode cX7_init 77 = .ok (.aload_n 0, 1) := by decide +kernel
theorem dX7_init_78 : decode cX7_init 78 = .ok (.bipush 26, 2) := by decide +kernel
theorem dX7_init_80 : decode cX7_init 80 = .ok (.newarray .int, 2) := by decide +kernel
theorem dX7_init_82 : decode cX7_init 82 = .ok (.putfield 38, 3) := by decide +kernel
theorem dX7_init_85 : decode cX7_init 85 = .ok (.aload_n 0, 1) := by decide +kernel
theorem dX7_init_86 : decode cX7_init 86 = .ok (.bipush 26, 2) := by decide +kernel
theorem dX7_init_88 : decode cX7_init 88 = .ok (.newarray .int, 2) := by decide +kernel
theorem dX7_init_90 : decode cX7_init 90 = .ok (.putfield 41, 3) := by decide +kernel
theorem dX7_init_93 : decode cX7_init 93 = .ok (.aload_n 0, 1) := by decide +kernel
theorem dX7_init_94 : decode cX7_init 94 = .ok (.bipush 26, 2) := by decide +kernel
theorem dX7_init_96 : decode cX7_init 96 = .ok (.newarray .int, 2) := by decide +kernel
theorem dX7_init_98 : decode cX7_init 98 = .ok (.putfield 44, 3) := by decide +kernel
theorem dX7_init_101 : decode cX7_init 101 = .ok (.aload_n 0, 1) := by decide +kernel
theorem dX7_init_102 : decode cX7_init 102 = .ok (.bipush 26, 2) := by decide +kernel
theorem dX7_init_104 : decode cX7_init 104 = .ok (.newarray .int, 2) := by decide +kernel
theorem dX7_init_106 : decode cX7_init 106 = .ok (.putfield 47, 3) := by decide +kernel
theorem dX7_init_109 : decode cX7_init 109 = .ok (.aload_n 0, 1) := by decide +kernel
theorem dX7_init_110 : decode cX7_init 110 = .ok (.getfield 7, 3) := by decide +kernel
theorem dX7_init_113 : decode cX7_init 113 = .ok (.iconst 1, 1) := by decide +kernel
theorem dX7_init_114 : decode cX7_init 114 = .ok (.bipush 24, 2) := by decide +kernel
theorem dX7_init_116 : decode cX7_init 116 = .ok (.iastore, 1) := by decide +kernel
theorem dX7_init_117 : decode cX7_init 117 = .ok (.aload_n 0, 1) := by decide +kernel
theorem dX7_init_118 : decode cX7_init 118 = .ok (.getfield 7, 3) := by decide +kernel
theorem dX7_init_121 : decode cX7_init 121 = .ok (.iconst 2, 1) := by decide +kernel
theorem dX7_init_122 : decode cX7_init 122 = .ok (.bipush 6, 2) := by decide +kernel
theorem dX7_init_124 : decode cX7_init 124 = .ok (.iastore, 1) := by decide +kernel
theorem dX7_init_125 : decode cX7_init 125 = .ok (.return_, 1) := by decide +kernel
theorem dX7_in_0 : decode cX7_in 0 = .ok (.iload_n 0, 1) := by decide +kernel
theorem dX7_in_1 : decode cX7_in 1 = .ok (.iload_n 1, 1) := by decide +kernel
theorem dX7_in_2 : decode cX7_in 2 = .ok (.if_icmp .lt 12, 3) := by decide +kernel
theorem dX7_in_5 : decode cX7_in 5 = .ok (.iload_n 0, 1) := by decide +kernel
theorem dX7_in_6 : decode cX7_in 6 = .ok (.iload_n 2, 1) := by decide +kernel
theorem dX7_in_7 : decode cX7_in 7 = .ok (.if_icmp .gt 7, 3) := by decide +kernel
theorem dX7_in_10 : decode cX7_in 10 = .ok (.iconst 1, 1) := by decide +kernel
theorem dX7_in_11 : decode cX7_in 11 = .ok (.goto 4, 3) := by decide +kernel
theorem dX7_in_14 : decode cX7_in 14 = .ok (.iconst 0, 1) := by decide +kernel
theorem dX7_in_15 : decode cX7_in 15 = .ok (.ireturn, 1) := by decide +kernel
set_option maxRecDepth 20000 in
theorem ggX7_isLine_X7_in : GoodIn wsX7_isLine wsX7_in := goodIn_r _ [5] (by decide +kernel) (by decide +kernel)
set_option maxRecDepth 20000 in
theorem gX7_isLine_X7_in : GoodIn wsX7_isLine (va_wsS RX7 50 yX7_in wsX7_in) := goodIn_app (goodIn_of _ (by decide +kernel)) ggX7_isLine_X7_in
theorem dX7_isLine_0 : decode cX7_isLine 0 = .ok (.iload_n 1, 1) := by decide +kernel
theorem dX7_isLine_1 : decode cX7_isLine 1 = .ok (.iconst 0, 1) := by decide +kernel
theorem dX7_isLine_2 : decode cX7_isLine 2 = .ok (.aload_n 0, 1) := by decide +kernel
theorem dX7_isLine_3 : decode cX7_isLine 3 = .ok (.getfield 7, 3) := by decide +kernel
theorem dX7_isLine_6 : decode cX7_isLine 6 = .ok (.iconst 3, 1) := by decide +kernel
theorem dX7_isLine_7 : decode cX7_isLine 7 = .ok (.iaload, 1) := by decide +kernel
theorem dX7_isLine_8 : decode cX7_isLine 8 = .ok (.iconst 1, 1) := by decide +kernel
theorem dX7_isLine_9 : decode cX7_isLine 9 = .ok (.isub, 1) := by decide +kernel
theorem dX7_isLine_10 : decode cX7_isLine 10 = .ok (.invokestatic 50, 3) := by decide +kernel
theorem dX7_isLine_13 : decode cX7_isLine 13 = .ok (.ireturn, 1) := by decide +kernel
theorem dX7_records_0 : decode cX7_records 0 = .ok (.aload_n 0, 1) := by decide +kernel
theorem dX7_records_1 : decode cX7_records 1 = .ok (.getfield 54, 3) := by decide +kernel
theorem dX7_records_4 : decode cX7_records 4 = .ok (.iconst 5, 1) := by decide +kernel
theorem dX7_records_5 : decode cX7_records 5 = .ok (.if_icmp .ne 43, 3) := by decide +kernel
theorem dX7_records_8 : decode cX7_records 8 = .ok (.iconst 0, 1) := by decide +kernel
theorem dX7_records_9 : decode cX7_records 9 = .ok (.istore_n 1, 1) := by decide +kernel
theorem dX7_records_10 : decode cX7_records 10 = .ok (.iload_n 1, 1) := by decide +kernel
theorem dX7_records_11 : decode cX7_records 11 = .ok (.sipush 308, 3) := by decide +kernel
theorem dX7_records_14 : decode cX7_records 14 = .ok (.if_icmp .ge 24, 3) := by decide +kernel
theorem dX7_records_17 : decode cX7_records 17 = .ok (.aload_n 0, 1) := by decide +kernel
theorem dX7_records_18 : decode cX7_records 18 = .ok (.getfield 13, 3) := by decide +kernel
theorem dX7_records_21 : decode cX7_records 21 = .ok (.iload_n 1, 1) := by decide +kernel
theorem dX7_records_22 : decode cX7_records 22 = .ok (.aload_n 0, 1) := by decide +kernel
theorem dX7_records_23 : decode cX7_records 23 = .ok (.getfield 13, 3) := by decide +kernel
theorem dX7_records_26 : decode cX7_records 26 = .ok (.iload_n 1, 1) := by decide +kernel
theorem dX7_records_27 : decode cX7_records 27 = .ok (.bipush 77, 2) := by decide +kernel
theorem dX7_records_29 : decode cX7_records 29 = .ok (.iadd, 1) := by decide +kernel
theorem dX7_records_30 : decode cX7_records 30 = .ok (.iaload, 1) := by decide +kernel
theorem dX7_records_31 : decode cX7_records 31 = .ok (.iastore, 1) := by decide +kernel
theorem dX7_records_32 : decode cX7_records 32 = .ok (.iinc 1 1, 3) := by decide +kernel
theorem dX7_records_35 : decode cX7_records 35 = .ok (.goto (-25), 3) := by decide +kernel
theorem dX7_records_38 : decode cX7_records 38 = .ok (.aload_n 0, 1) := by decide +kernel
theorem dX7_records_39 : decode cX7_records 39 = .ok (.dup, 1) := by decide +kernel
theorem dX7_records_40 : decode cX7_records 40 = .ok (.getfield 54, 3) := by decide +kernel
theorem dX7_records_43 : decode cX7_records 43 = .ok (.iconst 1, 1) := by decide +kernel
theorem dX7_records_44 : decode cX7_records 44 = .ok (.isub, 1) := by decide +kernel
theorem dX7_records_45 : decode cX7_records 45 = .ok (.putfield 54, 3) := by decide +kernel
theorem dX7_records_48 : decode cX7_records 48 = .ok (.iconst 0, 1) := by decide +kernel
theorem dX7_records_49 : decode cX7_records 49 = .ok (.istore_n 1, 1) := by decide +kernel
theorem dX7_records_50 : decode cX7_records 50 = .ok (.iload_n 1, 1) := by decide +kernel
theorem dX7_records_51 : decode cX7_records 51 = .ok (.bipush 77, 2) := by decide +kernel
theorem dX7_records_53 : decode cX7_records 53 = .ok (.if_icmp .ge 29, 3) := by decide +kernel
theorem dX7_records_56 : decode cX7_records 56 = .ok (.aload_n 0, 1) := by decide +kernel
theorem dX7_records_57 : decode cX7_records 57 = .ok (.getfield 13, 3) := by decide +kernel
theorem dX7_records_60 : decode cX7_records 60 = .ok (.bipush 77, 2) := by decide +kernel
theorem dX7_records_62 : decode cX7_records 62 = .ok (.aload_n 0, 1) := by decide +kernel
theorem dX7_records_63 : decode cX7_records 63 = .ok (.getfield 54, 3) := by decide +kernel
theorem dX7_records_66 : decode cX7_records 66 = .ok (.imul, 1) := by decide +kernel
theorem dX7_records_67 : decode cX7_records 67 = .ok (.iload_n 1, 1) := by decide +kernel
theorem dX7_records_68 : decode cX7_records 68 = .ok (.iadd, 1) := by decide +kernel
theorem dX7_records_69 : decode cX7_records 69 = .ok (.aload_n 0, 1) := by decide +kernel
theorem dX7_records_70 : decode cX7_records 70 = .ok (.getfield 7, 3) := by decide +kernel
theorem dX7_records_73 : decode cX7_records 73 = .ok (.iload_n 1, 1) := by decide +kernel
theorem dX7_records_74 : decode cX7_records 74 = .ok (.iaload, 1) := by decide +kernel
theorem dX7_records_75 : decode cX7_records 75 = .ok (.iastore, 1) := by decide +kernel
theorem dX7_records_76 : decode cX7_records 76 = .ok (.iinc 1 1, 3) := by decide +kernel
theorem dX7_records_79 : decode cX7_records 79 = .ok (.goto (-29), 3) := by decide +kernel
theorem dX7_records_82 : decode cX7_records 82 = .ok (.aload_n 0, 1) := by decide +kernel
theorem dX7_records_83 : decode cX7_records 83 = .ok (.dup, 1) := by decide +kernel
theorem dX7_records_84 : decode cX7_records 84 = .ok (.getfield 54, 3) := by decide +kernel
theorem dX7_records_87 : decode cX7_records 87 = .ok (.iconst 1, 1) := by decide +kernel
theorem dX7_records_88 : decode cX7_records 88 = .ok (.iadd, 1) := by decide +kernel
theorem dX7_records_89 : decode cX7_records 89 = .ok (.putfield 54, 3) := by decide +kernel
theorem dX7_records_92 : decode cX7_records 92 = .ok (.return_, 1) := by decide +kernel
theorem dX7_first_0 : decode cX7_first 0 = .ok (.aload_n 0, 1) := by decide +kernel
theorem dX7_first_1 : decode cX7_first 1 = .ok (.getfield 7, 3) := by decide +kernel
theorem dX7_first_4 : decode cX7_first 4 = .ok (.bipush 28, 2) := by decide +kernel
theorem dX7_first_6 : decode cX7_first 6 = .ok (.iload_n 1, 1) := by decide +kernel
theorem dX7_first_7 : decode cX7_first 7 = .ok (.iadd, 1) := by decide +kernel
theorem dX7_first_8 : decode cX7_first 8 = .ok (.iaload, 1) := by decide +kernel
theorem dX7_first_9 : decode cX7_first 9 = .ok (.ireturn, 1) := by decide +kernel
theorem dX7_behind_0 : decode cX7_behind 0 = .ok (.iload_n 1, 1) := by decide +kernel
theorem dX7_behind_1 : decode cX7_behind 1 = .ok (.iconst 1, 1) := by decide +kernel
theorem dX7_behind_2 : decode cX7_behind 2 = .ok (.iadd, 1) := by decide +kernel
theorem dX7_behind_3 : decode cX7_behind 3 = .ok (.aload_n 0, 1) := by decide +kernel
theorem dX7_behind_4 : decode cX7_behind 4 = .ok (.getfield 7, 3) := by decide +kernel
theorem dX7_behind_7 : decode cX7_behind 7 = .ok (.iconst 3, 1) := by decide +kernel
theorem dX7_behind_8 : decode cX7_behind 8 = .ok (.iaload, 1) := by decide +kernel
theorem dX7_behind_9 : decode cX7_behind 9 = .ok (.if_icmp .ge 17, 3) := by decide +kernel
theorem dX7_behind_12 : decode cX7_behind 12 = .ok (.aload_n 0, 1) := by decide +kernel
theorem dX7_behind_13 : decode cX7_behind 13 = .ok (.getfield 7, 3) := by decide +kernel
theorem dX7_behind_16 : decode cX7_behind 16 = .ok (.bipush 28, 2) := by decide +kernel
theorem dX7_behind_18 : decode cX7_behind 18 = .ok (.iload_n 1, 1) := by decide +kernel
theorem dX7_behind_19 : decode cX7_behind 19 = .ok (.iadd, 1) := by decide +kernel
theorem dX7_behind_20 : decode cX7_behind 20 = .ok (.iconst 1, 1) := by decide +kernel
theorem dX7_behind_21 : decode cX7_behind 21 = .ok (.iadd, 1) := by decide +kernel
theorem dX7_behind_22 : decode cX7_behind 22 = .ok (.iaload, 1) := by decide +kernel
theorem dX7_behind_23 : decode cX7_behind 23 = .ok (.goto 9, 3) := by decide +kernel
theorem dX7_behind_26 : decode cX7_behind 26 = .ok (.aload_n 0, 1) := by decide +kernel
theorem dX7_behind_27 : decode cX7_behind 27 = .ok (.getfield 7, 3) := by decide +kernel
theorem dX7_behind_30 : decode cX7_behind 30 = .ok (.iconst 0, 1) := by decide +kernel
theorem dX7_behind_31 : decode cX7_behind 31 = .ok (.iaload, 1) := by decide +kernel
theorem dX7_behind_32 : decode cX7_behind 32 = .ok (.ireturn, 1) := by decide +kernel
theorem dX7_needs_0 : decode cX7_needs 0 = .ok (.iload_n 2, 1) := by decide +kernel
theorem dX7_needs_1 : decode cX7_needs 1 = .ok (.iload_n 1, 1) := by decide +kernel
theorem dX7_needs_2 : decode cX7_needs 2 = .ok (.isub, 1) := by decide +kernel
theorem dX7_needs_3 : decode cX7_needs 3 = .ok (.iconst 1, 1) := by decide +kernel
theorem dX7_needs_4 : decode cX7_needs 4 = .ok (.isub, 1) := by decide +kernel
theorem dX7_needs_5 : decode cX7_needs 5 = .ok (.istore_n 3, 1) := by decide +kernel
theorem dX7_needs_6 : decode cX7_needs 6 = .ok (.iload_n 1, 1) := by decide +kernel
theorem dX7_needs_7 : decode cX7_needs 7 = .ok (.istore 4, 2) := by decide +kernel
theorem dX7_needs_9 : decode cX7_needs 9 = .ok (.iload 4, 2) := by decide +kernel
theorem dX7_needs_11 : decode cX7_needs 11 = .ok (.iload_n 2, 1) := by decide +kernel
theorem dX7_needs_12 : decode cX7_needs 12 = .ok (.if_icmp .ge 21, 3) := by decide +kernel
theorem dX7_needs_15 : decode cX7_needs 15 = .ok (.iload_n 3, 1) := by decide +kernel
theorem dX7_needs_16 : decode cX7_needs 16 = .ok (.aload_n 0, 1) := by decide +kernel
theorem dX7_needs_17 : decode cX7_needs 17 = .ok (.getfield 7, 3) := by decide +kernel
theorem dX7_needs_20 : decode cX7_needs 20 = .ok (.iconst 4, 1) := by decide +kernel
theorem dX7_needs_21 : decode cX7_needs 21 = .ok (.iload 4, 2) := by decide +kernel
theorem dX7_needs_23 : decode cX7_needs 23 = .ok (.iadd, 1) := by decide +kernel
theorem dX7_needs_24 : decode cX7_needs 24 = .ok (.iaload, 1) := by decide +kernel
theorem dX7_needs_25 : decode cX7_needs 25 = .ok (.iadd, 1) := by decide +kernel
theorem dX7_needs_26 : decode cX7_needs 26 = .ok (.istore_n 3, 1) := by decide +kernel
theorem dX7_needs_27 : decode cX7_needs 27 = .ok (.iinc 4 1, 3) := by decide +kernel
theorem dX7_needs_30 : decode cX7_needs 30 = .ok (.goto (-21), 3) := by decide +kernel
theorem dX7_needs_33 : decode cX7_needs 33 = .ok (.iload_n 3, 1) := by decide +kernel
theorem dX7_needs_34 : decode cX7_needs 34 = .ok (.ireturn, 1) := by decide +kernel
set_option maxRecDepth 20000 in
theorem ggX7_fits_X7_needs : GoodIn wsX7_fits wsX7_needs := goodIn_r _ [6, 1, 7, 8, 9, 10, 11, 12, 13, 14, 15, 16, 17, 18, 19, 20, 21, 22, 23, 24, 25] (by decide +kernel) (by decide +kernel)
set_option maxRecDepth 20000 in
theorem gX7_fits_X7_needs : GoodIn wsX7_fits (wsV RX7 58 RX7 yX7_needs wsX7_needs) := goodIn_app (goodIn_of _ (by decide +kernel)) ggX7_fits_X7_needs
theorem dX7_fits_0 : decode cX7_fits 0 = .ok (.aload_n 0, 1) := by decide +kernel
theorem dX7_fits_1 : decode cX7_fits 1 = .ok (.iload_n 1, 1) := by decide +kernel
theorem dX7_fits_2 : decode cX7_fits 2 = .ok (.iload_n 2, 1) := by decide +kernel
theorem dX7_fits_3 : decode cX7_fits 3 = .ok (.invokevirtual 58, 3) := by decide +kernel
theorem dX7_fits_6 : decode cX7_fits 6 = .ok (.aload_n 0, 1) := by decide +kernel
theorem dX7_fits_7 : decode cX7_fits 7 = .ok (.getfield 7, 3) := by decide +kernel
theorem dX7_fits_10 : decode cX7_fits 10 = .ok (.iconst 1, 1) := by decide +kernel
theorem dX7_fits_11 : decode cX7_fits 11 = .ok (.iaload, 1) := by decide +kernel
theorem dX7_fits_12 : decode cX7_fits 12 = .ok (.if_icmp .gt 7, 3) := by decide +kernel
theorem dX7_fits_15 : decode cX7_fits 15 = .ok (.iconst 1, 1) := by decide +kernel
theorem dX7_fits_16 : decode cX7_fits 16 = .ok (.goto 4, 3) := by decide +kernel
theorem dX7_fits_19 : decode cX7_fits 19 = .ok (.iconst 0, 1) := by decide +kernel
theorem dX7_fits_20 : decode cX7_fits 20 = .ok (.ireturn, 1) := by decide +kernel
set_option maxRecDepth 20000 in
theorem ggX7_mostFrom_X7_fits : GoodIn wsX7_mostFrom wsX7_fits := goodIn_r _ [6, 1, 7, 8, 9, 5, 10, 11, 12, 13, 14, 15, 16, 17, 18, 19, 20, 21, 22, 23, 24, 25, 26, 27, 28, 29] (by decide +kernel) (by decide +kernel)
set_option maxRecDepth 20000 in
theorem gX7_mostFrom_X7_fits : GoodIn wsX7_mostFrom (wsV RX7 62 RX7 yX7_fits wsX7_fits) := goodIn_app (goodIn_of _ (by decide +kernel)) ggX7_mostFrom_X7_fits
theorem dX7_mostFrom_0 : decode cX7_mostFrom 0 = .ok (.iconst 0, 1) := by decide +kernel
theorem dX7_mostFrom_1 : decode cX7_mostFrom 1 = .ok (.istore_n 2, 1) := by decide +kernel
theorem dX7_mostFrom_2 : decode cX7_mostFrom 2 = .ok (.iload_n 1, 1) := by decide +kernel
theorem dX7_mostFrom_3 : decode cX7_mostFrom 3 = .ok (.iload_n 2, 1) := by decide +kernel
theorem dX7_mostFrom_4 : decode cX7_mostFrom 4 = .ok (.iadd, 1) := by decide +kernel
theorem dX7_mostFrom_5 : decode cX7_mostFrom 5 = .ok (.aload_n 0, 1) := by decide +kernel
theorem dX7_mostFrom_6 : decode cX7_mostFrom 6 = .ok (.getfield 7, 3) := by decide +kernel
theorem dX7_mostFrom_9 : decode cX7_mostFrom 9 = .ok (.iconst 0, 1) := by decide +kernel
theorem dX7_mostFrom_10 : decode cX7_mostFrom 10 = .ok (.iaload, 1) := by decide +kernel
theorem dX7_mostFrom_11 : decode cX7_mostFrom 11 = .ok (.if_icmp .ge 22, 3) := by decide +kernel
theorem dX7_mostFrom_14 : decode cX7_mostFrom 14 = .ok (.aload_n 0, 1) := by decide +kernel
theorem dX7_mostFrom_15 : decode cX7_mostFrom 15 = .ok (.iload_n 1, 1) := by decide +kernel
theorem dX7_mostFrom_16 : decode cX7_mostFrom 16 = .ok (.iload_n 1, 1) := by decide +kernel
theorem dX7_mostFrom_17 : decode cX7_mostFrom 17 = .ok (.iload_n 2, 1) := by decide +kernel
theorem dX7_mostFrom_18 : decode cX7_mostFrom 18 = .ok (.iadd, 1) := by decide +kernel
theorem dX7_mostFrom_19 : decode cX7_mostFrom 19 = .ok (.iconst 1, 1) := by decide +kernel
theorem dX7_mostFrom_20 : decode cX7_mostFrom 20 = .ok (.iadd, 1) := by decide +kernel
theorem dX7_mostFrom_21 : decode cX7_mostFrom 21 = .ok (.invokevirtual 62, 3) := by decide +kernel
theorem dX7_mostFrom_24 : decode cX7_mostFrom 24 = .ok (.ifCond .eq 9, 3) := by decide +kernel
theorem dX7_mostFrom_27 : decode cX7_mostFrom 27 = .ok (.iinc 2 1, 3) := by decide +kernel
theorem dX7_mostFrom_30 : decode cX7_mostFrom 30 = .ok (.goto (-28), 3) := by decide +kernel
theorem dX7_mostFrom_33 : decode cX7_mostFrom 33 = .ok (.iload_n 2, 1) := by decide +kernel
theorem dX7_mostFrom_34 : decode cX7_mostFrom 34 = .ok (.ireturn, 1) := by decide +kernel
set_option maxRecDepth 20000 in
theorem ggX7_fills_X7_mostFrom : GoodIn wsX7_fills wsX7_mostFrom := goodIn_r _ [6, 1, 7, 8, 9, 5, 10, 11, 12, 13, 14, 15, 16, 17, 18, 19, 20, 21, 22, 23, 24, 25, 26, 27, 28, 29, 30, 31, 32, 33] (by decide +kernel) (by decide +kernel)
set_option maxRecDepth 20000 in
theorem gX7_fills_X7_mostFrom : GoodIn wsX7_fills (wsV RX7 66 RX7 yX7_mostFrom wsX7_mostFrom) := goodIn_app (goodIn_of _ (by decide +kernel)) ggX7_fills_X7_mostFrom
theorem dX7_fills_0 : decode cX7_fills 0 = .ok (.iconst 0, 1) := by decide +kernel
theorem dX7_fills_1 : decode cX7_fills 1 = .ok (.istore_n 1, 1) := by decide +kernel
theorem dX7_fills_2 : decode cX7_fills 2 = .ok (.aload_n 0, 1) := by decide +kernel
theorem dX7_fills_3 : decode cX7_fills 3 = .ok (.getfield 7, 3) := by decide +kernel
theorem dX7_fills_6 : decode cX7_fills 6 = .ok (.iconst 3, 1) := by decide +kernel
theorem dX7_fills_7 : decode cX7_fills 7 = .ok (.iconst 0, 1) := by decide +kernel
theorem dX7_fills_8 : decode cX7_fills 8 = .ok (.iastore, 1) := by decide +kernel
theorem dX7_fills_9 : decode cX7_fills 9 = .ok (.iload_n 1, 1) := by decide +kernel
theorem dX7_fills_10 : decode cX7_fills 10 = .ok (.aload_n 0, 1) := by decide +kernel
theorem dX7_fills_11 : decode cX7_fills 11 = .ok (.getfield 7, 3) := by decide +kernel
theorem dX7_fills_14 : decode cX7_fills 14 = .ok (.iconst 0, 1) := by decide +kernel
theorem dX7_fills_15 : decode cX7_fills 15 = .ok (.iaload, 1) := by decide +kernel
theorem dX7_fills_16 : decode cX7_fills 16 = .ok (.if_icmp .ge 54, 3) := by decide +kernel
theorem dX7_fills_19 : decode cX7_fills 19 = .ok (.aload_n 0, 1) := by decide +kernel
theorem dX7_fills_20 : decode cX7_fills 20 = .ok (.getfield 7, 3) := by decide +kernel
theorem dX7_fills_23 : decode cX7_fills 23 = .ok (.bipush 28, 2) := by decide +kernel
theorem dX7_fills_25 : decode cX7_fills 25 = .ok (.aload_n 0, 1) := by decide +kernel
theorem dX7_fills_26 : decode cX7_fills 26 = .ok (.getfield 7, 3) := by decide +kernel
theorem dX7_fills_29 : decode cX7_fills 29 = .ok (.iconst 3, 1) := by decide +kernel
theorem dX7_fills_30 : decode cX7_fills 30 = .ok (.iaload, 1) := by decide +kernel
theorem dX7_fills_31 : decode cX7_fills 31 = .ok (.iadd, 1) := by decide +kernel
theorem dX7_fills_32 : decode cX7_fills 32 = .ok (.iload_n 1, 1) := by decide +kernel
theorem dX7_fills_33 : decode cX7_fills 33 = .ok (.iastore, 1) := by decide +kernel
theorem dX7_fills_34 : decode cX7_fills 34 = .ok (.aload_n 0, 1) := by decide +kernel
theorem dX7_fills_35 : decode cX7_fills 35 = .ok (.getfield 7, 3) := by decide +kernel
theorem dX7_fills_38 : decode cX7_fills 38 = .ok (.bipush 53, 2) := by decide +kernel
theorem dX7_fills_40 : decode cX7_fills 40 = .ok (.aload_n 0, 1) := by decide +kernel
theorem dX7_fills_41 : decode cX7_fills 41 = .ok (.getfield 7, 3) := by decide +kernel
theorem dX7_fills_44 : decode cX7_fills 44 = .ok (.iconst 3, 1) := by decide +kernel
theorem dX7_fills_45 : decode cX7_fills 45 = .ok (.iaload, 1) := by decide +kernel
theorem dX7_fills_46 : decode cX7_fills 46 = .ok (.iadd, 1) := by decide +kernel
theorem dX7_fills_47 : decode cX7_fills 47 = .ok (.iconst 0, 1) := by decide +kernel
theorem dX7_fills_48 : decode cX7_fills 48 = .ok (.iastore, 1) := by decide +kernel
theorem dX7_fills_49 : decode cX7_fills 49 = .ok (.aload_n 0, 1) := by decide +kernel
theorem dX7_fills_50 : decode cX7_fills 50 = .ok (.getfield 7, 3) := by decide +kernel
theorem dX7_fills_53 : decode cX7_fills 53 = .ok (.iconst 3, 1) := by decide +kernel
theorem dX7_fills_54 : decode cX7_fills 54 = .ok (.dup2, 1) := by decide +kernel
theorem dX7_fills_55 : decode cX7_fills 55 = .ok (.iaload, 1) := by decide +kernel
theorem dX7_fills_56 : decode cX7_fills 56 = .ok (.iconst 1, 1) := by decide +kernel
theorem dX7_fills_57 : decode cX7_fills 57 = .ok (.iadd, 1) := by decide +kernel
theorem dX7_fills_58 : decode cX7_fills 58 = .ok (.iastore, 1) := by decide +kernel
theorem dX7_fills_59 : decode cX7_fills 59 = .ok (.iload_n 1, 1) := by decide +kernel
theorem dX7_fills_60 : decode cX7_fills 60 = .ok (.aload_n 0, 1) := by decide +kernel
theorem dX7_fills_61 : decode cX7_fills 61 = .ok (.iload_n 1, 1) := by decide +kernel
theorem dX7_fills_62 : decode cX7_fills 62 = .ok (.invokevirtual 66, 3) := by decide +kernel
theorem dX7_fills_65 : decode cX7_fills 65 = .ok (.iadd, 1) := by decide +kernel
theorem dX7_fills_66 : decode cX7_fills 66 = .ok (.istore_n 1, 1) := by decide +kernel
theorem dX7_fills_67 : decode cX7_fills 67 = .ok (.goto (-58), 3) := by decide +kernel
theorem dX7_fills_70 : decode cX7_fills 70 = .ok (.return_, 1) := by decide +kernel
theorem dX7_frozen_0 : decode cX7_frozen 0 = .ok (.iconst 0, 1) := by decide +kernel
theorem dX7_frozen_1 : decode cX7_frozen 1 = .ok (.istore_n 1, 1) := by decide +kernel
theorem dX7_frozen_2 : decode cX7_frozen 2 = .ok (.iconst 0, 1) := by decide +kernel
theorem dX7_frozen_3 : decode cX7_frozen 3 = .ok (.istore_n 2, 1) := by decide +kernel
theorem dX7_frozen_4 : decode cX7_frozen 4 = .ok (.iload_n 2, 1) := by decide +kernel
theorem dX7_frozen_5 : decode cX7_frozen 5 = .ok (.aload_n 0, 1) := by decide +kernel
theorem dX7_frozen_6 : decode cX7_frozen 6 = .ok (.getfield 7, 3) := by decide +kernel
theorem dX7_frozen_9 : decode cX7_frozen 9 = .ok (.iconst 3, 1) := by decide +kernel
theorem dX7_frozen_10 : decode cX7_frozen 10 = .ok (.iaload, 1) := by decide +kernel
theorem dX7_frozen_11 : decode cX7_frozen 11 = .ok (.if_icmp .ge 21, 3) := by decide +kernel
theorem dX7_frozen_14 : decode cX7_frozen 14 = .ok (.iload_n 1, 1) := by decide +kernel
theorem dX7_frozen_15 : decode cX7_frozen 15 = .ok (.aload_n 0, 1) := by decide +kernel
theorem dX7_frozen_16 : decode cX7_frozen 16 = .ok (.getfield 7, 3) := by decide +kernel
theorem dX7_frozen_19 : decode cX7_frozen 19 = .ok (.bipush 53, 2) := by decide +kernel
theorem dX7_frozen_21 : decode cX7_frozen 21 = .ok (.iload_n 2, 1) := by decide +kernel
theorem dX7_frozen_22 : decode cX7_frozen 22 = .ok (.iadd, 1) := by decide +kernel
theorem dX7_frozen_23 : decode cX7_frozen 23 = .ok (.iaload, 1) := by decide +kernel
theorem dX7_frozen_24 : decode cX7_frozen 24 = .ok (.iadd, 1) := by decide +kernel
theorem dX7_frozen_25 : decode cX7_frozen 25 = .ok (.istore_n 1, 1) := by decide +kernel
theorem dX7_frozen_26 : decode cX7_frozen 26 = .ok (.iinc 2 1, 3) := by decide +kernel
theorem dX7_frozen_29 : decode cX7_frozen 29 = .ok (.goto (-25), 3) := by decide +kernel
theorem dX7_frozen_32 : decode cX7_frozen 32 = .ok (.iload_n 1, 1) := by decide +kernel
theorem dX7_frozen_33 : decode cX7_frozen 33 = .ok (.ireturn, 1) := by decide +kernel
theorem dX7_meets_0 : decode cX7_meets 0 = .ok (.aload_n 0, 1) := by decide +kernel
theorem dX7_meets_1 : decode cX7_meets 1 = .ok (.getfield 23, 3) := by decide +kernel
theorem dX7_meets_4 : decode cX7_meets 4 = .ok (.iload_n 1, 1) := by decide +kernel
theorem dX7_meets_5 : decode cX7_meets 5 = .ok (.iaload, 1) := by decide +kernel
theorem dX7_meets_6 : decode cX7_meets 6 = .ok (.aload_n 0, 1) := by decide +kernel
theorem dX7_meets_7 : decode cX7_meets 7 = .ok (.getfield 23, 3) := by decide +kernel
theorem dX7_meets_10 : decode cX7_meets 10 = .ok (.iload_n 2, 1) := by decide +kernel
theorem dX7_meets_11 : decode cX7_meets 11 = .ok (.iaload, 1) := by decide +kernel
theorem dX7_meets_12 : decode cX7_meets 12 = .ok (.aload_n 0, 1) := by decide +kernel
theorem dX7_meets_13 : decode cX7_meets 13 = .ok (.getfield 26, 3) := by decide +kernel
theorem dX7_meets_16 : decode cX7_meets 16 = .ok (.iload_n 2, 1) := by decide +kernel
theorem dX7_meets_17 : decode cX7_meets 17 = .ok (.iaload, 1) := by decide +kernel
theorem dX7_meets_18 : decode cX7_meets 18 = .ok (.iadd, 1) := by decide +kernel
theorem dX7_meets_19 : decode cX7_meets 19 = .ok (.if_icmp .ge 29, 3) := by decide +kernel
theorem dX7_meets_22 : decode cX7_meets 22 = .ok (.aload_n 0, 1) := by decide +kernel
theorem dX7_meets_23 : decode cX7_meets 23 = .ok (.getfield 23, 3) := by decide +kernel
theorem dX7_meets_26 : decode cX7_meets 26 = .ok (.iload_n 2, 1) := by decide +kernel
theorem dX7_meets_27 : decode cX7_meets 27 = .ok (.iaload, 1) := by decide +kernel
theorem dX7_meets_28 : decode cX7_meets 28 = .ok (.aload_n 0, 1) := by decide +kernel
theorem dX7_meets_29 : decode cX7_meets 29 = .ok (.getfield 23, 3) := by decide +kernel
theorem dX7_meets_32 : decode cX7_meets 32 = .ok (.iload_n 1, 1) := by decide +kernel
theorem dX7_meets_33 : decode cX7_meets 33 = .ok (.iaload, 1) := by decide +kernel
theorem dX7_meets_34 : decode cX7_meets 34 = .ok (.aload_n 0, 1) := by decide +kernel
theorem dX7_meets_35 : decode cX7_meets 35 = .ok (.getfield 26, 3) := by decide +kernel
theorem dX7_meets_38 : decode cX7_meets 38 = .ok (.iload_n 1, 1) := by decide +kernel
theorem dX7_meets_39 : decode cX7_meets 39 = .ok (.iaload, 1) := by decide +kernel
theorem dX7_meets_40 : decode cX7_meets 40 = .ok (.iadd, 1) := by decide +kernel
theorem dX7_meets_41 : decode cX7_meets 41 = .ok (.if_icmp .ge 7, 3) := by decide +kernel
theorem dX7_meets_44 : decode cX7_meets 44 = .ok (.iconst 1, 1) := by decide +kernel
theorem dX7_meets_45 : decode cX7_meets 45 = .ok (.goto 4, 3) := by decide +kernel
theorem dX7_meets_48 : decode cX7_meets 48 = .ok (.iconst 0, 1) := by decide +kernel
theorem dX7_meets_49 : decode cX7_meets 49 = .ok (.ireturn, 1) := by decide +kernel
set_option maxRecDepth 20000 in
theorem ggX7_lays_X7_needs : GoodIn wsX7_lays wsX7_needs := goodIn_r _ [10, 1, 15, 16, 17, 18, 19, 20, 21, 22, 23, 24, 25, 26, 27, 28, 29, 30, 31, 32, 33] (by decide +kernel) (by decide +kernel)
set_option maxRecDepth 20000 in
theorem gX7_lays_X7_needs : GoodIn wsX7_lays (wsV RX7 58 RX7 yX7_needs wsX7_needs) := goodIn_app (goodIn_of _ (by decide +kernel)) ggX7_lays_X7_needs
set_option maxRecDepth 20000 in
theorem ggX7_lays_X7_meets : GoodIn wsX7_lays wsX7_meets := goodIn_r _ [14, 3, 4, 15, 16, 17, 18, 19, 20, 21, 22, 23, 24, 25, 26, 27, 28, 29, 30, 31, 32, 33] (by decide +kernel) (by decide +kernel)
set_option maxRecDepth 20000 in
theorem gX7_lays_X7_meets : GoodIn wsX7_lays (wsV RX7 70 RX7 yX7_meets wsX7_meets) := goodIn_app (goodIn_of _ (by decide +kernel)) ggX7_lays_X7_meets
theorem dX7_lays_0 : decode cX7_lays 0 = .ok (.iload_n 3, 1) := by decide +kernel
theorem dX7_lays_1 : decode cX7_lays 1 = .ok (.aload_n 0, 1) := by decide +kernel
theorem dX7_lays_2 : decode cX7_lays 2 = .ok (.getfield 7, 3) := by decide +kernel
theorem dX7_lays_5 : decode cX7_lays 5 = .ok (.iconst 0, 1) := by decide +kernel
theorem dX7_lays_6 : decode cX7_lays 6 = .ok (.iaload, 1) := by decide +kernel
theorem dX7_lays_7 : decode cX7_lays 7 = .ok (.if_icmp .ne 7, 3) := by decide +kernel
theorem dX7_lays_10 : decode cX7_lays 10 = .ok (.iconst 0, 1) := by decide +kernel
theorem dX7_lays_11 : decode cX7_lays 11 = .ok (.goto 16, 3) := by decide +kernel
theorem dX7_lays_14 : decode cX7_lays 14 = .ok (.aload_n 0, 1) := by decide +kernel
theorem dX7_lays_15 : decode cX7_lays 15 = .ok (.getfield 7, 3) := by decide +kernel
theorem dX7_lays_18 : decode cX7_lays 18 = .ok (.iconst 1, 1) := by decide +kernel
theorem dX7_lays_19 : decode cX7_lays 19 = .ok (.iaload, 1) := by decide +kernel
theorem dX7_lays_20 : decode cX7_lays 20 = .ok (.aload_n 0, 1) := by decide +kernel
theorem dX7_lays_21 : decode cX7_lays 21 = .ok (.iload_n 2, 1) := by decide +kernel
theorem dX7_lays_22 : decode cX7_lays 22 = .ok (.iload_n 3, 1) := by decide +kernel
theorem dX7_lays_23 : decode cX7_lays 23 = .ok (.invokevirtual 58, 3) := by decide +kernel
theorem dX7_lays_26 : decode cX7_lays 26 = .ok (.isub, 1) := by decide +kernel
theorem dX7_lays_27 : decode cX7_lays 27 = .ok (.istore 4, 2) := by decide +kernel
theorem dX7_lays_29 : decode cX7_lays 29 = .ok (.iload_n 3, 1) := by decide +kernel
theorem dX7_lays_30 : decode cX7_lays 30 = .ok (.iload_n 2, 1) := by decide +kernel
theorem dX7_lays_31 : decode cX7_lays 31 = .ok (.isub, 1) := by decide +kernel
theorem dX7_lays_32 : decode cX7_lays 32 = .ok (.iconst 1, 1) := by decide +kernel
theorem dX7_lays_33 : decode cX7_lays 33 = .ok (.isub, 1) := by decide +kernel
theorem dX7_lays_34 : decode cX7_lays 34 = .ok (.istore 5, 2) := by decide +kernel
theorem dX7_lays_36 : decode cX7_lays 36 = .ok (.iconst 0, 1) := by decide +kernel
theorem dX7_lays_37 : decode cX7_lays 37 = .ok (.istore 6, 2) := by decide +kernel
theorem dX7_lays_39 : decode cX7_lays 39 = .ok (.iconst 0, 1) := by decide +kernel
theorem dX7_lays_40 : decode cX7_lays 40 = .ok (.istore 7, 2) := by decide +kernel
theorem dX7_lays_42 : decode cX7_lays 42 = .ok (.iload_n 2, 1) := by decide +kernel
theorem dX7_lays_43 : decode cX7_lays 43 = .ok (.istore 8, 2) := by decide +kernel
theorem dX7_lays_45 : decode cX7_lays 45 = .ok (.iload 8, 2) := by decide +kernel
theorem dX7_lays_47 : decode cX7_lays 47 = .ok (.iload_n 3, 1) := by decide +kernel
theorem dX7_lays_48 : decode cX7_lays 48 = .ok (.if_icmp .ge 198, 3) := by decide +kernel
theorem dX7_lays_51 : decode cX7_lays 51 = .ok (.aload_n 0, 1) := by decide +kernel
theorem dX7_lays_52 : decode cX7_lays 52 = .ok (.getfield 20, 3) := by decide +kernel
theorem dX7_lays_55 : decode cX7_lays 55 = .ok (.iload 8, 2) := by decide +kernel
theorem dX7_lays_57 : decode cX7_lays 57 = .ok (.iload 6, 2) := by decide +kernel
theorem dX7_lays_59 : decode cX7_lays 59 = .ok (.iastore, 1) := by decide +kernel
theorem dX7_lays_60 : decode cX7_lays 60 = .ok (.iload 6, 2) := by decide +kernel
theorem dX7_lays_62 : decode cX7_lays 62 = .ok (.aload_n 0, 1) := by decide +kernel
theorem dX7_lays_63 : decode cX7_lays 63 = .ok (.getfield 7, 3) := by decide +kernel
theorem dX7_lays_66 : decode cX7_lays 66 = .ok (.iconst 4, 1) := by decide +kernel
theorem dX7_lays_67 : decode cX7_lays 67 = .ok (.iload 8, 2) := by decide +kernel
theorem dX7_lays_69 : decode cX7_lays 69 = .ok (.iadd, 1) := by decide +kernel
theorem dX7_lays_70 : decode cX7_lays 70 = .ok (.iaload, 1) := by decide +kernel
theorem dX7_lays_71 : decode cX7_lays 71 = .ok (.iadd, 1) := by decide +kernel
theorem dX7_lays_72 : decode cX7_lays 72 = .ok (.istore 6, 2) := by decide +kernel
theorem dX7_lays_74 : decode cX7_lays 74 = .ok (.iload 8, 2) := by decide +kernel
theorem dX7_lays_76 : decode cX7_lays 76 = .ok (.iconst 1, 1) := by decide +kernel
theorem dX7_lays_77 : decode cX7_lays 77 = .ok (.iadd, 1) := by decide +kernel
theorem dX7_lays_78 : decode cX7_lays 78 = .ok (.iload_n 3, 1) := by decide +kernel
theorem dX7_lays_79 : decode cX7_lays 79 = .ok (.if_icmp .ge 161, 3) := by decide +kernel
theorem dX7_lays_82 : decode cX7_lays 82 = .ok (.aload_n 0, 1) := by decide +kernel
theorem dX7_lays_83 : decode cX7_lays 83 = .ok (.getfield 23, 3) := by decide +kernel
theorem dX7_lays_86 : decode cX7_lays 86 = .ok (.iload 8, 2) := by decide +kernel
theorem dX7_lays_88 : decode cX7_lays 88 = .ok (.iload 6, 2) := by decide +kernel
theorem dX7_lays_90 : decode cX7_lays 90 = .ok (.iastore, 1) := by decide +kernel
theorem dX7_lays_91 : decode cX7_lays 91 = .ok (.aload_n 0, 1) := by decide +kernel
theorem dX7_lays_92 : decode cX7_lays 92 = .ok (.getfield 26, 3) := by decide +kernel
theorem dX7_lays_95 : decode cX7_lays 95 = .ok (.iload 8, 2) := by decide +kernel
theorem dX7_lays_97 : decode cX7_lays 97 = .ok (.iconst 1, 1) := by decide +kernel
theorem dX7_lays_98 : decode cX7_lays 98 = .ok (.iload 4, 2) := by decide +kernel
theorem dX7_lays_100 : decode cX7_lays 100 = .ok (.iload 5, 2) := by decide +kernel
theorem dX7_lays_102 : decode cX7_lays 102 = .ok (.idiv, 1) := by decide +kernel
theorem dX7_lays_103 : decode cX7_lays 103 = .ok (.iadd, 1) := by decide +kernel
theorem dX7_lays_104 : decode cX7_lays 104 = .ok (.iload 8, 2) := by decide +kernel
theorem dX7_lays_106 : decode cX7_lays 106 = .ok (.iload_n 2, 1) := by decide +kernel
theorem dX7_lays_107 : decode cX7_lays 107 = .ok (.isub, 1) := by decide +kernel
theorem dX7_lays_108 : decode cX7_lays 108 = .ok (.iload 4, 2) := by decide +kernel
theorem dX7_lays_110 : decode cX7_lays 110 = .ok (.iload 5, 2) := by decide +kernel
theorem dX7_lays_112 : decode cX7_lays 112 = .ok (.irem, 1) := by decide +kernel
theorem dX7_lays_113 : decode cX7_lays 113 = .ok (.if_icmp .ge 7, 3) := by decide +kernel
theorem dX7_lays_116 : decode cX7_lays 116 = .ok (.iconst 1, 1) := by decide +kernel
theorem dX7_lays_117 : decode cX7_lays 117 = .ok (.goto 4, 3) := by decide +kernel
theorem dX7_lays_120 : decode cX7_lays 120 = .ok (.iconst 0, 1) := by decide +kernel
theorem dX7_lays_121 : decode cX7_lays 121 = .ok (.iadd, 1) := by decide +kernel
theorem dX7_lays_122 : decode cX7_lays 122 = .ok (.iastore, 1) := by decide +kernel
theorem dX7_lays_123 : decode cX7_lays 123 = .ok (.aload_n 0, 1) := by decide +kernel
theorem dX7_lays_124 : decode cX7_lays 124 = .ok (.getfield 29, 3) := by decide +kernel
theorem dX7_lays_127 : decode cX7_lays 127 = .ok (.iload 8, 2) := by decide +kernel
theorem dX7_lays_129 : decode cX7_lays 129 = .ok (.iconst 1, 1) := by decide +kernel
theorem dX7_lays_130 : decode cX7_lays 130 = .ok (.iastore, 1) := by decide +kernel
theorem dX7_lays_131 : decode cX7_lays 131 = .ok (.iload_n 1, 1) := by decide +kernel
theorem dX7_lays_132 : decode cX7_lays 132 = .ok (.istore 9, 2) := by decide +kernel
theorem dX7_lays_134 : decode cX7_lays 134 = .ok (.iload 9, 2) := by decide +kernel
theorem dX7_lays_136 : decode cX7_lays 136 = .ok (.iconst 1, 1) := by decide +kernel
theorem dX7_lays_137 : decode cX7_lays 137 = .ok (.iadd, 1) := by decide +kernel
theorem dX7_lays_138 : decode cX7_lays 138 = .ok (.iload_n 2, 1) := by decide +kernel
theorem dX7_lays_139 : decode cX7_lays 139 = .ok (.if_icmp .ge 63, 3) := by decide +kernel
theorem dX7_lays_142 : decode cX7_lays 142 = .ok (.aload_n 0, 1) := by decide +kernel
theorem dX7_lays_143 : decode cX7_lays 143 = .ok (.getfield 29, 3) := by decide +kernel
theorem dX7_lays_146 : decode cX7_lays 146 = .ok (.iload 8, 2) := by decide +kernel
theorem dX7_lays_148 : decode cX7_lays 148 = .ok (.aload_n 0, 1) := by decide +kernel
theorem dX7_lays_149 : decode cX7_lays 149 = .ok (.iload 8, 2) := by decide +kernel
theorem dX7_lays_151 : decode cX7_lays 151 = .ok (.iload 9, 2) := by decide +kernel
theorem dX7_lays_153 : decode cX7_lays 153 = .ok (.invokevirtual 70, 3) := by decide +kernel
theorem dX7_lays_156 : decode cX7_lays 156 = .ok (.ifCond .eq 32, 3) := by decide +kernel
theorem dX7_lays_159 : decode cX7_lays 159 = .ok (.aload_n 0, 1) := by decide +kernel
theorem dX7_lays_160 : decode cX7_lays 160 = .ok (.getfield 29, 3) := by decide +kernel
theorem dX7_lays_163 : decode cX7_lays 163 = .ok (.iload 9, 2) := by decide +kernel
theorem dX7_lays_165 : decode cX7_lays 165 = .ok (.iaload, 1) := by decide +kernel
theorem dX7_lays_166 : decode cX7_lays 166 = .ok (.aload_n 0, 1) := by decide +kernel
theorem dX7_lays_167 : decode cX7_lays 167 = .ok (.getfield 29, 3) := by decide +kernel
theorem dX7_lays_170 : decode cX7_lays 170 = .ok (.iload 8, 2) := by decide +kernel
theorem dX7_lays_172 : decode cX7_lays 172 = .ok (.iaload, 1) := by decide +kernel
theorem dX7_lays_173 : decode cX7_lays 173 = .ok (.if_icmp .lt 15, 3) := by decide +kernel
theorem dX7_lays_176 : decode cX7_lays 176 = .ok (.aload_n 0, 1) := by decide +kernel
theorem dX7_lays_177 : decode cX7_lays 177 = .ok (.getfield 29, 3) := by decide +kernel
theorem dX7_lays_180 : decode cX7_lays 180 = .ok (.iload 9, 2) := by decide +kernel
theorem dX7_lays_182 : decode cX7_lays 182 = .ok (.iaload, 1) := by decide +kernel
theorem dX7_lays_183 : decode cX7_lays 183 = .ok (.iconst 1, 1) := by decide +kernel
theorem dX7_lays_184 : decode cX7_lays 184 = .ok (.iadd, 1) := by decide +kernel
theorem dX7_lays_185 : decode cX7_lays 185 = .ok (.goto 10, 3) := by decide +kernel
theorem dX7_lays_188 : decode cX7_lays 188 = .ok (.aload_n 0, 1) := by decide +kernel
theorem dX7_lays_189 : decode cX7_lays 189 = .ok (.getfield 29, 3) := by decide +kernel
theorem dX7_lays_192 : decode cX7_lays 192 = .ok (.iload 8, 2) := by decide +kernel
theorem dX7_lays_194 : decode cX7_lays 194 = .ok (.iaload, 1) := by decide +kernel
theorem dX7_lays_195 : decode cX7_lays 195 = .ok (.iastore, 1) := by decide +kernel
theorem dX7_lays_196 : decode cX7_lays 196 = .ok (.iinc 9 1, 3) := by decide +kernel
theorem dX7_lays_199 : decode cX7_lays 199 = .ok (.goto (-65), 3) := by decide +kernel
theorem dX7_lays_202 : decode cX7_lays 202 = .ok (.aload_n 0, 1) := by decide +kernel
theorem dX7_lays_203 : decode cX7_lays 203 = .ok (.getfield 29, 3) := by decide +kernel
theorem dX7_lays_206 : decode cX7_lays 206 = .ok (.iload 8, 2) := by decide +kernel
theorem dX7_lays_208 : decode cX7_lays 208 = .ok (.iaload, 1) := by decide +kernel
theorem dX7_lays_209 : decode cX7_lays 209 = .ok (.iload 7, 2) := by decide +kernel
theorem dX7_lays_211 : decode cX7_lays 211 = .ok (.if_icmp .le 13, 3) := by decide +kernel
theorem dX7_lays_214 : decode cX7_lays 214 = .ok (.aload_n 0, 1) := by decide +kernel
theorem dX7_lays_215 : decode cX7_lays 215 = .ok (.getfield 29, 3) := by decide +kernel
theorem dX7_lays_218 : decode cX7_lays 218 = .ok (.iload 8, 2) := by decide +kernel
theorem dX7_lays_220 : decode cX7_lays 220 = .ok (.iaload, 1) := by decide +kernel
theorem dX7_lays_221 : decode cX7_lays 221 = .ok (.goto 5, 3) := by decide +kernel
theorem dX7_lays_224 : decode cX7_lays 224 = .ok (.iload 7, 2) := by decide +kernel
theorem dX7_lays_226 : decode cX7_lays 226 = .ok (.istore 7, 2) := by decide +kernel
theorem dX7_lays_228 : decode cX7_lays 228 = .ok (.iload 6, 2) := by decide +kernel
theorem dX7_lays_230 : decode cX7_lays 230 = .ok (.aload_n 0, 1) := by decide +kernel
theorem dX7_lays_231 : decode cX7_lays 231 = .ok (.getfield 26, 3) := by decide +kernel
theorem dX7_lays_234 : decode cX7_lays 234 = .ok (.iload 8, 2) := by decide +kernel
theorem dX7_lays_236 : decode cX7_lays 236 = .ok (.iaload, 1) := by decide +kernel
theorem dX7_lays_237 : decode cX7_lays 237 = .ok (.iadd, 1) := by decide +kernel
theorem dX7_lays_238 : decode cX7_lays 238 = .ok (.istore 6, 2) := by decide +kernel
theorem dX7_lays_240 : decode cX7_lays 240 = .ok (.iinc 8 1, 3) := by decide +kernel
theorem dX7_lays_243 : decode cX7_lays 243 = .ok (.goto (-198), 3) := by decide +kernel
theorem dX7_lays_246 : decode cX7_lays 246 = .ok (.iload 7, 2) := by decide +kernel
theorem dX7_lays_248 : decode cX7_lays 248 = .ok (.ireturn, 1) := by decide +kernel
set_option maxRecDepth 20000 in
theorem ggX7_laysAll_X7_first : GoodIn wsX7_laysAll wsX7_first := goodIn_r _ [6, 1, 27, 28, 29, 30, 31, 32, 33, 34, 35, 36, 37, 38, 39, 40, 41, 42, 43, 44, 45] (by decide +kernel) (by decide +kernel)
set_option maxRecDepth 20000 in
theorem gX7_laysAll_X7_first : GoodIn wsX7_laysAll (wsV RX7 73 RX7 yX7_first wsX7_first) := goodIn_app (goodIn_of _ (by decide +kernel)) ggX7_laysAll_X7_first
set_option maxRecDepth 20000 in
theorem ggX7_laysAll_X7_behind : GoodIn wsX7_laysAll wsX7_behind := goodIn_r _ [10, 1, 27, 28, 29, 30, 31, 32, 33, 34, 35, 36, 37, 38, 39, 40, 41, 42, 43, 44, 45] (by decide +kernel) (by decide +kernel)
set_option maxRecDepth 20000 in
theorem gX7_laysAll_X7_behind : GoodIn wsX7_laysAll (wsV RX7 76 RX7 yX7_behind wsX7_behind) := goodIn_app (goodIn_of _ (by decide +kernel)) ggX7_laysAll_X7_behind
set_option maxRecDepth 20000 in
theorem ggX7_laysAll_X7_lays : GoodIn wsX7_laysAll wsX7_lays := goodIn_r _ [14, 1, 15, 16, 17, 18, 19, 20, 21, 5, 22, 23, 24, 25, 26, 27, 28, 29, 30, 31, 32, 33, 34, 35, 36, 37, 38, 39, 40, 41, 42, 43, 44, 45] (by decide +kernel) (by decide +kernel)
set_option maxRecDepth 20000 in
theorem gX7_laysAll_X7_lays : GoodIn wsX7_laysAll (wsV RX7 79 RX7 yX7_lays wsX7_lays) := goodIn_app (goodIn_of _ (by decide +kernel)) ggX7_laysAll_X7_lays
theorem dX7_laysAll_0 : decode cX7_laysAll 0 = .ok (.iconst 0, 1) := by decide +kernel
theorem dX7_laysAll_1 : decode cX7_laysAll 1 = .ok (.istore_n 1, 1) := by decide +kernel
theorem dX7_laysAll_2 : decode cX7_laysAll 2 = .ok (.iconst 0, 1) := by decide +kernel
theorem dX7_laysAll_3 : decode cX7_laysAll 3 = .ok (.istore_n 2, 1) := by decide +kernel
theorem dX7_laysAll_4 : decode cX7_laysAll 4 = .ok (.iload_n 2, 1) := by decide +kernel
theorem dX7_laysAll_5 : decode cX7_laysAll 5 = .ok (.aload_n 0, 1) := by decide +kernel
theorem dX7_laysAll_6 : decode cX7_laysAll 6 = .ok (.getfield 7, 3) := by decide +kernel
theorem dX7_laysAll_9 : decode cX7_laysAll 9 = .ok (.iconst 3, 1) := by decide +kernel
theorem dX7_laysAll_10 : decode cX7_laysAll 10 = .ok (.iaload, 1) := by decide +kernel
theorem dX7_laysAll_11 : decode cX7_laysAll 11 = .ok (.if_icmp .ge 50, 3) := by decide +kernel
theorem dX7_laysAll_14 : decode cX7_laysAll 14 = .ok (.aload_n 0, 1) := by decide +kernel
theorem dX7_laysAll_15 : decode cX7_laysAll 15 = .ok (.iload_n 2, 1) := by decide +kernel
theorem dX7_laysAll_16 : decode cX7_laysAll 16 = .ok (.ifCond .ne 7, 3) := by decide +kernel
theorem dX7_laysAll_19 : decode cX7_laysAll 19 = .ok (.iconst 0, 1) := by decide +kernel
theorem dX7_laysAll_20 : decode cX7_laysAll 20 = .ok (.goto 10, 3) := by decide +kernel
theorem dX7_laysAll_23 : decode cX7_laysAll 23 = .ok (.aload_n 0, 1) := by decide +kernel
theorem dX7_laysAll_24 : decode cX7_laysAll 24 = .ok (.iload_n 2, 1) := by decide +kernel
theorem dX7_laysAll_25 : decode cX7_laysAll 25 = .ok (.iconst 1, 1) := by decide +kernel
theorem dX7_laysAll_26 : decode cX7_laysAll 26 = .ok (.isub, 1) := by decide +kernel
theorem dX7_laysAll_27 : decode cX7_laysAll 27 = .ok (.invokevirtual 73, 3) := by decide +kernel
theorem dX7_laysAll_30 : decode cX7_laysAll 30 = .ok (.aload_n 0, 1) := by decide +kernel
theorem dX7_laysAll_31 : decode cX7_laysAll 31 = .ok (.iload_n 2, 1) := by decide +kernel
theorem dX7_laysAll_32 : decode cX7_laysAll 32 = .ok (.invokevirtual 73, 3) := by decide +kernel
theorem dX7_laysAll_35 : decode cX7_laysAll 35 = .ok (.aload_n 0, 1) := by decide +kernel
theorem dX7_laysAll_36 : decode cX7_laysAll 36 = .ok (.iload_n 2, 1) := by decide +kernel
theorem dX7_laysAll_37 : decode cX7_laysAll 37 = .ok (.invokevirtual 76, 3) := by decide +kernel
theorem dX7_laysAll_40 : decode cX7_laysAll 40 = .ok (.invokevirtual 79, 3) := by decide +kernel
theorem dX7_laysAll_43 : decode cX7_laysAll 43 = .ok (.istore_n 3, 1) := by decide +kernel
theorem dX7_laysAll_44 : decode cX7_laysAll 44 = .ok (.iload_n 3, 1) := by decide +kernel
theorem dX7_laysAll_45 : decode cX7_laysAll 45 = .ok (.iload_n 1, 1) := by decide +kernel
theorem dX7_laysAll_46 : decode cX7_laysAll 46 = .ok (.if_icmp .le 7, 3) := by decide +kernel
theorem dX7_laysAll_49 : decode cX7_laysAll 49 = .ok (.iload_n 3, 1) := by decide +kernel
theorem dX7_laysAll_50 : decode cX7_laysAll 50 = .ok (.goto 4, 3) := by decide +kernel
theorem dX7_laysAll_53 : decode cX7_laysAll 53 = .ok (.iload_n 1, 1) := by decide +kernel
theorem dX7_laysAll_54 : decode cX7_laysAll 54 = .ok (.istore_n 1, 1) := by decide +kernel
theorem dX7_laysAll_55 : decode cX7_laysAll 55 = .ok (.iinc 2 1, 3) := by decide +kernel
theorem dX7_laysAll_58 : decode cX7_laysAll 58 = .ok (.goto (-54), 3) := by decide +kernel
theorem dX7_laysAll_61 : decode cX7_laysAll 61 = .ok (.iload_n 1, 1) := by decide +kernel
theorem dX7_laysAll_62 : decode cX7_laysAll 62 = .ok (.ireturn, 1) := by decide +kernel
set_option maxRecDepth 20000 in
theorem ggX7_lineOf_X7_behind : GoodIn wsX7_lineOf wsX7_behind := goodIn_r _ [5, 6, 7, 8, 9, 10, 11, 12, 13, 14, 15, 16, 17, 18, 19, 20, 21, 22, 23, 24, 25] (by decide +kernel) (by decide +kernel)
set_option maxRecDepth 20000 in
theorem gX7_lineOf_X7_behind : GoodIn wsX7_lineOf (wsV RX7 76 RX7 yX7_behind wsX7_behind) := goodIn_app (goodIn_of _ (by decide +kernel)) ggX7_lineOf_X7_behind
theorem dX7_lineOf_0 : decode cX7_lineOf 0 = .ok (.iconst 0, 1) := by decide +kernel
theorem dX7_lineOf_1 : decode cX7_lineOf 1 = .ok (.istore_n 2, 1) := by decide +kernel
theorem dX7_lineOf_2 : decode cX7_lineOf 2 = .ok (.aload_n 0, 1) := by decide +kernel
theorem dX7_lineOf_3 : decode cX7_lineOf 3 = .ok (.iload_n 2, 1) := by decide +kernel
theorem dX7_lineOf_4 : decode cX7_lineOf 4 = .ok (.invokevirtual 76, 3) := by decide +kernel
theorem dX7_lineOf_7 : decode cX7_lineOf 7 = .ok (.iload_n 1, 1) := by decide +kernel
theorem dX7_lineOf_8 : decode cX7_lineOf 8 = .ok (.if_icmp .gt 9, 3) := by decide +kernel
theorem dX7_lineOf_11 : decode cX7_lineOf 11 = .ok (.iinc 2 1, 3) := by decide +kernel
theorem dX7_lineOf_14 : decode cX7_lineOf 14 = .ok (.goto (-12), 3) := by decide +kernel
theorem dX7_lineOf_17 : decode cX7_lineOf 17 = .ok (.iload_n 2, 1) := by decide +kernel
theorem dX7_lineOf_18 : decode cX7_lineOf 18 = .ok (.ireturn, 1) := by decide +kernel
set_option maxRecDepth 20000 in
theorem ggX7_meetsOf_X7_first : GoodIn wsX7_meetsOf wsX7_first := goodIn_r _ [5, 6, 17, 18, 19, 20, 21, 22, 23, 24, 25, 26, 27, 28, 29, 30, 31, 32, 33, 34, 35] (by decide +kernel) (by decide +kernel)
set_option maxRecDepth 20000 in
theorem gX7_meetsOf_X7_first : GoodIn wsX7_meetsOf (wsV RX7 73 RX7 yX7_first wsX7_first) := goodIn_app (goodIn_of _ (by decide +kernel)) ggX7_meetsOf_X7_first
set_option maxRecDepth 20000 in
theorem ggX7_meetsOf_X7_behind : GoodIn wsX7_meetsOf wsX7_behind := goodIn_r _ [10, 6, 17, 18, 19, 20, 21, 22, 23, 24, 25, 26, 27, 28, 29, 30, 31, 32, 33, 34, 35] (by decide +kernel) (by decide +kernel)
set_option maxRecDepth 20000 in
theorem gX7_meetsOf_X7_behind : GoodIn wsX7_meetsOf (wsV RX7 76 RX7 yX7_behind wsX7_behind) := goodIn_app (goodIn_of _ (by decide +kernel)) ggX7_meetsOf_X7_behind
set_option maxRecDepth 20000 in
theorem ggX7_meetsOf_X7_meets : GoodIn wsX7_meetsOf wsX7_meets := goodIn_r _ [14, 15, 16, 17, 18, 19, 20, 21, 22, 23, 24, 25, 26, 27, 28, 29, 30, 31, 32, 33, 34, 35] (by decide +kernel) (by decide +kernel)
set_option maxRecDepth 20000 in
theorem gX7_meetsOf_X7_meets : GoodIn wsX7_meetsOf (wsV RX7 70 RX7 yX7_meets wsX7_meets) := goodIn_app (goodIn_of _ (by decide +kernel)) ggX7_meetsOf_X7_meets
theorem dX7_meetsOf_0 : decode cX7_meetsOf 0 = .ok (.iconst 0, 1) := by decide +kernel
theorem dX7_meetsOf_1 : decode cX7_meetsOf 1 = .ok (.istore_n 3, 1) := by decide +kernel
theorem dX7_meetsOf_2 : decode cX7_meetsOf 2 = .ok (.aload_n 0, 1) := by decide +kernel
theorem dX7_meetsOf_3 : decode cX7_meetsOf 3 = .ok (.iload_n 2, 1) := by decide +kernel
theorem dX7_meetsOf_4 : decode cX7_meetsOf 4 = .ok (.invokevirtual 73, 3) := by decide +kernel
theorem dX7_meetsOf_7 : decode cX7_meetsOf 7 = .ok (.istore 4, 2) := by decide +kernel
theorem dX7_meetsOf_9 : decode cX7_meetsOf 9 = .ok (.iload 4, 2) := by decide +kernel
theorem dX7_meetsOf_11 : decode cX7_meetsOf 11 = .ok (.iconst 1, 1) := by decide +kernel
theorem dX7_meetsOf_12 : decode cX7_meetsOf 12 = .ok (.iadd, 1) := by decide +kernel
theorem dX7_meetsOf_13 : decode cX7_meetsOf 13 = .ok (.aload_n 0, 1) := by decide +kernel
theorem dX7_meetsOf_14 : decode cX7_meetsOf 14 = .ok (.iload_n 2, 1) := by decide +kernel
theorem dX7_meetsOf_15 : decode cX7_meetsOf 15 = .ok (.invokevirtual 76, 3) := by decide +kernel
theorem dX7_meetsOf_18 : decode cX7_meetsOf 18 = .ok (.if_icmp .ge 27, 3) := by decide +kernel
theorem dX7_meetsOf_21 : decode cX7_meetsOf 21 = .ok (.iload_n 3, 1) := by decide +kernel
theorem dX7_meetsOf_22 : decode cX7_meetsOf 22 = .ok (.aload_n 0, 1) := by decide +kernel
theorem dX7_meetsOf_23 : decode cX7_meetsOf 23 = .ok (.iload_n 1, 1) := by decide +kernel
theorem dX7_meetsOf_24 : decode cX7_meetsOf 24 = .ok (.iload 4, 2) := by decide +kernel
theorem dX7_meetsOf_26 : decode cX7_meetsOf 26 = .ok (.invokevirtual 70, 3) := by decide +kernel
theorem dX7_meetsOf_29 : decode cX7_meetsOf 29 = .ok (.ifCond .eq 7, 3) := by decide +kernel
theorem dX7_meetsOf_32 : decode cX7_meetsOf 32 = .ok (.iconst 1, 1) := by decide +kernel
theorem dX7_meetsOf_33 : decode cX7_meetsOf 33 = .ok (.goto 4, 3) := by decide +kernel
theorem dX7_meetsOf_36 : decode cX7_meetsOf 36 = .ok (.iconst 0, 1) := by decide +kernel
theorem dX7_meetsOf_37 : decode cX7_meetsOf 37 = .ok (.iadd, 1) := by decide +kernel
theorem dX7_meetsOf_38 : decode cX7_meetsOf 38 = .ok (.istore_n 3, 1) := by decide +kernel
theorem dX7_meetsOf_39 : decode cX7_meetsOf 39 = .ok (.iinc 4 1, 3) := by decide +kernel
theorem dX7_meetsOf_42 : decode cX7_meetsOf 42 = .ok (.goto (-33), 3) := by decide +kernel
theorem dX7_meetsOf_45 : decode cX7_meetsOf 45 = .ok (.iload_n 3, 1) := by decide +kernel
theorem dX7_meetsOf_46 : decode cX7_meetsOf 46 = .ok (.ireturn, 1) := by decide +kernel
set_option maxRecDepth 20000 in
theorem ggX7_above_X7_meetsOf : GoodIn wsX7_above wsX7_meetsOf := goodIn_r _ [5, 6, 7, 8, 4, 9, 10, 11, 12, 13, 14, 15, 16, 17, 18, 19, 20, 21, 22, 23, 24, 25, 26, 27, 28, 29, 30, 31, 32, 33, 34, 35, 36, 37, 38, 39] (by decide +kernel) (by decide +kernel)
set_option maxRecDepth 20000 in
theorem gX7_above_X7_meetsOf : GoodIn wsX7_above (wsV RX7 83 RX7 yX7_meetsOf wsX7_meetsOf) := goodIn_app (goodIn_of _ (by decide +kernel)) ggX7_above_X7_meetsOf
theorem dX7_above_0 : decode cX7_above 0 = .ok (.iload_n 2, 1) := by decide +kernel
theorem dX7_above_1 : decode cX7_above 1 = .ok (.ifCond .ne 7, 3) := by decide +kernel
theorem dX7_above_4 : decode cX7_above 4 = .ok (.iconst 0, 1) := by decide +kernel
theorem dX7_above_5 : decode cX7_above 5 = .ok (.goto 11, 3) := by decide +kernel
theorem dX7_above_8 : decode cX7_above 8 = .ok (.aload_n 0, 1) := by decide +kernel
theorem dX7_above_9 : decode cX7_above 9 = .ok (.iload_n 1, 1) := by decide +kernel
theorem dX7_above_10 : decode cX7_above 10 = .ok (.iload_n 2, 1) := by decide +kernel
theorem dX7_above_11 : decode cX7_above 11 = .ok (.iconst 1, 1) := by decide +kernel
theorem dX7_above_12 : decode cX7_above 12 = .ok (.isub, 1) := by decide +kernel
theorem dX7_above_13 : decode cX7_above 13 = .ok (.invokevirtual 83, 3) := by decide +kernel
theorem dX7_above_16 : decode cX7_above 16 = .ok (.ireturn, 1) := by decide +kernel
set_option maxRecDepth 20000 in
theorem ggX7_below_X7_meetsOf : GoodIn wsX7_below wsX7_meetsOf := goodIn_r _ [6, 7, 8, 9, 5, 10, 1, 11, 12, 13, 14, 15, 16, 17, 18, 19, 20, 21, 22, 23, 24, 25, 26, 27, 28, 29, 30, 31, 32, 33, 34, 35, 36, 37, 38, 39] (by decide +kernel) (by decide +kernel)
set_option maxRecDepth 20000 in
theorem gX7_below_X7_meetsOf : GoodIn wsX7_below (wsV RX7 83 RX7 yX7_meetsOf wsX7_meetsOf) := goodIn_app (goodIn_of _ (by decide +kernel)) ggX7_below_X7_meetsOf
theorem dX7_below_0 : decode cX7_below 0 = .ok (.iload_n 2, 1) := by decide +kernel
theorem dX7_below_1 : decode cX7_below 1 = .ok (.iconst 1, 1) := by decide +kernel
theorem dX7_below_2 : decode cX7_below 2 = .ok (.iadd, 1) := by decide +kernel
theorem dX7_below_3 : decode cX7_below 3 = .ok (.aload_n 0, 1) := by decide +kernel
theorem dX7_below_4 : decode cX7_below 4 = .ok (.getfield 7, 3) := by decide +kernel
theorem dX7_below_7 : decode cX7_below 7 = .ok (.iconst 3, 1) := by decide +kernel
theorem dX7_below_8 : decode cX7_below 8 = .ok (.iaload, 1) := by decide +kernel
theorem dX7_below_9 : decode cX7_below 9 = .ok (.if_icmp .ne 7, 3) := by decide +kernel
theorem dX7_below_12 : decode cX7_below 12 = .ok (.iconst 0, 1) := by decide +kernel
theorem dX7_below_13 : decode cX7_below 13 = .ok (.goto 11, 3) := by decide +kernel
theorem dX7_below_16 : decode cX7_below 16 = .ok (.aload_n 0, 1) := by decide +kernel
theorem dX7_below_17 : decode cX7_below 17 = .ok (.iload_n 1, 1) := by decide +kernel
theorem dX7_below_18 : decode cX7_below 18 = .ok (.iload_n 2, 1) := by decide +kernel
theorem dX7_below_19 : decode cX7_below 19 = .ok (.iconst 1, 1) := by decide +kernel
theorem dX7_below_20 : decode cX7_below 20 = .ok (.iadd, 1) := by decide +kernel
theorem dX7_below_21 : decode cX7_below 21 = .ok (.invokevirtual 83, 3) := by decide +kernel
theorem dX7_below_24 : decode cX7_below 24 = .ok (.ireturn, 1) := by decide +kernel
set_option maxRecDepth 20000 in
theorem ggX7_setWidth_X7_in : GoodIn wsX7_setWidth wsX7_in := goodIn_r _ [5] (by decide +kernel) (by decide +kernel)
set_option maxRecDepth 20000 in
theorem gX7_setWidth_X7_in : GoodIn wsX7_setWidth (va_wsS RX7 50 yX7_in wsX7_in) := goodIn_app (goodIn_of _ (by decide +kernel)) ggX7_setWidth_X7_in
set_option maxRecDepth 20000 in
theorem ggX7_setWidth_X7_frozen : GoodIn wsX7_setWidth wsX7_frozen := goodIn_r _ [9, 1, 32, 33, 34, 35, 36, 37, 38, 39, 40, 41, 42, 43, 44, 45, 46, 47, 48, 49, 50] (by decide +kernel) (by decide +kernel)
set_option maxRecDepth 20000 in
theorem gX7_setWidth_X7_frozen : GoodIn wsX7_setWidth (wsV RX7 86 RX7 yX7_frozen wsX7_frozen) := goodIn_app (goodIn_of _ (by decide +kernel)) ggX7_setWidth_X7_frozen
set_option maxRecDepth 20000 in
theorem ggX7_setWidth_X7_records : GoodIn wsX7_setWidth wsX7_records := goodIn_r _ [13, 14, 15, 1, 32, 33, 34, 35, 36, 37, 38, 39, 40, 41, 42, 43, 44, 45, 46, 47, 48, 49, 50] (by decide +kernel) (by decide +kernel)
set_option maxRecDepth 20000 in
theorem gX7_setWidth_X7_records : GoodIn wsX7_setWidth (wsV RX7 90 RX7 yX7_records wsX7_records) := goodIn_app (goodIn_of _ (by decide +kernel)) ggX7_setWidth_X7_records
set_option maxRecDepth 20000 in
theorem ggX7_setWidth_X7_fills : GoodIn wsX7_setWidth wsX7_fills := goodIn_r _ [19, 1, 20, 21, 22, 4, 23, 24, 25, 26, 27, 28, 29, 30, 31, 32, 33, 34, 35, 36, 37, 38, 39, 40, 41, 42, 43, 44, 45, 46, 47, 48, 49, 50] (by decide +kernel) (by decide +kernel)
set_option maxRecDepth 20000 in
theorem gX7_setWidth_X7_fills : GoodIn wsX7_setWidth (wsV RX7 93 RX7 yX7_fills wsX7_fills) := goodIn_app (goodIn_of _ (by decide +kernel)) ggX7_setWidth_X7_fills
theorem dX7_setWidth_0 : decode cX7_setWidth 0 = .ok (.iload_n 1, 1) := by decide +kernel
theorem dX7_setWidth_1 : decode cX7_setWidth 1 = .ok (.bipush 16, 2) := by decide +kernel
theorem dX7_setWidth_3 : decode cX7_setWidth 3 = .ok (.bipush 40, 2) := by decide +kernel
theorem dX7_setWidth_5 : decode cX7_setWidth 5 = .ok (.invokestatic 50, 3) := by decide +kernel
theorem dX7_setWidth_8 : decode cX7_setWidth 8 = .ok (.ifCond .ne 5, 3) := by decide +kernel
theorem dX7_setWidth_11 : decode cX7_setWidth 11 = .ok (.iconst (-1), 1) := by decide +kernel
theorem dX7_setWidth_12 : decode cX7_setWidth 12 = .ok (.ireturn, 1) := by decide +kernel
theorem dX7_setWidth_13 : decode cX7_setWidth 13 = .ok (.aload_n 0, 1) := by decide +kernel
theorem dX7_setWidth_14 : decode cX7_setWidth 14 = .ok (.invokevirtual 86, 3) := by decide +kernel
theorem dX7_setWidth_17 : decode cX7_setWidth 17 = .ok (.ifCond .le 6, 3) := by decide +kernel
theorem dX7_setWidth_20 : decode cX7_setWidth 20 = .ok (.bipush (-2), 2) := by decide +kernel
theorem dX7_setWidth_22 : decode cX7_setWidth 22 = .ok (.ireturn, 1) := by decide +kernel
theorem dX7_setWidth_23 : decode cX7_setWidth 23 = .ok (.aload_n 0, 1) := by decide +kernel
theorem dX7_setWidth_24 : decode cX7_setWidth 24 = .ok (.invokevirtual 90, 3) := by decide +kernel
theorem dX7_setWidth_27 : decode cX7_setWidth 27 = .ok (.aload_n 0, 1) := by decide +kernel
theorem dX7_setWidth_28 : decode cX7_setWidth 28 = .ok (.getfield 7, 3) := by decide +kernel
theorem dX7_setWidth_31 : decode cX7_setWidth 31 = .ok (.iconst 1, 1) := by decide +kernel
theorem dX7_setWidth_32 : decode cX7_setWidth 32 = .ok (.iload_n 1, 1) := by decide +kernel
theorem dX7_setWidth_33 : decode cX7_setWidth 33 = .ok (.iastore, 1) := by decide +kernel
theorem dX7_setWidth_34 : decode cX7_setWidth 34 = .ok (.aload_n 0, 1) := by decide +kernel
theorem dX7_setWidth_35 : decode cX7_setWidth 35 = .ok (.invokevirtual 93, 3) := by decide +kernel
theorem dX7_setWidth_38 : decode cX7_setWidth 38 = .ok (.aload_n 0, 1) := by decide +kernel
theorem dX7_setWidth_39 : decode cX7_setWidth 39 = .ok (.getfield 7, 3) := by decide +kernel
theorem dX7_setWidth_42 : decode cX7_setWidth 42 = .ok (.iconst 3, 1) := by decide +kernel
theorem dX7_setWidth_43 : decode cX7_setWidth 43 = .ok (.iaload, 1) := by decide +kernel
theorem dX7_setWidth_44 : decode cX7_setWidth 44 = .ok (.ireturn, 1) := by decide +kernel
set_option maxRecDepth 20000 in
theorem ggX7_setSlack_X7_in : GoodIn wsX7_setSlack wsX7_in := goodIn_r _ [5] (by decide +kernel) (by decide +kernel)
set_option maxRecDepth 20000 in
theorem gX7_setSlack_X7_in : GoodIn wsX7_setSlack (va_wsS RX7 50 yX7_in wsX7_in) := goodIn_app (goodIn_of _ (by decide +kernel)) ggX7_setSlack_X7_in
set_option maxRecDepth 20000 in
theorem ggX7_setSlack_X7_records : GoodIn wsX7_setSlack wsX7_records := goodIn_r _ [9, 10, 11, 1, 12, 13, 14, 15, 16, 17, 18, 19, 20, 21, 22, 23, 24, 25, 26, 27, 28, 29, 30] (by decide +kernel) (by decide +kernel)
set_option maxRecDepth 20000 in
theorem gX7_setSlack_X7_records : GoodIn wsX7_setSlack (wsV RX7 90 RX7 yX7_records wsX7_records) := goodIn_app (goodIn_of _ (by decide +kernel)) ggX7_setSlack_X7_records
theorem dX7_setSlack_0 : decode cX7_setSlack 0 = .ok (.iload_n 1, 1) := by decide +kernel
theorem dX7_setSlack_1 : decode cX7_setSlack 1 = .ok (.iconst 0, 1) := by decide +kernel
theorem dX7_setSlack_2 : decode cX7_setSlack 2 = .ok (.bipush 8, 2) := by decide +kernel
theorem dX7_setSlack_4 : decode cX7_setSlack 4 = .ok (.invokestatic 50, 3) := by decide +kernel
theorem dX7_setSlack_7 : decode cX7_setSlack 7 = .ok (.ifCond .ne 5, 3) := by decide +kernel
theorem dX7_setSlack_10 : decode cX7_setSlack 10 = .ok (.iconst (-1), 1) := by decide +kernel
theorem dX7_setSlack_11 : decode cX7_setSlack 11 = .ok (.ireturn, 1) := by decide +kernel
theorem dX7_setSlack_12 : decode cX7_setSlack 12 = .ok (.aload_n 0, 1) := by decide +kernel
theorem dX7_setSlack_13 : decode cX7_setSlack 13 = .ok (.invokevirtual 90, 3) := by decide +kernel
theorem dX7_setSlack_16 : decode cX7_setSlack 16 = .ok (.aload_n 0, 1) := by decide +kernel
theorem dX7_setSlack_17 : decode cX7_setSlack 17 = .ok (.getfield 7, 3) := by decide +kernel
theorem dX7_setSlack_20 : decode cX7_setSlack 20 = .ok (.iconst 2, 1) := by decide +kernel
theorem dX7_setSlack_21 : decode cX7_setSlack 21 = .ok (.iaload, 1) := by decide +kernel
theorem dX7_setSlack_22 : decode cX7_setSlack 22 = .ok (.istore_n 2, 1) := by decide +kernel
theorem dX7_setSlack_23 : decode cX7_setSlack 23 = .ok (.aload_n 0, 1) := by decide +kernel
theorem dX7_setSlack_24 : decode cX7_setSlack 24 = .ok (.getfield 7, 3) := by decide +kernel
theorem dX7_setSlack_27 : decode cX7_setSlack 27 = .ok (.iconst 2, 1) := by decide +kernel
theorem dX7_setSlack_28 : decode cX7_setSlack 28 = .ok (.iload_n 1, 1) := by decide +kernel
theorem dX7_setSlack_29 : decode cX7_setSlack 29 = .ok (.iastore, 1) := by decide +kernel
theorem dX7_setSlack_30 : decode cX7_setSlack 30 = .ok (.iload_n 2, 1) := by decide +kernel
theorem dX7_setSlack_31 : decode cX7_setSlack 31 = .ok (.ireturn, 1) := by decide +kernel
set_option maxRecDepth 20000 in
theorem ggX7_add_X7_in : GoodIn wsX7_add wsX7_in := goodIn_r _ [5] (by decide +kernel) (by decide +kernel)
set_option maxRecDepth 20000 in
theorem gX7_add_X7_in : GoodIn wsX7_add (va_wsS RX7 50 yX7_in wsX7_in) := goodIn_app (goodIn_of _ (by decide +kernel)) ggX7_add_X7_in
set_option maxRecDepth 20000 in
theorem ggX7_add_X7_records : GoodIn wsX7_add wsX7_records := goodIn_r _ [9, 10, 11, 1, 24, 25, 26, 27, 28, 29, 30, 31, 32, 33, 34, 35, 36, 37, 38, 39, 40, 41, 42] (by decide +kernel) (by decide +kernel)
set_option maxRecDepth 20000 in
theorem gX7_add_X7_records : GoodIn wsX7_add (wsV RX7 90 RX7 yX7_records wsX7_records) := goodIn_app (goodIn_of _ (by decide +kernel)) ggX7_add_X7_records
set_option maxRecDepth 20000 in
theorem ggX7_add_X7_first : GoodIn wsX7_add wsX7_first := goodIn_r _ [15, 1, 24, 25, 26, 27, 28, 29, 30, 31, 32, 33, 34, 35, 36, 37, 38, 39, 40, 41, 42] (by decide +kernel) (by decide +kernel)
set_option maxRecDepth 20000 in
theorem gX7_add_X7_first : GoodIn wsX7_add (wsV RX7 73 RX7 yX7_first wsX7_first) := goodIn_app (goodIn_of _ (by decide +kernel)) ggX7_add_X7_first
set_option maxRecDepth 20000 in
theorem ggX7_add_X7_fits : GoodIn wsX7_add wsX7_fits := goodIn_r _ [19, 1, 20, 21, 22, 4, 23, 24, 25, 26, 27, 28, 29, 30, 31, 32, 33, 34, 35, 36, 37, 38, 39, 40, 41, 42] (by decide +kernel) (by decide +kernel)
set_option maxRecDepth 20000 in
theorem gX7_add_X7_fits : GoodIn wsX7_add (wsV RX7 62 RX7 yX7_fits wsX7_fits) := goodIn_app (goodIn_of _ (by decide +kernel)) ggX7_add_X7_fits
theorem dX7_add_0 : decode cX7_add 0 = .ok (.iload_n 1, 1) := by decide +kernel
theorem dX7_add_1 : decode cX7_add 1 = .ok (.iconst 1, 1) := by decide +kernel
theorem dX7_add_2 : decode cX7_add 2 = .ok (.bipush 8, 2) := by decide +kernel
theorem dX7_add_4 : decode cX7_add 4 = .ok (.invokestatic 50, 3) := by decide +kernel
theorem dX7_add_7 : decode cX7_add 7 = .ok (.ifCond .ne 5, 3) := by decide +kernel
theorem dX7_add_10 : decode cX7_add 10 = .ok (.iconst (-1), 1) := by decide +kernel
theorem dX7_add_11 : decode cX7_add 11 = .ok (.ireturn, 1) := by decide +kernel
theorem dX7_add_12 : decode cX7_add 12 = .ok (.aload_n 0, 1) := by decide +kernel
theorem dX7_add_13 : decode cX7_add 13 = .ok (.getfield 7, 3) := by decide +kernel
theorem dX7_add_16 : decode cX7_add 16 = .ok (.iconst 0, 1) := by decide +kernel
theorem dX7_add_17 : decode cX7_add 17 = .ok (.iaload, 1) := by decide +kernel
theorem dX7_add_18 : decode cX7_add 18 = .ok (.bipush 24, 2) := by decide +kernel
theorem dX7_add_20 : decode cX7_add 20 = .ok (.if_icmp .ne 6, 3) := by decide +kernel
theorem dX7_add_23 : decode cX7_add 23 = .ok (.bipush (-3), 2) := by decide +kernel
theorem dX7_add_25 : decode cX7_add 25 = .ok (.ireturn, 1) := by decide +kernel
theorem dX7_add_26 : decode cX7_add 26 = .ok (.aload_n 0, 1) := by decide +kernel
theorem dX7_add_27 : decode cX7_add 27 = .ok (.invokevirtual 90, 3) := by decide +kernel
theorem dX7_add_30 : decode cX7_add 30 = .ok (.aload_n 0, 1) := by decide +kernel
theorem dX7_add_31 : decode cX7_add 31 = .ok (.getfield 7, 3) := by decide +kernel
theorem dX7_add_34 : decode cX7_add 34 = .ok (.iconst 3, 1) := by decide +kernel
theorem dX7_add_35 : decode cX7_add 35 = .ok (.iaload, 1) := by decide +kernel
theorem dX7_add_36 : decode cX7_add 36 = .ok (.iconst 1, 1) := by decide +kernel
theorem dX7_add_37 : decode cX7_add 37 = .ok (.isub, 1) := by decide +kernel
theorem dX7_add_38 : decode cX7_add 38 = .ok (.istore_n 2, 1) := by decide +kernel
theorem dX7_add_39 : decode cX7_add 39 = .ok (.aload_n 0, 1) := by decide +kernel
theorem dX7_add_40 : decode cX7_add 40 = .ok (.getfield 7, 3) := by decide +kernel
theorem dX7_add_43 : decode cX7_add 43 = .ok (.iconst 4, 1) := by decide +kernel
theorem dX7_add_44 : decode cX7_add 44 = .ok (.aload_n 0, 1) := by decide +kernel
theorem dX7_add_45 : decode cX7_add 45 = .ok (.getfield 7, 3) := by decide +kernel
theorem dX7_add_48 : decode cX7_add 48 = .ok (.iconst 0, 1) := by decide +kernel
theorem dX7_add_49 : decode cX7_add 49 = .ok (.iaload, 1) := by decide +kernel
theorem dX7_add_50 : decode cX7_add 50 = .ok (.iadd, 1) := by decide +kernel
theorem dX7_add_51 : decode cX7_add 51 = .ok (.iload_n 1, 1) := by decide +kernel
theorem dX7_add_52 : decode cX7_add 52 = .ok (.iastore, 1) := by decide +kernel
theorem dX7_add_53 : decode cX7_add 53 = .ok (.aload_n 0, 1) := by decide +kernel
theorem dX7_add_54 : decode cX7_add 54 = .ok (.getfield 7, 3) := by decide +kernel
theorem dX7_add_57 : decode cX7_add 57 = .ok (.iconst 0, 1) := by decide +kernel
theorem dX7_add_58 : decode cX7_add 58 = .ok (.dup2, 1) := by decide +kernel
theorem dX7_add_59 : decode cX7_add 59 = .ok (.iaload, 1) := by decide +kernel
theorem dX7_add_60 : decode cX7_add 60 = .ok (.iconst 1, 1) := by decide +kernel
theorem dX7_add_61 : decode cX7_add 61 = .ok (.iadd, 1) := by decide +kernel
theorem dX7_add_62 : decode cX7_add 62 = .ok (.iastore, 1) := by decide +kernel
theorem dX7_add_63 : decode cX7_add 63 = .ok (.iload_n 2, 1) := by decide +kernel
theorem dX7_add_64 : decode cX7_add 64 = .ok (.ifCond .lt 34, 3) := by decide +kernel
theorem dX7_add_67 : decode cX7_add 67 = .ok (.aload_n 0, 1) := by decide +kernel
theorem dX7_add_68 : decode cX7_add 68 = .ok (.getfield 7, 3) := by decide +kernel
theorem dX7_add_71 : decode cX7_add 71 = .ok (.bipush 53, 2) := by decide +kernel
theorem dX7_add_73 : decode cX7_add 73 = .ok (.iload_n 2, 1) := by decide +kernel
theorem dX7_add_74 : decode cX7_add 74 = .ok (.iadd, 1) := by decide +kernel
theorem dX7_add_75 : decode cX7_add 75 = .ok (.iaload, 1) := by decide +kernel
theorem dX7_add_76 : decode cX7_add 76 = .ok (.iconst 1, 1) := by decide +kernel
theorem dX7_add_77 : decode cX7_add 77 = .ok (.if_icmp .eq 21, 3) := by decide +kernel
theorem dX7_add_80 : decode cX7_add 80 = .ok (.aload_n 0, 1) := by decide +kernel
theorem dX7_add_81 : decode cX7_add 81 = .ok (.aload_n 0, 1) := by decide +kernel
theorem dX7_add_82 : decode cX7_add 82 = .ok (.iload_n 2, 1) := by decide +kernel
theorem dX7_add_83 : decode cX7_add 83 = .ok (.invokevirtual 73, 3) := by decide +kernel
theorem dX7_add_86 : decode cX7_add 86 = .ok (.aload_n 0, 1) := by decide +kernel
theorem dX7_add_87 : decode cX7_add 87 = .ok (.getfield 7, 3) := by decide +kernel
theorem dX7_add_90 : decode cX7_add 90 = .ok (.iconst 0, 1) := by decide +kernel
theorem dX7_add_91 : decode cX7_add 91 = .ok (.iaload, 1) := by decide +kernel
theorem dX7_add_92 : decode cX7_add 92 = .ok (.invokevirtual 62, 3) := by decide +kernel
theorem dX7_add_95 : decode cX7_add 95 = .ok (.ifCond .ne 50, 3) := by decide +kernel
theorem dX7_add_98 : decode cX7_add 98 = .ok (.aload_n 0, 1) := by decide +kernel
theorem dX7_add_99 : decode cX7_add 99 = .ok (.getfield 7, 3) := by decide +kernel
theorem dX7_add_102 : decode cX7_add 102 = .ok (.bipush 28, 2) := by decide +kernel
theorem dX7_add_104 : decode cX7_add 104 = .ok (.aload_n 0, 1) := by decide +kernel
theorem dX7_add_105 : decode cX7_add 105 = .ok (.getfield 7, 3) := by decide +kernel
theorem dX7_add_108 : decode cX7_add 108 = .ok (.iconst 3, 1) := by decide +kernel
theorem dX7_add_109 : decode cX7_add 109 = .ok (.iaload, 1) := by decide +kernel
theorem dX7_add_110 : decode cX7_add 110 = .ok (.iadd, 1) := by decide +kernel
theorem dX7_add_111 : decode cX7_add 111 = .ok (.aload_n 0, 1) := by decide +kernel
theorem dX7_add_112 : decode cX7_add 112 = .ok (.getfield 7, 3) := by decide +kernel
theorem dX7_add_115 : decode cX7_add 115 = .ok (.iconst 0, 1) := by decide +kernel
theorem dX7_add_116 : decode cX7_add 116 = .ok (.iaload, 1) := by decide +kernel
theorem dX7_add_117 : decode cX7_add 117 = .ok (.iconst 1, 1) := by decide +kernel
theorem dX7_add_118 : decode cX7_add 118 = .ok (.isub, 1) := by decide +kernel
theorem dX7_add_119 : decode cX7_add 119 = .ok (.iastore, 1) := by decide +kernel
theorem dX7_add_120 : decode cX7_add 120 = .ok (.aload_n 0, 1) := by decide +kernel
theorem dX7_add_121 : decode cX7_add 121 = .ok (.getfield 7, 3) := by decide +kernel
theorem dX7_add_124 : decode cX7_add 124 = .ok (.bipush 53, 2) := by decide +kernel
theorem dX7_add_126 : decode cX7_add 126 = .ok (.aload_n 0, 1) := by decide +kernel
theorem dX7_add_127 : decode cX7_add 127 = .ok (.getfield 7, 3) := by decide +kernel
theorem dX7_add_130 : decode cX7_add 130 = .ok (.iconst 3, 1) := by decide +kernel
theorem dX7_add_131 : decode cX7_add 131 = .ok (.iaload, 1) := by decide +kernel
theorem dX7_add_132 : decode cX7_add 132 = .ok (.iadd, 1) := by decide +kernel
theorem dX7_add_133 : decode cX7_add 133 = .ok (.iconst 0, 1) := by decide +kernel
theorem dX7_add_134 : decode cX7_add 134 = .ok (.iastore, 1) := by decide +kernel
theorem dX7_add_135 : decode cX7_add 135 = .ok (.aload_n 0, 1) := by decide +kernel
theorem dX7_add_136 : decode cX7_add 136 = .ok (.getfield 7, 3) := by decide +kernel
theorem dX7_add_139 : decode cX7_add 139 = .ok (.iconst 3, 1) := by decide +kernel
theorem dX7_add_140 : decode cX7_add 140 = .ok (.dup2, 1) := by decide +kernel
theorem dX7_add_141 : decode cX7_add 141 = .ok (.iaload, 1) := by decide +kernel
theorem dX7_add_142 : decode cX7_add 142 = .ok (.iconst 1, 1) := by decide +kernel
theorem dX7_add_143 : decode cX7_add 143 = .ok (.iadd, 1) := by decide +kernel
theorem dX7_add_144 : decode cX7_add 144 = .ok (.iastore, 1) := by decide +kernel
theorem dX7_add_145 : decode cX7_add 145 = .ok (.aload_n 0, 1) := by decide +kernel
theorem dX7_add_146 : decode cX7_add 146 = .ok (.getfield 7, 3) := by decide +kernel
theorem dX7_add_149 : decode cX7_add 149 = .ok (.iconst 0, 1) := by decide +kernel
theorem dX7_add_150 : decode cX7_add 150 = .ok (.iaload, 1) := by decide +kernel
theorem dX7_add_151 : decode cX7_add 151 = .ok (.iconst 1, 1) := by decide +kernel
theorem dX7_add_152 : decode cX7_add 152 = .ok (.isub, 1) := by decide +kernel
theorem dX7_add_153 : decode cX7_add 153 = .ok (.ireturn, 1) := by decide +kernel
set_option maxRecDepth 20000 in
theorem ggX7_remove_X7_records : GoodIn wsX7_remove wsX7_records := goodIn_r _ [6, 7, 8, 1, 13, 14, 15, 16, 17, 18, 19, 20, 21, 22, 23, 24, 25, 26, 27, 28, 29, 30, 31] (by decide +kernel) (by decide +kernel)
set_option maxRecDepth 20000 in
theorem gX7_remove_X7_records : GoodIn wsX7_remove (wsV RX7 90 RX7 yX7_records wsX7_records) := goodIn_app (goodIn_of _ (by decide +kernel)) ggX7_remove_X7_records
set_option maxRecDepth 20000 in
theorem ggX7_remove_X7_first : GoodIn wsX7_remove wsX7_first := goodIn_r _ [12, 1, 13, 14, 15, 16, 17, 18, 19, 20, 21, 22, 23, 24, 25, 26, 27, 28, 29, 30, 31] (by decide +kernel) (by decide +kernel)
set_option maxRecDepth 20000 in
theorem gX7_remove_X7_first : GoodIn wsX7_remove (wsV RX7 73 RX7 yX7_first wsX7_first) := goodIn_app (goodIn_of _ (by decide +kernel)) ggX7_remove_X7_first
theorem dX7_remove_0 : decode cX7_remove 0 = .ok (.aload_n 0, 1) := by decide +kernel
theorem dX7_remove_1 : decode cX7_remove 1 = .ok (.getfield 7, 3) := by decide +kernel
theorem dX7_remove_4 : decode cX7_remove 4 = .ok (.iconst 3, 1) := by decide +kernel
theorem dX7_remove_5 : decode cX7_remove 5 = .ok (.iaload, 1) := by decide +kernel
theorem dX7_remove_6 : decode cX7_remove 6 = .ok (.iconst 1, 1) := by decide +kernel
theorem dX7_remove_7 : decode cX7_remove 7 = .ok (.isub, 1) := by decide +kernel
theorem dX7_remove_8 : decode cX7_remove 8 = .ok (.istore_n 1, 1) := by decide +kernel
theorem dX7_remove_9 : decode cX7_remove 9 = .ok (.iload_n 1, 1) := by decide +kernel
theorem dX7_remove_10 : decode cX7_remove 10 = .ok (.ifCond .lt 16, 3) := by decide +kernel
theorem dX7_remove_13 : decode cX7_remove 13 = .ok (.aload_n 0, 1) := by decide +kernel
theorem dX7_remove_14 : decode cX7_remove 14 = .ok (.getfield 7, 3) := by decide +kernel
theorem dX7_remove_17 : decode cX7_remove 17 = .ok (.bipush 53, 2) := by decide +kernel
theorem dX7_remove_19 : decode cX7_remove 19 = .ok (.iload_n 1, 1) := by decide +kernel
theorem dX7_remove_20 : decode cX7_remove 20 = .ok (.iadd, 1) := by decide +kernel
theorem dX7_remove_21 : decode cX7_remove 21 = .ok (.iaload, 1) := by decide +kernel
theorem dX7_remove_22 : decode cX7_remove 22 = .ok (.iconst 1, 1) := by decide +kernel
theorem dX7_remove_23 : decode cX7_remove 23 = .ok (.if_icmp .ne 6, 3) := by decide +kernel
theorem dX7_remove_26 : decode cX7_remove 26 = .ok (.bipush (-2), 2) := by decide +kernel
theorem dX7_remove_28 : decode cX7_remove 28 = .ok (.ireturn, 1) := by decide +kernel
theorem dX7_remove_29 : decode cX7_remove 29 = .ok (.aload_n 0, 1) := by decide +kernel
theorem dX7_remove_30 : decode cX7_remove 30 = .ok (.invokevirtual 90, 3) := by decide +kernel
theorem dX7_remove_33 : decode cX7_remove 33 = .ok (.aload_n 0, 1) := by decide +kernel
theorem dX7_remove_34 : decode cX7_remove 34 = .ok (.getfield 7, 3) := by decide +kernel
theorem dX7_remove_37 : decode cX7_remove 37 = .ok (.iconst 0, 1) := by decide +kernel
theorem dX7_remove_38 : decode cX7_remove 38 = .ok (.dup2, 1) := by decide +kernel
theorem dX7_remove_39 : decode cX7_remove 39 = .ok (.iaload, 1) := by decide +kernel
theorem dX7_remove_40 : decode cX7_remove 40 = .ok (.iconst 1, 1) := by decide +kernel
theorem dX7_remove_41 : decode cX7_remove 41 = .ok (.isub, 1) := by decide +kernel
theorem dX7_remove_42 : decode cX7_remove 42 = .ok (.iastore, 1) := by decide +kernel
theorem dX7_remove_43 : decode cX7_remove 43 = .ok (.aload_n 0, 1) := by decide +kernel
theorem dX7_remove_44 : decode cX7_remove 44 = .ok (.getfield 7, 3) := by decide +kernel
theorem dX7_remove_47 : decode cX7_remove 47 = .ok (.iconst 3, 1) := by decide +kernel
theorem dX7_remove_48 : decode cX7_remove 48 = .ok (.dup2, 1) := by decide +kernel
theorem dX7_remove_49 : decode cX7_remove 49 = .ok (.iaload, 1) := by decide +kernel
theorem dX7_remove_50 : decode cX7_remove 50 = .ok (.aload_n 0, 1) := by decide +kernel
theorem dX7_remove_51 : decode cX7_remove 51 = .ok (.iload_n 1, 1) := by decide +kernel
theorem dX7_remove_52 : decode cX7_remove 52 = .ok (.invokevirtual 73, 3) := by decide +kernel
theorem dX7_remove_55 : decode cX7_remove 55 = .ok (.aload_n 0, 1) := by decide +kernel
theorem dX7_remove_56 : decode cX7_remove 56 = .ok (.getfield 7, 3) := by decide +kernel
theorem dX7_remove_59 : decode cX7_remove 59 = .ok (.iconst 0, 1) := by decide +kernel
theorem dX7_remove_60 : decode cX7_remove 60 = .ok (.iaload, 1) := by decide +kernel
theorem dX7_remove_61 : decode cX7_remove 61 = .ok (.if_icmp .ne 7, 3) := by decide +kernel
theorem dX7_remove_64 : decode cX7_remove 64 = .ok (.iconst 1, 1) := by decide +kernel
theorem dX7_remove_65 : decode cX7_remove 65 = .ok (.goto 4, 3) := by decide +kernel
theorem dX7_remove_68 : decode cX7_remove 68 = .ok (.iconst 0, 1) := by decide +kernel
theorem dX7_remove_69 : decode cX7_remove 69 = .ok (.isub, 1) := by decide +kernel
theorem dX7_remove_70 : decode cX7_remove 70 = .ok (.iastore, 1) := by decide +kernel
theorem dX7_remove_71 : decode cX7_remove 71 = .ok (.aload_n 0, 1) := by decide +kernel
theorem dX7_remove_72 : decode cX7_remove 72 = .ok (.getfield 7, 3) := by decide +kernel
theorem dX7_remove_75 : decode cX7_remove 75 = .ok (.iconst 0, 1) := by decide +kernel
theorem dX7_remove_76 : decode cX7_remove 76 = .ok (.iaload, 1) := by decide +kernel
theorem dX7_remove_77 : decode cX7_remove 77 = .ok (.ireturn, 1) := by decide +kernel
set_option maxRecDepth 20000 in
theorem ggX7_pull_X7_isLine : GoodIn wsX7_pull wsX7_isLine := goodIn_r _ [6, 1, 7, 8, 5, 9, 32, 33, 34, 35, 36, 37, 38, 39, 40, 41, 42, 43, 44, 45, 46, 47, 48, 49, 50] (by decide +kernel) (by decide +kernel)
set_option maxRecDepth 20000 in
theorem gX7_pull_X7_isLine : GoodIn wsX7_pull (wsV RX7 96 RX7 yX7_isLine wsX7_isLine) := goodIn_app (goodIn_of _ (by decide +kernel)) ggX7_pull_X7_isLine
set_option maxRecDepth 20000 in
theorem ggX7_pull_X7_first : GoodIn wsX7_pull wsX7_first := goodIn_r _ [13, 1, 32, 33, 34, 35, 36, 37, 38, 39, 40, 41, 42, 43, 44, 45, 46, 47, 48, 49, 50] (by decide +kernel) (by decide +kernel)
set_option maxRecDepth 20000 in
theorem gX7_pull_X7_first : GoodIn wsX7_pull (wsV RX7 73 RX7 yX7_first wsX7_first) := goodIn_app (goodIn_of _ (by decide +kernel)) ggX7_pull_X7_first
set_option maxRecDepth 20000 in
theorem ggX7_pull_X7_behind : GoodIn wsX7_pull wsX7_behind := goodIn_r _ [17, 1, 32, 33, 34, 35, 36, 37, 38, 39, 40, 41, 42, 43, 44, 45, 46, 47, 48, 49, 50] (by decide +kernel) (by decide +kernel)
set_option maxRecDepth 20000 in
theorem gX7_pull_X7_behind : GoodIn wsX7_pull (wsV RX7 76 RX7 yX7_behind wsX7_behind) := goodIn_app (goodIn_of _ (by decide +kernel)) ggX7_pull_X7_behind
set_option maxRecDepth 20000 in
theorem ggX7_pull_X7_fits : GoodIn wsX7_pull wsX7_fits := goodIn_r _ [21, 1, 22, 23, 24, 5, 25, 32, 33, 34, 35, 36, 37, 38, 39, 40, 41, 42, 43, 44, 45, 46, 47, 48, 49, 50] (by decide +kernel) (by decide +kernel)
set_option maxRecDepth 20000 in
theorem gX7_pull_X7_fits : GoodIn wsX7_pull (wsV RX7 62 RX7 yX7_fits wsX7_fits) := goodIn_app (goodIn_of _ (by decide +kernel)) ggX7_pull_X7_fits
set_option maxRecDepth 20000 in
theorem ggX7_pull_X7_records : GoodIn wsX7_pull wsX7_records := goodIn_r _ [29, 30, 31, 1, 32, 33, 34, 35, 36, 37, 38, 39, 40, 41, 42, 43, 44, 45, 46, 47, 48, 49, 50] (by decide +kernel) (by decide +kernel)
set_option maxRecDepth 20000 in
theorem gX7_pull_X7_records : GoodIn wsX7_pull (wsV RX7 90 RX7 yX7_records wsX7_records) := goodIn_app (goodIn_of _ (by decide +kernel)) ggX7_pull_X7_records
theorem dX7_pull_0 : decode cX7_pull 0 = .ok (.aload_n 0, 1) := by decide +kernel
theorem dX7_pull_1 : decode cX7_pull 1 = .ok (.iload_n 1, 1) := by decide +kernel
theorem dX7_pull_2 : decode cX7_pull 2 = .ok (.invokevirtual 96, 3) := by decide +kernel
theorem dX7_pull_5 : decode cX7_pull 5 = .ok (.ifCond .ne 5, 3) := by decide +kernel
theorem dX7_pull_8 : decode cX7_pull 8 = .ok (.iconst (-1), 1) := by decide +kernel
theorem dX7_pull_9 : decode cX7_pull 9 = .ok (.ireturn, 1) := by decide +kernel
theorem dX7_pull_10 : decode cX7_pull 10 = .ok (.iload_n 1, 1) := by decide +kernel
theorem dX7_pull_11 : decode cX7_pull 11 = .ok (.iconst 1, 1) := by decide +kernel
theorem dX7_pull_12 : decode cX7_pull 12 = .ok (.iadd, 1) := by decide +kernel
theorem dX7_pull_13 : decode cX7_pull 13 = .ok (.aload_n 0, 1) := by decide +kernel
theorem dX7_pull_14 : decode cX7_pull 14 = .ok (.getfield 7, 3) := by decide +kernel
theorem dX7_pull_17 : decode cX7_pull 17 = .ok (.iconst 3, 1) := by decide +kernel
theorem dX7_pull_18 : decode cX7_pull 18 = .ok (.iaload, 1) := by decide +kernel
theorem dX7_pull_19 : decode cX7_pull 19 = .ok (.if_icmp .eq 46, 3) := by decide +kernel
theorem dX7_pull_22 : decode cX7_pull 22 = .ok (.aload_n 0, 1) := by decide +kernel
theorem dX7_pull_23 : decode cX7_pull 23 = .ok (.getfield 7, 3) := by decide +kernel
theorem dX7_pull_26 : decode cX7_pull 26 = .ok (.bipush 53, 2) := by decide +kernel
theorem dX7_pull_28 : decode cX7_pull 28 = .ok (.iload_n 1, 1) := by decide +kernel
theorem dX7_pull_29 : decode cX7_pull 29 = .ok (.iadd, 1) := by decide +kernel
theorem dX7_pull_30 : decode cX7_pull 30 = .ok (.iaload, 1) := by decide +kernel
theorem dX7_pull_31 : decode cX7_pull 31 = .ok (.aload_n 0, 1) := by decide +kernel
theorem dX7_pull_32 : decode cX7_pull 32 = .ok (.getfield 7, 3) := by decide +kernel
theorem dX7_pull_35 : decode cX7_pull 35 = .ok (.bipush 53, 2) := by decide +kernel
theorem dX7_pull_37 : decode cX7_pull 37 = .ok (.iload_n 1, 1) := by decide +kernel
theorem dX7_pull_38 : decode cX7_pull 38 = .ok (.iadd, 1) := by decide +kernel
theorem dX7_pull_39 : decode cX7_pull 39 = .ok (.iconst 1, 1) := by decide +kernel
theorem dX7_pull_40 : decode cX7_pull 40 = .ok (.iadd, 1) := by decide +kernel
theorem dX7_pull_41 : decode cX7_pull 41 = .ok (.iaload, 1) := by decide +kernel
theorem dX7_pull_42 : decode cX7_pull 42 = .ok (.iadd, 1) := by decide +kernel
theorem dX7_pull_43 : decode cX7_pull 43 = .ok (.ifCond .gt 22, 3) := by decide +kernel
theorem dX7_pull_46 : decode cX7_pull 46 = .ok (.aload_n 0, 1) := by decide +kernel
theorem dX7_pull_47 : decode cX7_pull 47 = .ok (.aload_n 0, 1) := by decide +kernel
theorem dX7_pull_48 : decode cX7_pull 48 = .ok (.iload_n 1, 1) := by decide +kernel
theorem dX7_pull_49 : decode cX7_pull 49 = .ok (.invokevirtual 73, 3) := by decide +kernel
theorem dX7_pull_52 : decode cX7_pull 52 = .ok (.aload_n 0, 1) := by decide +kernel
theorem dX7_pull_53 : decode cX7_pull 53 = .ok (.iload_n 1, 1) := by decide +kernel
theorem dX7_pull_54 : decode cX7_pull 54 = .ok (.invokevirtual 76, 3) := by decide +kernel
theorem dX7_pull_57 : decode cX7_pull 57 = .ok (.iconst 1, 1) := by decide +kernel
theorem dX7_pull_58 : decode cX7_pull 58 = .ok (.iadd, 1) := by decide +kernel
theorem dX7_pull_59 : decode cX7_pull 59 = .ok (.invokevirtual 62, 3) := by decide +kernel
theorem dX7_pull_62 : decode cX7_pull 62 = .ok (.ifCond .ne 6, 3) := by decide +kernel
theorem dX7_pull_65 : decode cX7_pull 65 = .ok (.bipush (-2), 2) := by decide +kernel
theorem dX7_pull_67 : decode cX7_pull 67 = .ok (.ireturn, 1) := by decide +kernel
theorem dX7_pull_68 : decode cX7_pull 68 = .ok (.aload_n 0, 1) := by decide +kernel
theorem dX7_pull_69 : decode cX7_pull 69 = .ok (.invokevirtual 90, 3) := by decide +kernel
theorem dX7_pull_72 : decode cX7_pull 72 = .ok (.aload_n 0, 1) := by decide +kernel
theorem dX7_pull_73 : decode cX7_pull 73 = .ok (.getfield 7, 3) := by decide +kernel
theorem dX7_pull_76 : decode cX7_pull 76 = .ok (.bipush 28, 2) := by decide +kernel
theorem dX7_pull_78 : decode cX7_pull 78 = .ok (.iload_n 1, 1) := by decide +kernel
theorem dX7_pull_79 : decode cX7_pull 79 = .ok (.iadd, 1) := by decide +kernel
theorem dX7_pull_80 : decode cX7_pull 80 = .ok (.iconst 1, 1) := by decide +kernel
theorem dX7_pull_81 : decode cX7_pull 81 = .ok (.iadd, 1) := by decide +kernel
theorem dX7_pull_82 : decode cX7_pull 82 = .ok (.dup2, 1) := by decide +kernel
theorem dX7_pull_83 : decode cX7_pull 83 = .ok (.iaload, 1) := by decide +kernel
theorem dX7_pull_84 : decode cX7_pull 84 = .ok (.iconst 1, 1) := by decide +kernel
theorem dX7_pull_85 : decode cX7_pull 85 = .ok (.iadd, 1) := by decide +kernel
theorem dX7_pull_86 : decode cX7_pull 86 = .ok (.iastore, 1) := by decide +kernel
theorem dX7_pull_87 : decode cX7_pull 87 = .ok (.aload_n 0, 1) := by decide +kernel
theorem dX7_pull_88 : decode cX7_pull 88 = .ok (.iload_n 1, 1) := by decide +kernel
theorem dX7_pull_89 : decode cX7_pull 89 = .ok (.iconst 1, 1) := by decide +kernel
theorem dX7_pull_90 : decode cX7_pull 90 = .ok (.iadd, 1) := by decide +kernel
theorem dX7_pull_91 : decode cX7_pull 91 = .ok (.invokevirtual 76, 3) := by decide +kernel
theorem dX7_pull_94 : decode cX7_pull 94 = .ok (.aload_n 0, 1) := by decide +kernel
theorem dX7_pull_95 : decode cX7_pull 95 = .ok (.getfield 7, 3) := by decide +kernel
theorem dX7_pull_98 : decode cX7_pull 98 = .ok (.bipush 28, 2) := by decide +kernel
theorem dX7_pull_100 : decode cX7_pull 100 = .ok (.iload_n 1, 1) := by decide +kernel
theorem dX7_pull_101 : decode cX7_pull 101 = .ok (.iadd, 1) := by decide +kernel
theorem dX7_pull_102 : decode cX7_pull 102 = .ok (.iconst 1, 1) := by decide +kernel
theorem dX7_pull_103 : decode cX7_pull 103 = .ok (.iadd, 1) := by decide +kernel
theorem dX7_pull_104 : decode cX7_pull 104 = .ok (.iaload, 1) := by decide +kernel
theorem dX7_pull_105 : decode cX7_pull 105 = .ok (.if_icmp .ne 73, 3) := by decide +kernel
theorem dX7_pull_108 : decode cX7_pull 108 = .ok (.aload_n 0, 1) := by decide +kernel
theorem dX7_pull_109 : decode cX7_pull 109 = .ok (.getfield 7, 3) := by decide +kernel
theorem dX7_pull_112 : decode cX7_pull 112 = .ok (.iconst 3, 1) := by decide +kernel
theorem dX7_pull_113 : decode cX7_pull 113 = .ok (.dup2, 1) := by decide +kernel
theorem dX7_pull_114 : decode cX7_pull 114 = .ok (.iaload, 1) := by decide +kernel
theorem dX7_pull_115 : decode cX7_pull 115 = .ok (.iconst 1, 1) := by decide +kernel
theorem dX7_pull_116 : decode cX7_pull 116 = .ok (.isub, 1) := by decide +kernel
theorem dX7_pull_117 : decode cX7_pull 117 = .ok (.iastore, 1) := by decide +kernel
theorem dX7_pull_118 : decode cX7_pull 118 = .ok (.iload_n 1, 1) := by decide +kernel
theorem dX7_pull_119 : decode cX7_pull 119 = .ok (.iconst 1, 1) := by decide +kernel
theorem dX7_pull_120 : decode cX7_pull 120 = .ok (.iadd, 1) := by decide +kernel
theorem dX7_pull_121 : decode cX7_pull 121 = .ok (.istore_n 2, 1) := by decide +kernel
theorem dX7_pull_122 : decode cX7_pull 122 = .ok (.iload_n 2, 1) := by decide +kernel
theorem dX7_pull_123 : decode cX7_pull 123 = .ok (.aload_n 0, 1) := by decide +kernel
theorem dX7_pull_124 : decode cX7_pull 124 = .ok (.getfield 7, 3) := by decide +kernel
theorem dX7_pull_127 : decode cX7_pull 127 = .ok (.iconst 3, 1) := by decide +kernel
theorem dX7_pull_128 : decode cX7_pull 128 = .ok (.iaload, 1) := by decide +kernel
theorem dX7_pull_129 : decode cX7_pull 129 = .ok (.if_icmp .ge 49, 3) := by decide +kernel
theorem dX7_pull_132 : decode cX7_pull 132 = .ok (.aload_n 0, 1) := by decide +kernel
theorem dX7_pull_133 : decode cX7_pull 133 = .ok (.getfield 7, 3) := by decide +kernel
theorem dX7_pull_136 : decode cX7_pull 136 = .ok (.bipush 28, 2) := by decide +kernel
theorem dX7_pull_138 : decode cX7_pull 138 = .ok (.iload_n 2, 1) := by decide +kernel
theorem dX7_pull_139 : decode cX7_pull 139 = .ok (.iadd, 1) := by decide +kernel
theorem dX7_pull_140 : decode cX7_pull 140 = .ok (.aload_n 0, 1) := by decide +kernel
theorem dX7_pull_141 : decode cX7_pull 141 = .ok (.getfield 7, 3) := by decide +kernel
theorem dX7_pull_144 : decode cX7_pull 144 = .ok (.bipush 28, 2) := by decide +kernel
theorem dX7_pull_146 : decode cX7_pull 146 = .ok (.iload_n 2, 1) := by decide +kernel
theorem dX7_pull_147 : decode cX7_pull 147 = .ok (.iadd, 1) := by decide +kernel
theorem dX7_pull_148 : decode cX7_pull 148 = .ok (.iconst 1, 1) := by decide +kernel
theorem dX7_pull_149 : decode cX7_pull 149 = .ok (.iadd, 1) := by decide +kernel
theorem dX7_pull_150 : decode cX7_pull 150 = .ok (.iaload, 1) := by decide +kernel
theorem dX7_pull_151 : decode cX7_pull 151 = .ok (.iastore, 1) := by decide +kernel
theorem dX7_pull_152 : decode cX7_pull 152 = .ok (.aload_n 0, 1) := by decide +kernel
theorem dX7_pull_153 : decode cX7_pull 153 = .ok (.getfield 7, 3) := by decide +kernel
theorem dX7_pull_156 : decode cX7_pull 156 = .ok (.bipush 53, 2) := by decide +kernel
theorem dX7_pull_158 : decode cX7_pull 158 = .ok (.iload_n 2, 1) := by decide +kernel
theorem dX7_pull_159 : decode cX7_pull 159 = .ok (.iadd, 1) := by decide +kernel
theorem dX7_pull_160 : decode cX7_pull 160 = .ok (.aload_n 0, 1) := by decide +kernel
theorem dX7_pull_161 : decode cX7_pull 161 = .ok (.getfield 7, 3) := by decide +kernel
theorem dX7_pull_164 : decode cX7_pull 164 = .ok (.bipush 53, 2) := by decide +kernel
theorem dX7_pull_166 : decode cX7_pull 166 = .ok (.iload_n 2, 1) := by decide +kernel
theorem dX7_pull_167 : decode cX7_pull 167 = .ok (.iadd, 1) := by decide +kernel
theorem dX7_pull_168 : decode cX7_pull 168 = .ok (.iconst 1, 1) := by decide +kernel
theorem dX7_pull_169 : decode cX7_pull 169 = .ok (.iadd, 1) := by decide +kernel
theorem dX7_pull_170 : decode cX7_pull 170 = .ok (.iaload, 1) := by decide +kernel
theorem dX7_pull_171 : decode cX7_pull 171 = .ok (.iastore, 1) := by decide +kernel
theorem dX7_pull_172 : decode cX7_pull 172 = .ok (.iinc 2 1, 3) := by decide +kernel
theorem dX7_pull_175 : decode cX7_pull 175 = .ok (.goto (-53), 3) := by decide +kernel
theorem dX7_pull_178 : decode cX7_pull 178 = .ok (.aload_n 0, 1) := by decide +kernel
theorem dX7_pull_179 : decode cX7_pull 179 = .ok (.getfield 7, 3) := by decide +kernel
theorem dX7_pull_182 : decode cX7_pull 182 = .ok (.iconst 3, 1) := by decide +kernel
theorem dX7_pull_183 : decode cX7_pull 183 = .ok (.iaload, 1) := by decide +kernel
theorem dX7_pull_184 : decode cX7_pull 184 = .ok (.ireturn, 1) := by decide +kernel
set_option maxRecDepth 20000 in
theorem ggX7_push_X7_isLine : GoodIn wsX7_push wsX7_isLine := goodIn_r _ [6, 1, 7, 8, 5, 9, 32, 33, 34, 35, 36, 37, 38, 39, 40, 41, 42, 43, 44, 45, 46, 47, 48, 49, 50] (by decide +kernel) (by decide +kernel)
set_option maxRecDepth 20000 in
theorem gX7_push_X7_isLine : GoodIn wsX7_push (wsV RX7 96 RX7 yX7_isLine wsX7_isLine) := goodIn_app (goodIn_of _ (by decide +kernel)) ggX7_push_X7_isLine
set_option maxRecDepth 20000 in
theorem ggX7_push_X7_behind : GoodIn wsX7_push wsX7_behind := goodIn_r _ [13, 1, 32, 33, 34, 35, 36, 37, 38, 39, 40, 41, 42, 43, 44, 45, 46, 47, 48, 49, 50] (by decide +kernel) (by decide +kernel)
set_option maxRecDepth 20000 in
theorem gX7_push_X7_behind : GoodIn wsX7_push (wsV RX7 76 RX7 yX7_behind wsX7_behind) := goodIn_app (goodIn_of _ (by decide +kernel)) ggX7_push_X7_behind
set_option maxRecDepth 20000 in
theorem ggX7_push_X7_first : GoodIn wsX7_push wsX7_first := goodIn_r _ [17, 1, 32, 33, 34, 35, 36, 37, 38, 39, 40, 41, 42, 43, 44, 45, 46, 47, 48, 49, 50] (by decide +kernel) (by decide +kernel)
set_option maxRecDepth 20000 in
theorem gX7_push_X7_first : GoodIn wsX7_push (wsV RX7 73 RX7 yX7_first wsX7_first) := goodIn_app (goodIn_of _ (by decide +kernel)) ggX7_push_X7_first
set_option maxRecDepth 20000 in
theorem ggX7_push_X7_fits : GoodIn wsX7_push wsX7_fits := goodIn_r _ [21, 1, 22, 23, 24, 5, 25, 32, 33, 34, 35, 36, 37, 38, 39, 40, 41, 42, 43, 44, 45, 46, 47, 48, 49, 50] (by decide +kernel) (by decide +kernel)
set_option maxRecDepth 20000 in
theorem gX7_push_X7_fits : GoodIn wsX7_push (wsV RX7 62 RX7 yX7_fits wsX7_fits) := goodIn_app (goodIn_of _ (by decide +kernel)) ggX7_push_X7_fits
set_option maxRecDepth 20000 in
theorem ggX7_push_X7_records : GoodIn wsX7_push wsX7_records := goodIn_r _ [29, 30, 31, 1, 32, 33, 34, 35, 36, 37, 38, 39, 40, 41, 42, 43, 44, 45, 46, 47, 48, 49, 50] (by decide +kernel) (by decide +kernel)
set_option maxRecDepth 20000 in
theorem gX7_push_X7_records : GoodIn wsX7_push (wsV RX7 90 RX7 yX7_records wsX7_records) := goodIn_app (goodIn_of _ (by decide +kernel)) ggX7_push_X7_records
theorem dX7_push_0 : decode cX7_push 0 = .ok (.aload_n 0, 1) := by decide +kernel
theorem dX7_push_1 : decode cX7_push 1 = .ok (.iload_n 1, 1) := by decide +kernel
theorem dX7_push_2 : decode cX7_push 2 = .ok (.invokevirtual 96, 3) := by decide +kernel
theorem dX7_push_5 : decode cX7_push 5 = .ok (.ifCond .ne 5, 3) := by decide +kernel
theorem dX7_push_8 : decode cX7_push 8 = .ok (.iconst (-1), 1) := by decide +kernel
theorem dX7_push_9 : decode cX7_push 9 = .ok (.ireturn, 1) := by decide +kernel
theorem dX7_push_10 : decode cX7_push 10 = .ok (.iload_n 1, 1) := by decide +kernel
theorem dX7_push_11 : decode cX7_push 11 = .ok (.iconst 1, 1) := by decide +kernel
theorem dX7_push_12 : decode cX7_push 12 = .ok (.iadd, 1) := by decide +kernel
theorem dX7_push_13 : decode cX7_push 13 = .ok (.aload_n 0, 1) := by decide +kernel
theorem dX7_push_14 : decode cX7_push 14 = .ok (.getfield 7, 3) := by decide +kernel
theorem dX7_push_17 : decode cX7_push 17 = .ok (.iconst 3, 1) := by decide +kernel
theorem dX7_push_18 : decode cX7_push 18 = .ok (.iaload, 1) := by decide +kernel
theorem dX7_push_19 : decode cX7_push 19 = .ok (.if_icmp .ne 7, 3) := by decide +kernel
theorem dX7_push_22 : decode cX7_push 22 = .ok (.iconst 1, 1) := by decide +kernel
theorem dX7_push_23 : decode cX7_push 23 = .ok (.goto 4, 3) := by decide +kernel
theorem dX7_push_26 : decode cX7_push 26 = .ok (.iconst 0, 1) := by decide +kernel
theorem dX7_push_27 : decode cX7_push 27 = .ok (.istore_n 2, 1) := by decide +kernel
theorem dX7_push_28 : decode cX7_push 28 = .ok (.aload_n 0, 1) := by decide +kernel
theorem dX7_push_29 : decode cX7_push 29 = .ok (.iload_n 1, 1) := by decide +kernel
theorem dX7_push_30 : decode cX7_push 30 = .ok (.invokevirtual 76, 3) := by decide +kernel
theorem dX7_push_33 : decode cX7_push 33 = .ok (.iconst 1, 1) := by decide +kernel
theorem dX7_push_34 : decode cX7_push 34 = .ok (.isub, 1) := by decide +kernel
theorem dX7_push_35 : decode cX7_push 35 = .ok (.istore_n 3, 1) := by decide +kernel
theorem dX7_push_36 : decode cX7_push 36 = .ok (.iload_n 3, 1) := by decide +kernel
theorem dX7_push_37 : decode cX7_push 37 = .ok (.aload_n 0, 1) := by decide +kernel
theorem dX7_push_38 : decode cX7_push 38 = .ok (.iload_n 1, 1) := by decide +kernel
theorem dX7_push_39 : decode cX7_push 39 = .ok (.invokevirtual 73, 3) := by decide +kernel
theorem dX7_push_42 : decode cX7_push 42 = .ok (.if_icmp .eq 50, 3) := by decide +kernel
theorem dX7_push_45 : decode cX7_push 45 = .ok (.aload_n 0, 1) := by decide +kernel
theorem dX7_push_46 : decode cX7_push 46 = .ok (.getfield 7, 3) := by decide +kernel
theorem dX7_push_49 : decode cX7_push 49 = .ok (.bipush 53, 2) := by decide +kernel
theorem dX7_push_51 : decode cX7_push 51 = .ok (.iload_n 1, 1) := by decide +kernel
theorem dX7_push_52 : decode cX7_push 52 = .ok (.iadd, 1) := by decide +kernel
theorem dX7_push_53 : decode cX7_push 53 = .ok (.iaload, 1) := by decide +kernel
theorem dX7_push_54 : decode cX7_push 54 = .ok (.iconst 1, 1) := by decide +kernel
theorem dX7_push_55 : decode cX7_push 55 = .ok (.if_icmp .eq 37, 3) := by decide +kernel
theorem dX7_push_58 : decode cX7_push 58 = .ok (.iload_n 2, 1) := by decide +kernel
theorem dX7_push_59 : decode cX7_push 59 = .ok (.ifCond .ne 36, 3) := by decide +kernel
theorem dX7_push_62 : decode cX7_push 62 = .ok (.aload_n 0, 1) := by decide +kernel
theorem dX7_push_63 : decode cX7_push 63 = .ok (.getfield 7, 3) := by decide +kernel
theorem dX7_push_66 : decode cX7_push 66 = .ok (.bipush 53, 2) := by decide +kernel
theorem dX7_push_68 : decode cX7_push 68 = .ok (.iload_n 1, 1) := by decide +kernel
theorem dX7_push_69 : decode cX7_push 69 = .ok (.iadd, 1) := by decide +kernel
theorem dX7_push_70 : decode cX7_push 70 = .ok (.iconst 1, 1) := by decide +kernel
theorem dX7_push_71 : decode cX7_push 71 = .ok (.iadd, 1) := by decide +kernel
theorem dX7_push_72 : decode cX7_push 72 = .ok (.iaload, 1) := by decide +kernel
theorem dX7_push_73 : decode cX7_push 73 = .ok (.iconst 1, 1) := by decide +kernel
theorem dX7_push_74 : decode cX7_push 74 = .ok (.if_icmp .eq 18, 3) := by decide +kernel
theorem dX7_push_77 : decode cX7_push 77 = .ok (.aload_n 0, 1) := by decide +kernel
theorem dX7_push_78 : decode cX7_push 78 = .ok (.iload_n 3, 1) := by decide +kernel
theorem dX7_push_79 : decode cX7_push 79 = .ok (.aload_n 0, 1) := by decide +kernel
theorem dX7_push_80 : decode cX7_push 80 = .ok (.iload_n 1, 1) := by decide +kernel
theorem dX7_push_81 : decode cX7_push 81 = .ok (.iconst 1, 1) := by decide +kernel
theorem dX7_push_82 : decode cX7_push 82 = .ok (.iadd, 1) := by decide +kernel
theorem dX7_push_83 : decode cX7_push 83 = .ok (.invokevirtual 76, 3) := by decide +kernel
theorem dX7_push_86 : decode cX7_push 86 = .ok (.invokevirtual 62, 3) := by decide +kernel
theorem dX7_push_89 : decode cX7_push 89 = .ok (.ifCond .ne 6, 3) := by decide +kernel
theorem dX7_push_92 : decode cX7_push 92 = .ok (.bipush (-2), 2) := by decide +kernel
theorem dX7_push_94 : decode cX7_push 94 = .ok (.ireturn, 1) := by decide +kernel
theorem dX7_push_95 : decode cX7_push 95 = .ok (.aload_n 0, 1) := by decide +kernel
theorem dX7_push_96 : decode cX7_push 96 = .ok (.invokevirtual 90, 3) := by decide +kernel
theorem dX7_push_99 : decode cX7_push 99 = .ok (.aload_n 0, 1) := by decide +kernel
theorem dX7_push_100 : decode cX7_push 100 = .ok (.getfield 7, 3) := by decide +kernel
theorem dX7_push_103 : decode cX7_push 103 = .ok (.bipush 28, 2) := by decide +kernel
theorem dX7_push_105 : decode cX7_push 105 = .ok (.iload_n 1, 1) := by decide +kernel
theorem dX7_push_106 : decode cX7_push 106 = .ok (.iadd, 1) := by decide +kernel
theorem dX7_push_107 : decode cX7_push 107 = .ok (.iconst 1, 1) := by decide +kernel
theorem dX7_push_108 : decode cX7_push 108 = .ok (.iadd, 1) := by decide +kernel
theorem dX7_push_109 : decode cX7_push 109 = .ok (.iload_n 3, 1) := by decide +kernel
theorem dX7_push_110 : decode cX7_push 110 = .ok (.iastore, 1) := by decide +kernel
theorem dX7_push_111 : decode cX7_push 111 = .ok (.iload_n 2, 1) := by decide +kernel
theorem dX7_push_112 : decode cX7_push 112 = .ok (.ifCond .eq 25, 3) := by decide +kernel
theorem dX7_push_115 : decode cX7_push 115 = .ok (.aload_n 0, 1) := by decide +kernel
theorem dX7_push_116 : decode cX7_push 116 = .ok (.getfield 7, 3) := by decide +kernel
theorem dX7_push_119 : decode cX7_push 119 = .ok (.bipush 53, 2) := by decide +kernel
theorem dX7_push_121 : decode cX7_push 121 = .ok (.iload_n 1, 1) := by decide +kernel
theorem dX7_push_122 : decode cX7_push 122 = .ok (.iadd, 1) := by decide +kernel
theorem dX7_push_123 : decode cX7_push 123 = .ok (.iconst 1, 1) := by decide +kernel
theorem dX7_push_124 : decode cX7_push 124 = .ok (.iadd, 1) := by decide +kernel
theorem dX7_push_125 : decode cX7_push 125 = .ok (.iconst 0, 1) := by decide +kernel
theorem dX7_push_126 : decode cX7_push 126 = .ok (.iastore, 1) := by decide +kernel
theorem dX7_push_127 : decode cX7_push 127 = .ok (.aload_n 0, 1) := by decide +kernel
theorem dX7_push_128 : decode cX7_push 128 = .ok (.getfield 7, 3) := by decide +kernel
theorem dX7_push_131 : decode cX7_push 131 = .ok (.iconst 3, 1) := by decide +kernel
theorem dX7_push_132 : decode cX7_push 132 = .ok (.dup2, 1) := by decide +kernel
theorem dX7_push_133 : decode cX7_push 133 = .ok (.iaload, 1) := by decide +kernel
theorem dX7_push_134 : decode cX7_push 134 = .ok (.iconst 1, 1) := by decide +kernel
theorem dX7_push_135 : decode cX7_push 135 = .ok (.iadd, 1) := by decide +kernel
theorem dX7_push_136 : decode cX7_push 136 = .ok (.iastore, 1) := by decide +kernel
theorem dX7_push_137 : decode cX7_push 137 = .ok (.aload_n 0, 1) := by decide +kernel
theorem dX7_push_138 : decode cX7_push 138 = .ok (.getfield 7, 3) := by decide +kernel
theorem dX7_push_141 : decode cX7_push 141 = .ok (.iconst 3, 1) := by decide +kernel
theorem dX7_push_142 : decode cX7_push 142 = .ok (.iaload, 1) := by decide +kernel
theorem dX7_push_143 : decode cX7_push 143 = .ok (.ireturn, 1) := by decide +kernel
set_option maxRecDepth 20000 in
theorem ggX7_freeze_X7_isLine : GoodIn wsX7_freeze wsX7_isLine := goodIn_r _ [6, 1, 7, 8, 5, 9, 16, 17, 18, 19, 20, 21, 22, 23, 24, 25, 26, 27, 28, 29, 30, 31, 32, 33, 34] (by decide +kernel) (by decide +kernel)
set_option maxRecDepth 20000 in
theorem gX7_freeze_X7_isLine : GoodIn wsX7_freeze (wsV RX7 96 RX7 yX7_isLine wsX7_isLine) := goodIn_app (goodIn_of _ (by decide +kernel)) ggX7_freeze_X7_isLine
set_option maxRecDepth 20000 in
theorem ggX7_freeze_X7_in : GoodIn wsX7_freeze wsX7_in := goodIn_r _ [9] (by decide +kernel) (by decide +kernel)
set_option maxRecDepth 20000 in
theorem gX7_freeze_X7_in : GoodIn wsX7_freeze (va_wsS RX7 50 yX7_in wsX7_in) := goodIn_app (goodIn_of _ (by decide +kernel)) ggX7_freeze_X7_in
set_option maxRecDepth 20000 in
theorem ggX7_freeze_X7_records : GoodIn wsX7_freeze wsX7_records := goodIn_r _ [13, 14, 15, 1, 16, 17, 18, 19, 20, 21, 22, 23, 24, 25, 26, 27, 28, 29, 30, 31, 32, 33, 34] (by decide +kernel) (by decide +kernel)
set_option maxRecDepth 20000 in
theorem gX7_freeze_X7_records : GoodIn wsX7_freeze (wsV RX7 90 RX7 yX7_records wsX7_records) := goodIn_app (goodIn_of _ (by decide +kernel)) ggX7_freeze_X7_records
theorem dX7_freeze_0 : decode cX7_freeze 0 = .ok (.aload_n 0, 1) := by decide +kernel
theorem dX7_freeze_1 : decode cX7_freeze 1 = .ok (.iload_n 1, 1) := by decide +kernel
theorem dX7_freeze_2 : decode cX7_freeze 2 = .ok (.invokevirtual 96, 3) := by decide +kernel
theorem dX7_freeze_5 : decode cX7_freeze 5 = .ok (.ifCond .eq 12, 3) := by decide +kernel
theorem dX7_freeze_8 : decode cX7_freeze 8 = .ok (.iload_n 2, 1) := by decide +kernel
theorem dX7_freeze_9 : decode cX7_freeze 9 = .ok (.iconst 0, 1) := by decide +kernel
theorem dX7_freeze_10 : decode cX7_freeze 10 = .ok (.iconst 1, 1) := by decide +kernel
theorem dX7_freeze_11 : decode cX7_freeze 11 = .ok (.invokestatic 50, 3) := by decide +kernel
theorem dX7_freeze_14 : decode cX7_freeze 14 = .ok (.ifCond .ne 5, 3) := by decide +kernel
theorem dX7_freeze_17 : decode cX7_freeze 17 = .ok (.iconst (-1), 1) := by decide +kernel
theorem dX7_freeze_18 : decode cX7_freeze 18 = .ok (.ireturn, 1) := by decide +kernel
theorem dX7_freeze_19 : decode cX7_freeze 19 = .ok (.aload_n 0, 1) := by decide +kernel
theorem dX7_freeze_20 : decode cX7_freeze 20 = .ok (.invokevirtual 90, 3) := by decide +kernel
theorem dX7_freeze_23 : decode cX7_freeze 23 = .ok (.aload_n 0, 1) := by decide +kernel
theorem dX7_freeze_24 : decode cX7_freeze 24 = .ok (.getfield 7, 3) := by decide +kernel
theorem dX7_freeze_27 : decode cX7_freeze 27 = .ok (.bipush 53, 2) := by decide +kernel
theorem dX7_freeze_29 : decode cX7_freeze 29 = .ok (.iload_n 1, 1) := by decide +kernel
theorem dX7_freeze_30 : decode cX7_freeze 30 = .ok (.iadd, 1) := by decide +kernel
theorem dX7_freeze_31 : decode cX7_freeze 31 = .ok (.iaload, 1) := by decide +kernel
theorem dX7_freeze_32 : decode cX7_freeze 32 = .ok (.istore_n 3, 1) := by decide +kernel
theorem dX7_freeze_33 : decode cX7_freeze 33 = .ok (.aload_n 0, 1) := by decide +kernel
theorem dX7_freeze_34 : decode cX7_freeze 34 = .ok (.getfield 7, 3) := by decide +kernel
theorem dX7_freeze_37 : decode cX7_freeze 37 = .ok (.bipush 53, 2) := by decide +kernel
theorem dX7_freeze_39 : decode cX7_freeze 39 = .ok (.iload_n 1, 1) := by decide +kernel
theorem dX7_freeze_40 : decode cX7_freeze 40 = .ok (.iadd, 1) := by decide +kernel
theorem dX7_freeze_41 : decode cX7_freeze 41 = .ok (.iload_n 2, 1) := by decide +kernel
theorem dX7_freeze_42 : decode cX7_freeze 42 = .ok (.iastore, 1) := by decide +kernel
theorem dX7_freeze_43 : decode cX7_freeze 43 = .ok (.iload_n 3, 1) := by decide +kernel
theorem dX7_freeze_44 : decode cX7_freeze 44 = .ok (.ireturn, 1) := by decide +kernel
set_option maxRecDepth 20000 in
theorem ggX7_reflow_X7_frozen : GoodIn wsX7_reflow wsX7_frozen := goodIn_r _ [6, 1, 29, 30, 31, 32, 33, 34, 35, 36, 37, 38, 39, 40, 41, 42, 43, 44, 45, 46, 47] (by decide +kernel) (by decide +kernel)
set_option maxRecDepth 20000 in
theorem gX7_reflow_X7_frozen : GoodIn wsX7_reflow (wsV RX7 86 RX7 yX7_frozen wsX7_frozen) := goodIn_app (goodIn_of _ (by decide +kernel)) ggX7_reflow_X7_frozen
set_option maxRecDepth 20000 in
theorem ggX7_reflow_X7_records : GoodIn wsX7_reflow wsX7_records := goodIn_r _ [10, 11, 12, 1, 29, 30, 31, 32, 33, 34, 35, 36, 37, 38, 39, 40, 41, 42, 43, 44, 45, 46, 47] (by decide +kernel) (by decide +kernel)
set_option maxRecDepth 20000 in
theorem gX7_reflow_X7_records : GoodIn wsX7_reflow (wsV RX7 90 RX7 yX7_records wsX7_records) := goodIn_app (goodIn_of _ (by decide +kernel)) ggX7_reflow_X7_records
set_option maxRecDepth 20000 in
theorem ggX7_reflow_X7_fills : GoodIn wsX7_reflow wsX7_fills := goodIn_r _ [16, 1, 17, 18, 19, 5, 20, 21, 22, 23, 24, 25, 26, 27, 28, 29, 30, 31, 32, 33, 34, 35, 36, 37, 38, 39, 40, 41, 42, 43, 44, 45, 46, 47] (by decide +kernel) (by decide +kernel)
set_option maxRecDepth 20000 in
theorem gX7_reflow_X7_fills : GoodIn wsX7_reflow (wsV RX7 93 RX7 yX7_fills wsX7_fills) := goodIn_app (goodIn_of _ (by decide +kernel)) ggX7_reflow_X7_fills
theorem dX7_reflow_0 : decode cX7_reflow 0 = .ok (.aload_n 0, 1) := by decide +kernel
theorem dX7_reflow_1 : decode cX7_reflow 1 = .ok (.invokevirtual 86, 3) := by decide +kernel
theorem dX7_reflow_4 : decode cX7_reflow 4 = .ok (.ifCond .le 6, 3) := by decide +kernel
theorem dX7_reflow_7 : decode cX7_reflow 7 = .ok (.bipush (-2), 2) := by decide +kernel
theorem dX7_reflow_9 : decode cX7_reflow 9 = .ok (.ireturn, 1) := by decide +kernel
theorem dX7_reflow_10 : decode cX7_reflow 10 = .ok (.aload_n 0, 1) := by decide +kernel
theorem dX7_reflow_11 : decode cX7_reflow 11 = .ok (.invokevirtual 90, 3) := by decide +kernel
theorem dX7_reflow_14 : decode cX7_reflow 14 = .ok (.aload_n 0, 1) := by decide +kernel
theorem dX7_reflow_15 : decode cX7_reflow 15 = .ok (.invokevirtual 93, 3) := by decide +kernel
theorem dX7_reflow_18 : decode cX7_reflow 18 = .ok (.aload_n 0, 1) := by decide +kernel
theorem dX7_reflow_19 : decode cX7_reflow 19 = .ok (.getfield 7, 3) := by decide +kernel
theorem dX7_reflow_22 : decode cX7_reflow 22 = .ok (.iconst 3, 1) := by decide +kernel
theorem dX7_reflow_23 : decode cX7_reflow 23 = .ok (.iaload, 1) := by decide +kernel
theorem dX7_reflow_24 : decode cX7_reflow 24 = .ok (.ireturn, 1) := by decide +kernel
set_option maxRecDepth 20000 in
theorem ggX7_extraOf_X7_first : GoodIn wsX7_extraOf wsX7_first := goodIn_r _ [6, 1, 15, 16, 17, 18, 19, 20, 21, 22, 23, 24, 25, 26, 27, 28, 29, 30, 31, 32, 33] (by decide +kernel) (by decide +kernel)
set_option maxRecDepth 20000 in
theorem gX7_extraOf_X7_first : GoodIn wsX7_extraOf (wsV RX7 73 RX7 yX7_first wsX7_first) := goodIn_app (goodIn_of _ (by decide +kernel)) ggX7_extraOf_X7_first
set_option maxRecDepth 20000 in
theorem ggX7_extraOf_X7_behind : GoodIn wsX7_extraOf wsX7_behind := goodIn_r _ [10, 1, 15, 16, 17, 18, 19, 20, 21, 22, 23, 24, 25, 26, 27, 28, 29, 30, 31, 32, 33] (by decide +kernel) (by decide +kernel)
set_option maxRecDepth 20000 in
theorem gX7_extraOf_X7_behind : GoodIn wsX7_extraOf (wsV RX7 76 RX7 yX7_behind wsX7_behind) := goodIn_app (goodIn_of _ (by decide +kernel)) ggX7_extraOf_X7_behind
set_option maxRecDepth 20000 in
theorem ggX7_extraOf_X7_needs : GoodIn wsX7_extraOf wsX7_needs := goodIn_r _ [14, 1, 15, 16, 17, 18, 19, 20, 21, 22, 23, 24, 25, 26, 27, 28, 29, 30, 31, 32, 33] (by decide +kernel) (by decide +kernel)
set_option maxRecDepth 20000 in
theorem gX7_extraOf_X7_needs : GoodIn wsX7_extraOf (wsV RX7 58 RX7 yX7_needs wsX7_needs) := goodIn_app (goodIn_of _ (by decide +kernel)) ggX7_extraOf_X7_needs
theorem dX7_extraOf_0 : decode cX7_extraOf 0 = .ok (.aload_n 0, 1) := by decide +kernel
theorem dX7_extraOf_1 : decode cX7_extraOf 1 = .ok (.getfield 7, 3) := by decide +kernel
theorem dX7_extraOf_4 : decode cX7_extraOf 4 = .ok (.iconst 1, 1) := by decide +kernel
theorem dX7_extraOf_5 : decode cX7_extraOf 5 = .ok (.iaload, 1) := by decide +kernel
theorem dX7_extraOf_6 : decode cX7_extraOf 6 = .ok (.aload_n 0, 1) := by decide +kernel
theorem dX7_extraOf_7 : decode cX7_extraOf 7 = .ok (.aload_n 0, 1) := by decide +kernel
theorem dX7_extraOf_8 : decode cX7_extraOf 8 = .ok (.iload_n 1, 1) := by decide +kernel
theorem dX7_extraOf_9 : decode cX7_extraOf 9 = .ok (.invokevirtual 73, 3) := by decide +kernel
theorem dX7_extraOf_12 : decode cX7_extraOf 12 = .ok (.aload_n 0, 1) := by decide +kernel
theorem dX7_extraOf_13 : decode cX7_extraOf 13 = .ok (.iload_n 1, 1) := by decide +kernel
theorem dX7_extraOf_14 : decode cX7_extraOf 14 = .ok (.invokevirtual 76, 3) := by decide +kernel
theorem dX7_extraOf_17 : decode cX7_extraOf 17 = .ok (.invokevirtual 58, 3) := by decide +kernel
theorem dX7_extraOf_20 : decode cX7_extraOf 20 = .ok (.isub, 1) := by decide +kernel
theorem dX7_extraOf_21 : decode cX7_extraOf 21 = .ok (.ireturn, 1) := by decide +kernel
set_option maxRecDepth 20000 in
theorem ggX7_badOf_X7_extraOf : GoodIn wsX7_badOf wsX7_extraOf := goodIn_r _ [6, 1, 7, 8, 9, 5, 10, 11, 12, 13, 14, 15, 16, 17, 18, 19, 20, 21, 22, 23, 24, 25, 26, 27, 28, 29, 30, 31, 32, 33, 34, 35, 36, 37] (by decide +kernel) (by decide +kernel)
set_option maxRecDepth 20000 in
theorem gX7_badOf_X7_extraOf : GoodIn wsX7_badOf (wsV RX7 100 RX7 yX7_extraOf wsX7_extraOf) := goodIn_app (goodIn_of _ (by decide +kernel)) ggX7_badOf_X7_extraOf
theorem dX7_badOf_0 : decode cX7_badOf 0 = .ok (.iload_n 1, 1) := by decide +kernel
theorem dX7_badOf_1 : decode cX7_badOf 1 = .ok (.iconst 1, 1) := by decide +kernel
theorem dX7_badOf_2 : decode cX7_badOf 2 = .ok (.iadd, 1) := by decide +kernel
theorem dX7_badOf_3 : decode cX7_badOf 3 = .ok (.aload_n 0, 1) := by decide +kernel
theorem dX7_badOf_4 : decode cX7_badOf 4 = .ok (.getfield 7, 3) := by decide +kernel
theorem dX7_badOf_7 : decode cX7_badOf 7 = .ok (.iconst 3, 1) := by decide +kernel
theorem dX7_badOf_8 : decode cX7_badOf 8 = .ok (.iaload, 1) := by decide +kernel
theorem dX7_badOf_9 : decode cX7_badOf 9 = .ok (.if_icmp .ne 7, 3) := by decide +kernel
theorem dX7_badOf_12 : decode cX7_badOf 12 = .ok (.iconst 0, 1) := by decide +kernel
theorem dX7_badOf_13 : decode cX7_badOf 13 = .ok (.goto 14, 3) := by decide +kernel
theorem dX7_badOf_16 : decode cX7_badOf 16 = .ok (.aload_n 0, 1) := by decide +kernel
theorem dX7_badOf_17 : decode cX7_badOf 17 = .ok (.iload_n 1, 1) := by decide +kernel
theorem dX7_badOf_18 : decode cX7_badOf 18 = .ok (.invokevirtual 100, 3) := by decide +kernel
theorem dX7_badOf_21 : decode cX7_badOf 21 = .ok (.aload_n 0, 1) := by decide +kernel
theorem dX7_badOf_22 : decode cX7_badOf 22 = .ok (.iload_n 1, 1) := by decide +kernel
theorem dX7_badOf_23 : decode cX7_badOf 23 = .ok (.invokevirtual 100, 3) := by decide +kernel
theorem dX7_badOf_26 : decode cX7_badOf 26 = .ok (.imul, 1) := by decide +kernel
theorem dX7_badOf_27 : decode cX7_badOf 27 = .ok (.ireturn, 1) := by decide +kernel
set_option maxRecDepth 20000 in
theorem ggX7_badness_X7_badOf : GoodIn wsX7_badness wsX7_badOf := goodIn_r _ [6, 1, 7, 8, 9, 5, 10, 11, 12, 13, 14, 15, 16, 17, 18, 19, 20, 21, 22, 23, 24, 25, 26, 27, 28, 29, 30, 31, 32, 33, 34, 35, 36, 37, 38, 39, 40, 41] (by decide +kernel) (by decide +kernel)
set_option maxRecDepth 20000 in
theorem gX7_badness_X7_badOf : GoodIn wsX7_badness (wsV RX7 103 RX7 yX7_badOf wsX7_badOf) := goodIn_app (goodIn_of _ (by decide +kernel)) ggX7_badness_X7_badOf
theorem dX7_badness_0 : decode cX7_badness 0 = .ok (.iconst 0, 1) := by decide +kernel
theorem dX7_badness_1 : decode cX7_badness 1 = .ok (.istore_n 1, 1) := by decide +kernel
theorem dX7_badness_2 : decode cX7_badness 2 = .ok (.iconst 0, 1) := by decide +kernel
theorem dX7_badness_3 : decode cX7_badness 3 = .ok (.istore_n 2, 1) := by decide +kernel
theorem dX7_badness_4 : decode cX7_badness 4 = .ok (.iload_n 2, 1) := by decide +kernel
theorem dX7_badness_5 : decode cX7_badness 5 = .ok (.aload_n 0, 1) := by decide +kernel
theorem dX7_badness_6 : decode cX7_badness 6 = .ok (.getfield 7, 3) := by decide +kernel
theorem dX7_badness_9 : decode cX7_badness 9 = .ok (.iconst 3, 1) := by decide +kernel
theorem dX7_badness_10 : decode cX7_badness 10 = .ok (.iaload, 1) := by decide +kernel
theorem dX7_badness_11 : decode cX7_badness 11 = .ok (.if_icmp .ge 17, 3) := by decide +kernel
theorem dX7_badness_14 : decode cX7_badness 14 = .ok (.iload_n 1, 1) := by decide +kernel
theorem dX7_badness_15 : decode cX7_badness 15 = .ok (.aload_n 0, 1) := by decide +kernel
theorem dX7_badness_16 : decode cX7_badness 16 = .ok (.iload_n 2, 1) := by decide +kernel
theorem dX7_badness_17 : decode cX7_badness 17 = .ok (.invokevirtual 103, 3) := by decide +kernel
theorem dX7_badness_20 : decode cX7_badness 20 = .ok (.iadd, 1) := by decide +kernel
theorem dX7_badness_21 : decode cX7_badness 21 = .ok (.istore_n 1, 1) := by decide +kernel
theorem dX7_badness_22 : decode cX7_badness 22 = .ok (.iinc 2 1, 3) := by decide +kernel
theorem dX7_badness_25 : decode cX7_badness 25 = .ok (.goto (-21), 3) := by decide +kernel
theorem dX7_badness_28 : decode cX7_badness 28 = .ok (.iload_n 1, 1) := by decide +kernel
theorem dX7_badness_29 : decode cX7_badness 29 = .ok (.ireturn, 1) := by decide +kernel
set_option maxRecDepth 20000 in
theorem ggX7_gapsWith_X7_laysAll : GoodIn wsX7_gapsWith wsX7_laysAll := goodIn_r _ [7, 1, 8, 9, 10, 6, 11, 12, 13, 14, 15, 16, 17, 18, 19, 20, 21, 22, 2, 23, 24, 25, 26, 27, 28, 29, 30, 39, 40, 41, 42, 43, 44, 45, 46, 47, 48, 49, 50, 51, 52, 53, 54, 55, 56, 57] (by decide +kernel) (by decide +kernel)
set_option maxRecDepth 20000 in
theorem gX7_gapsWith_X7_laysAll : GoodIn wsX7_gapsWith (wsV RX7 106 RX7 yX7_laysAll wsX7_laysAll) := goodIn_app (goodIn_of _ (by decide +kernel)) ggX7_gapsWith_X7_laysAll
set_option maxRecDepth 20000 in
theorem ggX7_gapsWith_X7_first : GoodIn wsX7_gapsWith wsX7_first := goodIn_r _ [11, 1, 39, 40, 41, 42, 43, 44, 45, 46, 47, 48, 49, 50, 51, 52, 53, 54, 55, 56, 57] (by decide +kernel) (by decide +kernel)
set_option maxRecDepth 20000 in
theorem gX7_gapsWith_X7_first : GoodIn wsX7_gapsWith (wsV RX7 73 RX7 yX7_first wsX7_first) := goodIn_app (goodIn_of _ (by decide +kernel)) ggX7_gapsWith_X7_first
set_option maxRecDepth 20000 in
theorem ggX7_gapsWith_X7_behind : GoodIn wsX7_gapsWith wsX7_behind := goodIn_r _ [15, 1, 39, 40, 41, 42, 43, 44, 45, 46, 47, 48, 49, 50, 51, 52, 53, 54, 55, 56, 57] (by decide +kernel) (by decide +kernel)
set_option maxRecDepth 20000 in
theorem gX7_gapsWith_X7_behind : GoodIn wsX7_gapsWith (wsV RX7 76 RX7 yX7_behind wsX7_behind) := goodIn_app (goodIn_of _ (by decide +kernel)) ggX7_gapsWith_X7_behind
set_option maxRecDepth 20000 in
theorem ggX7_gapsWith_X7_above : GoodIn wsX7_gapsWith wsX7_above := goodIn_r _ [34, 35, 36, 37, 6, 38, 8, 9, 10, 11, 1, 12, 13, 14, 15, 27, 28, 29, 30, 21, 22, 39, 40, 41, 42, 43, 44, 45, 46, 47, 48, 49, 50, 51, 52, 53, 54, 55, 56, 57] (by decide +kernel) (by decide +kernel)
set_option maxRecDepth 20000 in
theorem gX7_gapsWith_X7_above : GoodIn wsX7_gapsWith (wsV RX7 109 RX7 yX7_above wsX7_above) := goodIn_app (goodIn_of _ (by decide +kernel)) ggX7_gapsWith_X7_above
theorem dX7_gapsWith_0 : decode cX7_gapsWith 0 = .ok (.aload_n 0, 1) := by decide +kernel
theorem dX7_gapsWith_1 : decode cX7_gapsWith 1 = .ok (.invokevirtual 106, 3) := by decide +kernel
theorem dX7_gapsWith_4 : decode cX7_gapsWith 4 = .ok (.pop, 1) := by decide +kernel
theorem dX7_gapsWith_5 : decode cX7_gapsWith 5 = .ok (.iconst 0, 1) := by decide +kernel
theorem dX7_gapsWith_6 : decode cX7_gapsWith 6 = .ok (.istore_n 2, 1) := by decide +kernel
theorem dX7_gapsWith_7 : decode cX7_gapsWith 7 = .ok (.iconst 0, 1) := by decide +kernel
theorem dX7_gapsWith_8 : decode cX7_gapsWith 8 = .ok (.istore_n 3, 1) := by decide +kernel
theorem dX7_gapsWith_9 : decode cX7_gapsWith 9 = .ok (.iload_n 3, 1) := by decide +kernel
theorem dX7_gapsWith_10 : decode cX7_gapsWith 10 = .ok (.aload_n 0, 1) := by decide +kernel
theorem dX7_gapsWith_11 : decode cX7_gapsWith 11 = .ok (.getfield 7, 3) := by decide +kernel
theorem dX7_gapsWith_14 : decode cX7_gapsWith 14 = .ok (.iconst 3, 1) := by decide +kernel
theorem dX7_gapsWith_15 : decode cX7_gapsWith 15 = .ok (.iaload, 1) := by decide +kernel
theorem dX7_gapsWith_16 : decode cX7_gapsWith 16 = .ok (.if_icmp .ge 76, 3) := by decide +kernel
theorem dX7_gapsWith_19 : decode cX7_gapsWith 19 = .ok (.aload_n 0, 1) := by decide +kernel
theorem dX7_gapsWith_20 : decode cX7_gapsWith 20 = .ok (.iload_n 3, 1) := by decide +kernel
theorem dX7_gapsWith_21 : decode cX7_gapsWith 21 = .ok (.invokevirtual 73, 3) := by decide +kernel
theorem dX7_gapsWith_24 : decode cX7_gapsWith 24 = .ok (.istore 4, 2) := by decide +kernel
theorem dX7_gapsWith_26 : decode cX7_gapsWith 26 = .ok (.iload 4, 2) := by decide +kernel
theorem dX7_gapsWith_28 : decode cX7_gapsWith 28 = .ok (.iconst 1, 1) := by decide +kernel
theorem dX7_gapsWith_29 : decode cX7_gapsWith 29 = .ok (.iadd, 1) := by decide +kernel
theorem dX7_gapsWith_30 : decode cX7_gapsWith 30 = .ok (.aload_n 0, 1) := by decide +kernel
theorem dX7_gapsWith_31 : decode cX7_gapsWith 31 = .ok (.iload_n 3, 1) := by decide +kernel
theorem dX7_gapsWith_32 : decode cX7_gapsWith 32 = .ok (.invokevirtual 76, 3) := by decide +kernel
theorem dX7_gapsWith_35 : decode cX7_gapsWith 35 = .ok (.if_icmp .ge 51, 3) := by decide +kernel
theorem dX7_gapsWith_38 : decode cX7_gapsWith 38 = .ok (.iload_n 2, 1) := by decide +kernel
theorem dX7_gapsWith_39 : decode cX7_gapsWith 39 = .ok (.iload_n 1, 1) := by decide +kernel
theorem dX7_gapsWith_40 : decode cX7_gapsWith 40 = .ok (.ifCond .ne 22, 3) := by decide +kernel
theorem dX7_gapsWith_43 : decode cX7_gapsWith 43 = .ok (.aload_n 0, 1) := by decide +kernel
theorem dX7_gapsWith_44 : decode cX7_gapsWith 44 = .ok (.iload 4, 2) := by decide +kernel
theorem dX7_gapsWith_46 : decode cX7_gapsWith 46 = .ok (.iload_n 3, 1) := by decide +kernel
theorem dX7_gapsWith_47 : decode cX7_gapsWith 47 = .ok (.invokevirtual 109, 3) := by decide +kernel
theorem dX7_gapsWith_50 : decode cX7_gapsWith 50 = .ok (.iconst 1, 1) := by decide +kernel
theorem dX7_gapsWith_51 : decode cX7_gapsWith 51 = .ok (.if_icmp .le 7, 3) := by decide +kernel
theorem dX7_gapsWith_54 : decode cX7_gapsWith 54 = .ok (.iconst 1, 1) := by decide +kernel
theorem dX7_gapsWith_55 : decode cX7_gapsWith 55 = .ok (.goto 23, 3) := by decide +kernel
theorem dX7_gapsWith_58 : decode cX7_gapsWith 58 = .ok (.iconst 0, 1) := by decide +kernel
theorem dX7_gapsWith_59 : decode cX7_gapsWith 59 = .ok (.goto 19, 3) := by decide +kernel
theorem dX7_gapsWith_62 : decode cX7_gapsWith 62 = .ok (.aload_n 0, 1) := by decide +kernel
theorem dX7_gapsWith_63 : decode cX7_gapsWith 63 = .ok (.getfield 29, 3) := by decide +kernel
theorem dX7_gapsWith_66 : decode cX7_gapsWith 66 = .ok (.iload 4, 2) := by decide +kernel
theorem dX7_gapsWith_68 : decode cX7_gapsWith 68 = .ok (.iaload, 1) := by decide +kernel
theorem dX7_gapsWith_69 : decode cX7_gapsWith 69 = .ok (.iload_n 1, 1) := by decide +kernel
theorem dX7_gapsWith_70 : decode cX7_gapsWith 70 = .ok (.if_icmp .ne 7, 3) := by decide +kernel
theorem dX7_gapsWith_73 : decode cX7_gapsWith 73 = .ok (.iconst 1, 1) := by decide +kernel
theorem dX7_gapsWith_74 : decode cX7_gapsWith 74 = .ok (.goto 4, 3) := by decide +kernel
theorem dX7_gapsWith_77 : decode cX7_gapsWith 77 = .ok (.iconst 0, 1) := by decide +kernel
theorem dX7_gapsWith_78 : decode cX7_gapsWith 78 = .ok (.iadd, 1) := by decide +kernel
theorem dX7_gapsWith_79 : decode cX7_gapsWith 79 = .ok (.istore_n 2, 1) := by decide +kernel
theorem dX7_gapsWith_80 : decode cX7_gapsWith 80 = .ok (.iinc 4 1, 3) := by decide +kernel
theorem dX7_gapsWith_83 : decode cX7_gapsWith 83 = .ok (.goto (-57), 3) := by decide +kernel
theorem dX7_gapsWith_86 : decode cX7_gapsWith 86 = .ok (.iinc 3 1, 3) := by decide +kernel
theorem dX7_gapsWith_89 : decode cX7_gapsWith 89 = .ok (.goto (-80), 3) := by decide +kernel
theorem dX7_gapsWith_92 : decode cX7_gapsWith 92 = .ok (.iload_n 2, 1) := by decide +kernel
theorem dX7_gapsWith_93 : decode cX7_gapsWith 93 = .ok (.ireturn, 1) := by decide +kernel
set_option maxRecDepth 20000 in
theorem ggX7_count_X7_badness : GoodIn wsX7_count wsX7_badness := goodIn_r _ [8, 1, 9, 10, 11, 7, 12, 13, 14, 15, 16, 17, 18, 19, 20, 21, 22, 23, 24, 25, 26, 27, 28, 61, 62, 63, 64, 65, 66, 67, 68, 69, 70, 71, 72, 73, 74, 75, 76, 77, 78, 79] (by decide +kernel) (by decide +kernel)
set_option maxRecDepth 20000 in
theorem gX7_count_X7_badness : GoodIn wsX7_count (wsV RX7 112 RX7 yX7_badness wsX7_badness) := goodIn_app (goodIn_of _ (by decide +kernel)) ggX7_count_X7_badness
set_option maxRecDepth 20000 in
theorem ggX7_count_X7_laysAll : GoodIn wsX7_count wsX7_laysAll := goodIn_r _ [32, 1, 17, 18, 19, 7, 20, 21, 22, 23, 24, 33, 34, 35, 36, 37, 38, 39, 40, 25, 26, 27, 28, 41, 42, 43, 44, 61, 62, 63, 64, 65, 66, 67, 68, 69, 70, 71, 72, 73, 74, 75, 76, 77, 78, 79] (by decide +kernel) (by decide +kernel)
set_option maxRecDepth 20000 in
theorem gX7_count_X7_laysAll : GoodIn wsX7_count (wsV RX7 106 RX7 yX7_laysAll wsX7_laysAll) := goodIn_app (goodIn_of _ (by decide +kernel)) ggX7_count_X7_laysAll
set_option maxRecDepth 20000 in
theorem ggX7_count_X7_gapsWith : GoodIn wsX7_count wsX7_gapsWith := goodIn_r _ [48, 1, 40, 29, 30, 31, 7, 32, 17, 18, 19, 20, 21, 22, 23, 24, 33, 34, 35, 36, 37, 38, 39, 25, 26, 27, 28, 41, 42, 43, 44, 49, 50, 51, 52, 53, 54, 55, 56, 61, 62, 63, 64, 65, 66, 67, 68, 69, 70, 71, 72, 73, 74, 75, 76, 77, 78, 79] (by decide +kernel) (by decide +kernel)
set_option maxRecDepth 20000 in
theorem gX7_count_X7_gapsWith : GoodIn wsX7_count (wsV RX7 115 RX7 yX7_gapsWith wsX7_gapsWith) := goodIn_app (goodIn_of _ (by decide +kernel)) ggX7_count_X7_gapsWith
set_option maxRecDepth 20000 in
theorem ggX7_count_X7_frozen : GoodIn wsX7_count wsX7_frozen := goodIn_r _ [60, 1, 61, 62, 63, 64, 65, 66, 67, 68, 69, 70, 71, 72, 73, 74, 75, 76, 77, 78, 79] (by decide +kernel) (by decide +kernel)
set_option maxRecDepth 20000 in
theorem gX7_count_X7_frozen : GoodIn wsX7_count (wsV RX7 86 RX7 yX7_frozen wsX7_frozen) := goodIn_app (goodIn_of _ (by decide +kernel)) ggX7_count_X7_frozen
theorem dX7_count_0 : decode cX7_count 0 = .ok (.iload_n 1, 1) := by decide +kernel
theorem dX7_count_1 : decode cX7_count 1 = .ok (.tableswitch 156 0 11 #[63, 70, 77, 84, 91, 96, 101, 115, 121, 126, 131, 136], 63) := by decide +kernel
theorem dX7_count_64 : decode cX7_count 64 = .ok (.aload_n 0, 1) := by decide +kernel
theorem dX7_count_65 : decode cX7_count 65 = .ok (.getfield 7, 3) := by decide +kernel
theorem dX7_count_68 : decode cX7_count 68 = .ok (.iconst 0, 1) := by decide +kernel
theorem dX7_count_69 : decode cX7_count 69 = .ok (.iaload, 1) := by decide +kernel
theorem dX7_count_70 : decode cX7_count 70 = .ok (.ireturn, 1) := by decide +kernel
theorem dX7_count_71 : decode cX7_count 71 = .ok (.aload_n 0, 1) := by decide +kernel
theorem dX7_count_72 : decode cX7_count 72 = .ok (.getfield 7, 3) := by decide +kernel
theorem dX7_count_75 : decode cX7_count 75 = .ok (.iconst 3, 1) := by decide +kernel
theorem dX7_count_76 : decode cX7_count 76 = .ok (.iaload, 1) := by decide +kernel
theorem dX7_count_77 : decode cX7_count 77 = .ok (.ireturn, 1) := by decide +kernel
theorem dX7_count_78 : decode cX7_count 78 = .ok (.aload_n 0, 1) := by decide +kernel
theorem dX7_count_79 : decode cX7_count 79 = .ok (.getfield 7, 3) := by decide +kernel
theorem dX7_count_82 : decode cX7_count 82 = .ok (.iconst 1, 1) := by decide +kernel
theorem dX7_count_83 : decode cX7_count 83 = .ok (.iaload, 1) := by decide +kernel
theorem dX7_count_84 : decode cX7_count 84 = .ok (.ireturn, 1) := by decide +kernel
theorem dX7_count_85 : decode cX7_count 85 = .ok (.aload_n 0, 1) := by decide +kernel
theorem dX7_count_86 : decode cX7_count 86 = .ok (.getfield 7, 3) := by decide +kernel
theorem dX7_count_89 : decode cX7_count 89 = .ok (.iconst 2, 1) := by decide +kernel
theorem dX7_count_90 : decode cX7_count 90 = .ok (.iaload, 1) := by decide +kernel
theorem dX7_count_91 : decode cX7_count 91 = .ok (.ireturn, 1) := by decide +kernel
theorem dX7_count_92 : decode cX7_count 92 = .ok (.aload_n 0, 1) := by decide +kernel
theorem dX7_count_93 : decode cX7_count 93 = .ok (.invokevirtual 112, 3) := by decide +kernel
theorem dX7_count_96 : decode cX7_count 96 = .ok (.ireturn, 1) := by decide +kernel
theorem dX7_count_97 : decode cX7_count 97 = .ok (.aload_n 0, 1) := by decide +kernel
theorem dX7_count_98 : decode cX7_count 98 = .ok (.invokevirtual 106, 3) := by decide +kernel
theorem dX7_count_101 : decode cX7_count 101 = .ok (.ireturn, 1) := by decide +kernel
theorem dX7_count_102 : decode cX7_count 102 = .ok (.aload_n 0, 1) := by decide +kernel
theorem dX7_count_103 : decode cX7_count 103 = .ok (.getfield 7, 3) := by decide +kernel
theorem dX7_count_106 : decode cX7_count 106 = .ok (.iconst 0, 1) := by decide +kernel
theorem dX7_count_107 : decode cX7_count 107 = .ok (.iaload, 1) := by decide +kernel
theorem dX7_count_108 : decode cX7_count 108 = .ok (.aload_n 0, 1) := by decide +kernel
theorem dX7_count_109 : decode cX7_count 109 = .ok (.getfield 7, 3) := by decide +kernel
theorem dX7_count_112 : decode cX7_count 112 = .ok (.iconst 3, 1) := by decide +kernel
theorem dX7_count_113 : decode cX7_count 113 = .ok (.iaload, 1) := by decide +kernel
theorem dX7_count_114 : decode cX7_count 114 = .ok (.isub, 1) := by decide +kernel
theorem dX7_count_115 : decode cX7_count 115 = .ok (.ireturn, 1) := by decide +kernel
theorem dX7_count_116 : decode cX7_count 116 = .ok (.aload_n 0, 1) := by decide +kernel
theorem dX7_count_117 : decode cX7_count 117 = .ok (.iconst 0, 1) := by decide +kernel
theorem dX7_count_118 : decode cX7_count 118 = .ok (.invokevirtual 115, 3) := by decide +kernel
theorem dX7_count_121 : decode cX7_count 121 = .ok (.ireturn, 1) := by decide +kernel
theorem dX7_count_122 : decode cX7_count 122 = .ok (.aload_n 0, 1) := by decide +kernel
theorem dX7_count_123 : decode cX7_count 123 = .ok (.invokevirtual 86, 3) := by decide +kernel
theorem dX7_count_126 : decode cX7_count 126 = .ok (.ireturn, 1) := by decide +kernel
theorem dX7_count_127 : decode cX7_count 127 = .ok (.aload_n 0, 1) := by decide +kernel
theorem dX7_count_128 : decode cX7_count 128 = .ok (.getfield 54, 3) := by decide +kernel
theorem dX7_count_131 : decode cX7_count 131 = .ok (.ireturn, 1) := by decide +kernel
theorem dX7_count_132 : decode cX7_count 132 = .ok (.aload_n 0, 1) := by decide +kernel
theorem dX7_count_133 : decode cX7_count 133 = .ok (.getfield 118, 3) := by decide +kernel
theorem dX7_count_136 : decode cX7_count 136 = .ok (.ireturn, 1) := by decide +kernel
theorem dX7_count_137 : decode cX7_count 137 = .ok (.aload_n 0, 1) := by decide +kernel
theorem dX7_count_138 : decode cX7_count 138 = .ok (.invokevirtual 106, 3) := by decide +kernel
theorem dX7_count_141 : decode cX7_count 141 = .ok (.ifCond .ne 7, 3) := by decide +kernel
theorem dX7_count_144 : decode cX7_count 144 = .ok (.iconst 0, 1) := by decide +kernel
theorem dX7_count_145 : decode cX7_count 145 = .ok (.goto 11, 3) := by decide +kernel
theorem dX7_count_148 : decode cX7_count 148 = .ok (.aload_n 0, 1) := by decide +kernel
theorem dX7_count_149 : decode cX7_count 149 = .ok (.aload_n 0, 1) := by decide +kernel
theorem dX7_count_150 : decode cX7_count 150 = .ok (.invokevirtual 106, 3) := by decide +kernel
theorem dX7_count_153 : decode cX7_count 153 = .ok (.invokevirtual 115, 3) := by decide +kernel
theorem dX7_count_156 : decode cX7_count 156 = .ok (.ireturn, 1) := by decide +kernel
theorem dX7_count_157 : decode cX7_count 157 = .ok (.iconst (-1), 1) := by decide +kernel
theorem dX7_count_158 : decode cX7_count 158 = .ok (.ireturn, 1) := by decide +kernel
set_option maxRecDepth 20000 in
theorem ggX7_word_X7_in : GoodIn wsX7_word wsX7_in := goodIn_r _ [6] (by decide +kernel) (by decide +kernel)
set_option maxRecDepth 20000 in
theorem gX7_word_X7_in : GoodIn wsX7_word (va_wsS RX7 50 yX7_in wsX7_in) := goodIn_app (goodIn_of _ (by decide +kernel)) ggX7_word_X7_in
set_option maxRecDepth 20000 in
theorem ggX7_word_X7_laysAll : GoodIn wsX7_word wsX7_laysAll := goodIn_r _ [10, 1, 11, 12, 13, 5, 14, 15, 16, 17, 18, 19, 20, 21, 22, 2, 23, 24, 25, 26, 27, 28, 29, 30, 31, 32, 33, 38, 39, 40, 41, 42, 43, 44, 45, 46, 47, 48, 49, 50, 51, 52, 53, 54, 55, 56] (by decide +kernel) (by decide +kernel)
set_option maxRecDepth 20000 in
theorem gX7_word_X7_laysAll : GoodIn wsX7_word (wsV RX7 106 RX7 yX7_laysAll wsX7_laysAll) := goodIn_app (goodIn_of _ (by decide +kernel)) ggX7_word_X7_laysAll
set_option maxRecDepth 20000 in
theorem ggX7_word_X7_lineOf : GoodIn wsX7_word wsX7_lineOf := goodIn_r _ [37, 15, 16, 17, 5, 18, 1, 38, 39, 40, 41, 42, 43, 44, 45, 46, 47, 48, 49, 50, 51, 52, 53, 54, 55, 56] (by decide +kernel) (by decide +kernel)
set_option maxRecDepth 20000 in
theorem gX7_word_X7_lineOf : GoodIn wsX7_word (wsV RX7 121 RX7 yX7_lineOf wsX7_lineOf) := goodIn_app (goodIn_of _ (by decide +kernel)) ggX7_word_X7_lineOf
theorem dX7_word_0 : decode cX7_word 0 = .ok (.iload_n 1, 1) := by decide +kernel
theorem dX7_word_1 : decode cX7_word 1 = .ok (.iconst 0, 1) := by decide +kernel
theorem dX7_word_2 : decode cX7_word 2 = .ok (.aload_n 0, 1) := by decide +kernel
theorem dX7_word_3 : decode cX7_word 3 = .ok (.getfield 7, 3) := by decide +kernel
theorem dX7_word_6 : decode cX7_word 6 = .ok (.iconst 0, 1) := by decide +kernel
theorem dX7_word_7 : decode cX7_word 7 = .ok (.iaload, 1) := by decide +kernel
theorem dX7_word_8 : decode cX7_word 8 = .ok (.iconst 1, 1) := by decide +kernel
theorem dX7_word_9 : decode cX7_word 9 = .ok (.isub, 1) := by decide +kernel
theorem dX7_word_10 : decode cX7_word 10 = .ok (.invokestatic 50, 3) := by decide +kernel
theorem dX7_word_13 : decode cX7_word 13 = .ok (.ifCond .eq 12, 3) := by decide +kernel
theorem dX7_word_16 : decode cX7_word 16 = .ok (.iload_n 2, 1) := by decide +kernel
theorem dX7_word_17 : decode cX7_word 17 = .ok (.iconst 0, 1) := by decide +kernel
theorem dX7_word_18 : decode cX7_word 18 = .ok (.iconst 2, 1) := by decide +kernel
theorem dX7_word_19 : decode cX7_word 19 = .ok (.invokestatic 50, 3) := by decide +kernel
theorem dX7_word_22 : decode cX7_word 22 = .ok (.ifCond .ne 5, 3) := by decide +kernel
theorem dX7_word_25 : decode cX7_word 25 = .ok (.iconst (-1), 1) := by decide +kernel
theorem dX7_word_26 : decode cX7_word 26 = .ok (.ireturn, 1) := by decide +kernel
theorem dX7_word_27 : decode cX7_word 27 = .ok (.iload_n 2, 1) := by decide +kernel
theorem dX7_word_28 : decode cX7_word 28 = .ok (.iconst 2, 1) := by decide +kernel
theorem dX7_word_29 : decode cX7_word 29 = .ok (.if_icmp .ne 8, 3) := by decide +kernel
theorem dX7_word_32 : decode cX7_word 32 = .ok (.aload_n 0, 1) := by decide +kernel
theorem dX7_word_33 : decode cX7_word 33 = .ok (.invokevirtual 106, 3) := by decide +kernel
theorem dX7_word_36 : decode cX7_word 36 = .ok (.pop, 1) := by decide +kernel
theorem dX7_word_37 : decode cX7_word 37 = .ok (.iload_n 2, 1) := by decide +kernel
theorem dX7_word_38 : decode cX7_word 38 = .ok (.ifCond .ne 14, 3) := by decide +kernel
theorem dX7_word_41 : decode cX7_word 41 = .ok (.aload_n 0, 1) := by decide +kernel
theorem dX7_word_42 : decode cX7_word 42 = .ok (.getfield 7, 3) := by decide +kernel
theorem dX7_word_45 : decode cX7_word 45 = .ok (.iconst 4, 1) := by decide +kernel
theorem dX7_word_46 : decode cX7_word 46 = .ok (.iload_n 1, 1) := by decide +kernel
theorem dX7_word_47 : decode cX7_word 47 = .ok (.iadd, 1) := by decide +kernel
theorem dX7_word_48 : decode cX7_word 48 = .ok (.iaload, 1) := by decide +kernel
theorem dX7_word_49 : decode cX7_word 49 = .ok (.goto 22, 3) := by decide +kernel
theorem dX7_word_52 : decode cX7_word 52 = .ok (.iload_n 2, 1) := by decide +kernel
theorem dX7_word_53 : decode cX7_word 53 = .ok (.iconst 1, 1) := by decide +kernel
theorem dX7_word_54 : decode cX7_word 54 = .ok (.if_icmp .ne 11, 3) := by decide +kernel
theorem dX7_word_57 : decode cX7_word 57 = .ok (.aload_n 0, 1) := by decide +kernel
theorem dX7_word_58 : decode cX7_word 58 = .ok (.iload_n 1, 1) := by decide +kernel
theorem dX7_word_59 : decode cX7_word 59 = .ok (.invokevirtual 121, 3) := by decide +kernel
theorem dX7_word_62 : decode cX7_word 62 = .ok (.goto 9, 3) := by decide +kernel
theorem dX7_word_65 : decode cX7_word 65 = .ok (.aload_n 0, 1) := by decide +kernel
theorem dX7_word_66 : decode cX7_word 66 = .ok (.getfield 20, 3) := by decide +kernel
theorem dX7_word_69 : decode cX7_word 69 = .ok (.iload_n 1, 1) := by decide +kernel
theorem dX7_word_70 : decode cX7_word 70 = .ok (.iaload, 1) := by decide +kernel
theorem dX7_word_71 : decode cX7_word 71 = .ok (.ireturn, 1) := by decide +kernel
set_option maxRecDepth 20000 in
theorem ggX7_line_X7_isLine : GoodIn wsX7_line wsX7_isLine := goodIn_r _ [7, 1, 8, 9, 6, 10, 46, 47, 48, 49, 50, 51, 52, 53, 54, 55, 56, 57, 58, 59, 60, 61, 62, 63, 64] (by decide +kernel) (by decide +kernel)
set_option maxRecDepth 20000 in
theorem gX7_line_X7_isLine : GoodIn wsX7_line (wsV RX7 96 RX7 yX7_isLine wsX7_isLine) := goodIn_app (goodIn_of _ (by decide +kernel)) ggX7_line_X7_isLine
set_option maxRecDepth 20000 in
theorem ggX7_line_X7_in : GoodIn wsX7_line wsX7_in := goodIn_r _ [10] (by decide +kernel) (by decide +kernel)
set_option maxRecDepth 20000 in
theorem gX7_line_X7_in : GoodIn wsX7_line (va_wsS RX7 50 yX7_in wsX7_in) := goodIn_app (goodIn_of _ (by decide +kernel)) ggX7_line_X7_in
set_option maxRecDepth 20000 in
theorem ggX7_line_X7_first : GoodIn wsX7_line wsX7_first := goodIn_r _ [14, 1, 46, 47, 48, 49, 50, 51, 52, 53, 54, 55, 56, 57, 58, 59, 60, 61, 62, 63, 64] (by decide +kernel) (by decide +kernel)
set_option maxRecDepth 20000 in
theorem gX7_line_X7_first : GoodIn wsX7_line (wsV RX7 73 RX7 yX7_first wsX7_first) := goodIn_app (goodIn_of _ (by decide +kernel)) ggX7_line_X7_first
set_option maxRecDepth 20000 in
theorem ggX7_line_X7_behind : GoodIn wsX7_line wsX7_behind := goodIn_r _ [18, 1, 46, 47, 48, 49, 50, 51, 52, 53, 54, 55, 56, 57, 58, 59, 60, 61, 62, 63, 64] (by decide +kernel) (by decide +kernel)
set_option maxRecDepth 20000 in
theorem gX7_line_X7_behind : GoodIn wsX7_line (wsV RX7 76 RX7 yX7_behind wsX7_behind) := goodIn_app (goodIn_of _ (by decide +kernel)) ggX7_line_X7_behind
set_option maxRecDepth 20000 in
theorem ggX7_line_X7_extraOf : GoodIn wsX7_line wsX7_extraOf := goodIn_r _ [22, 1, 11, 12, 13, 6, 14, 15, 16, 17, 18, 23, 24, 25, 26, 46, 47, 48, 49, 50, 51, 52, 53, 54, 55, 56, 57, 58, 59, 60, 61, 62, 63, 64] (by decide +kernel) (by decide +kernel)
set_option maxRecDepth 20000 in
theorem gX7_line_X7_extraOf : GoodIn wsX7_line (wsV RX7 100 RX7 yX7_extraOf wsX7_extraOf) := goodIn_app (goodIn_of _ (by decide +kernel)) ggX7_line_X7_extraOf
set_option maxRecDepth 20000 in
theorem ggX7_line_X7_badOf : GoodIn wsX7_line wsX7_badOf := goodIn_r _ [30, 1, 19, 20, 21, 6, 22, 11, 12, 13, 14, 15, 16, 17, 18, 23, 24, 25, 26, 46, 47, 48, 49, 50, 51, 52, 53, 54, 55, 56, 57, 58, 59, 60, 61, 62, 63, 64] (by decide +kernel) (by decide +kernel)
set_option maxRecDepth 20000 in
theorem gX7_line_X7_badOf : GoodIn wsX7_line (wsV RX7 103 RX7 yX7_badOf wsX7_badOf) := goodIn_app (goodIn_of _ (by decide +kernel)) ggX7_line_X7_badOf
set_option maxRecDepth 20000 in
theorem ggX7_line_X7_laysAll : GoodIn wsX7_line wsX7_laysAll := goodIn_r _ [34, 1, 11, 12, 13, 6, 14, 15, 16, 17, 18, 35, 36, 37, 38, 39, 40, 41, 2, 23, 24, 25, 26, 42, 43, 44, 45, 46, 47, 48, 49, 50, 51, 52, 53, 54, 55, 56, 57, 58, 59, 60, 61, 62, 63, 64] (by decide +kernel) (by decide +kernel)
set_option maxRecDepth 20000 in
theorem gX7_line_X7_laysAll : GoodIn wsX7_line (wsV RX7 106 RX7 yX7_laysAll wsX7_laysAll) := goodIn_app (goodIn_of _ (by decide +kernel)) ggX7_line_X7_laysAll
theorem dX7_line_0 : decode cX7_line 0 = .ok (.aload_n 0, 1) := by decide +kernel
theorem dX7_line_1 : decode cX7_line 1 = .ok (.iload_n 1, 1) := by decide +kernel
theorem dX7_line_2 : decode cX7_line 2 = .ok (.invokevirtual 96, 3) := by decide +kernel
theorem dX7_line_5 : decode cX7_line 5 = .ok (.ifCond .eq 13, 3) := by decide +kernel
theorem dX7_line_8 : decode cX7_line 8 = .ok (.iload_n 2, 1) := by decide +kernel
theorem dX7_line_9 : decode cX7_line 9 = .ok (.iconst 0, 1) := by decide +kernel
theorem dX7_line_10 : decode cX7_line 10 = .ok (.bipush 6, 2) := by decide +kernel
theorem dX7_line_12 : decode cX7_line 12 = .ok (.invokestatic 50, 3) := by decide +kernel
theorem dX7_line_15 : decode cX7_line 15 = .ok (.ifCond .ne 5, 3) := by decide +kernel
theorem dX7_line_18 : decode cX7_line 18 = .ok (.iconst (-1), 1) := by decide +kernel
theorem dX7_line_19 : decode cX7_line 19 = .ok (.ireturn, 1) := by decide +kernel
theorem dX7_line_20 : decode cX7_line 20 = .ok (.iload_n 2, 1) := by decide +kernel
theorem dX7_line_21 : decode cX7_line 21 = .ok (.tableswitch 93 0 5 #[39, 45, 57, 63, 69, 83], 39) := by decide +kernel
theorem dX7_line_60 : decode cX7_line 60 = .ok (.aload_n 0, 1) := by decide +kernel
theorem dX7_line_61 : decode cX7_line 61 = .ok (.iload_n 1, 1) := by decide +kernel
theorem dX7_line_62 : decode cX7_line 62 = .ok (.invokevirtual 73, 3) := by decide +kernel
theorem dX7_line_65 : decode cX7_line 65 = .ok (.ireturn, 1) := by decide +kernel
theorem dX7_line_66 : decode cX7_line 66 = .ok (.aload_n 0, 1) := by decide +kernel
theorem dX7_line_67 : decode cX7_line 67 = .ok (.iload_n 1, 1) := by decide +kernel
theorem dX7_line_68 : decode cX7_line 68 = .ok (.invokevirtual 76, 3) := by decide +kernel
theorem dX7_line_71 : decode cX7_line 71 = .ok (.aload_n 0, 1) := by decide +kernel
theorem dX7_line_72 : decode cX7_line 72 = .ok (.iload_n 1, 1) := by decide +kernel
theorem dX7_line_73 : decode cX7_line 73 = .ok (.invokevirtual 73, 3) := by decide +kernel
theorem dX7_line_76 : decode cX7_line 76 = .ok (.isub, 1) := by decide +kernel
theorem dX7_line_77 : decode cX7_line 77 = .ok (.ireturn, 1) := by decide +kernel
theorem dX7_line_78 : decode cX7_line 78 = .ok (.aload_n 0, 1) := by decide +kernel
theorem dX7_line_79 : decode cX7_line 79 = .ok (.iload_n 1, 1) := by decide +kernel
theorem dX7_line_80 : decode cX7_line 80 = .ok (.invokevirtual 100, 3) := by decide +kernel
theorem dX7_line_83 : decode cX7_line 83 = .ok (.ireturn, 1) := by decide +kernel
theorem dX7_line_84 : decode cX7_line 84 = .ok (.aload_n 0, 1) := by decide +kernel
theorem dX7_line_85 : decode cX7_line 85 = .ok (.iload_n 1, 1) := by decide +kernel
theorem dX7_line_86 : decode cX7_line 86 = .ok (.invokevirtual 103, 3) := by decide +kernel
theorem dX7_line_89 : decode cX7_line 89 = .ok (.ireturn, 1) := by decide +kernel
theorem dX7_line_90 : decode cX7_line 90 = .ok (.aload_n 0, 1) := by decide +kernel
theorem dX7_line_91 : decode cX7_line 91 = .ok (.iload_n 1, 1) := by decide +kernel
theorem dX7_line_92 : decode cX7_line 92 = .ok (.invokevirtual 76, 3) := by decide +kernel
theorem dX7_line_95 : decode cX7_line 95 = .ok (.aload_n 0, 1) := by decide +kernel
theorem dX7_line_96 : decode cX7_line 96 = .ok (.iload_n 1, 1) := by decide +kernel
theorem dX7_line_97 : decode cX7_line 97 = .ok (.invokevirtual 73, 3) := by decide +kernel
theorem dX7_line_100 : decode cX7_line 100 = .ok (.isub, 1) := by decide +kernel
theorem dX7_line_101 : decode cX7_line 101 = .ok (.iconst 1, 1) := by decide +kernel
theorem dX7_line_102 : decode cX7_line 102 = .ok (.isub, 1) := by decide +kernel
theorem dX7_line_103 : decode cX7_line 103 = .ok (.ireturn, 1) := by decide +kernel
theorem dX7_line_104 : decode cX7_line 104 = .ok (.aload_n 0, 1) := by decide +kernel
theorem dX7_line_105 : decode cX7_line 105 = .ok (.getfield 7, 3) := by decide +kernel
theorem dX7_line_108 : decode cX7_line 108 = .ok (.bipush 53, 2) := by decide +kernel
theorem dX7_line_110 : decode cX7_line 110 = .ok (.iload_n 1, 1) := by decide +kernel
theorem dX7_line_111 : decode cX7_line 111 = .ok (.iadd, 1) := by decide +kernel
theorem dX7_line_112 : decode cX7_line 112 = .ok (.iaload, 1) := by decide +kernel
theorem dX7_line_113 : decode cX7_line 113 = .ok (.ireturn, 1) := by decide +kernel
theorem dX7_line_114 : decode cX7_line 114 = .ok (.aload_n 0, 1) := by decide +kernel
theorem dX7_line_115 : decode cX7_line 115 = .ok (.invokevirtual 106, 3) := by decide +kernel
theorem dX7_line_118 : decode cX7_line 118 = .ok (.pop, 1) := by decide +kernel
theorem dX7_line_119 : decode cX7_line 119 = .ok (.iconst 0, 1) := by decide +kernel
theorem dX7_line_120 : decode cX7_line 120 = .ok (.istore_n 3, 1) := by decide +kernel
theorem dX7_line_121 : decode cX7_line 121 = .ok (.aload_n 0, 1) := by decide +kernel
theorem dX7_line_122 : decode cX7_line 122 = .ok (.iload_n 1, 1) := by decide +kernel
theorem dX7_line_123 : decode cX7_line 123 = .ok (.invokevirtual 73, 3) := by decide +kernel
theorem dX7_line_126 : decode cX7_line 126 = .ok (.istore 4, 2) := by decide +kernel
theorem dX7_line_128 : decode cX7_line 128 = .ok (.iload 4, 2) := by decide +kernel
theorem dX7_line_130 : decode cX7_line 130 = .ok (.iconst 1, 1) := by decide +kernel
theorem dX7_line_131 : decode cX7_line 131 = .ok (.iadd, 1) := by decide +kernel
theorem dX7_line_132 : decode cX7_line 132 = .ok (.aload_n 0, 1) := by decide +kernel
theorem dX7_line_133 : decode cX7_line 133 = .ok (.iload_n 1, 1) := by decide +kernel
theorem dX7_line_134 : decode cX7_line 134 = .ok (.invokevirtual 76, 3) := by decide +kernel
theorem dX7_line_137 : decode cX7_line 137 = .ok (.if_icmp .ge 32, 3) := by decide +kernel
theorem dX7_line_140 : decode cX7_line 140 = .ok (.aload_n 0, 1) := by decide +kernel
theorem dX7_line_141 : decode cX7_line 141 = .ok (.getfield 29, 3) := by decide +kernel
theorem dX7_line_144 : decode cX7_line 144 = .ok (.iload 4, 2) := by decide +kernel
theorem dX7_line_146 : decode cX7_line 146 = .ok (.iaload, 1) := by decide +kernel
theorem dX7_line_147 : decode cX7_line 147 = .ok (.iload_n 3, 1) := by decide +kernel
theorem dX7_line_148 : decode cX7_line 148 = .ok (.if_icmp .le 13, 3) := by decide +kernel
theorem dX7_line_151 : decode cX7_line 151 = .ok (.aload_n 0, 1) := by decide +kernel
theorem dX7_line_152 : decode cX7_line 152 = .ok (.getfield 29, 3) := by decide +kernel
theorem dX7_line_155 : decode cX7_line 155 = .ok (.iload 4, 2) := by decide +kernel
theorem dX7_line_157 : decode cX7_line 157 = .ok (.iaload, 1) := by decide +kernel
theorem dX7_line_158 : decode cX7_line 158 = .ok (.goto 4, 3) := by decide +kernel
theorem dX7_line_161 : decode cX7_line 161 = .ok (.iload_n 3, 1) := by decide +kernel
theorem dX7_line_162 : decode cX7_line 162 = .ok (.istore_n 3, 1) := by decide +kernel
theorem dX7_line_163 : decode cX7_line 163 = .ok (.iinc 4 1, 3) := by decide +kernel
theorem dX7_line_166 : decode cX7_line 166 = .ok (.goto (-38), 3) := by decide +kernel
theorem dX7_line_169 : decode cX7_line 169 = .ok (.iload_n 3, 1) := by decide +kernel
theorem dX7_line_170 : decode cX7_line 170 = .ok (.ireturn, 1) := by decide +kernel
theorem dX7_undo_0 : decode cX7_undo 0 = .ok (.aload_n 0, 1) := by decide +kernel
theorem dX7_undo_1 : decode cX7_undo 1 = .ok (.getfield 54, 3) := by decide +kernel
theorem dX7_undo_4 : decode cX7_undo 4 = .ok (.ifCond .ne 6, 3) := by decide +kernel
theorem dX7_undo_7 : decode cX7_undo 7 = .ok (.bipush (-2), 2) := by decide +kernel
theorem dX7_undo_9 : decode cX7_undo 9 = .ok (.ireturn, 1) := by decide +kernel
theorem dX7_undo_10 : decode cX7_undo 10 = .ok (.aload_n 0, 1) := by decide +kernel
theorem dX7_undo_11 : decode cX7_undo 11 = .ok (.dup, 1) := by decide +kernel
theorem dX7_undo_12 : decode cX7_undo 12 = .ok (.getfield 54, 3) := by decide +kernel
theorem dX7_undo_15 : decode cX7_undo 15 = .ok (.iconst 1, 1) := by decide +kernel
theorem dX7_undo_16 : decode cX7_undo 16 = .ok (.isub, 1) := by decide +kernel
theorem dX7_undo_17 : decode cX7_undo 17 = .ok (.putfield 54, 3) := by decide +kernel
theorem dX7_undo_20 : decode cX7_undo 20 = .ok (.iconst 0, 1) := by decide +kernel
theorem dX7_undo_21 : decode cX7_undo 21 = .ok (.istore_n 1, 1) := by decide +kernel
theorem dX7_undo_22 : decode cX7_undo 22 = .ok (.iload_n 1, 1) := by decide +kernel
theorem dX7_undo_23 : decode cX7_undo 23 = .ok (.bipush 77, 2) := by decide +kernel
theorem dX7_undo_25 : decode cX7_undo 25 = .ok (.if_icmp .ge 29, 3) := by decide +kernel
theorem dX7_undo_28 : decode cX7_undo 28 = .ok (.aload_n 0, 1) := by decide +kernel
theorem dX7_undo_29 : decode cX7_undo 29 = .ok (.getfield 7, 3) := by decide +kernel
theorem dX7_undo_32 : decode cX7_undo 32 = .ok (.iload_n 1, 1) := by decide +kernel
theorem dX7_undo_33 : decode cX7_undo 33 = .ok (.aload_n 0, 1) := by decide +kernel
theorem dX7_undo_34 : decode cX7_undo 34 = .ok (.getfield 13, 3) := by decide +kernel
theorem dX7_undo_37 : decode cX7_undo 37 = .ok (.bipush 77, 2) := by decide +kernel
theorem dX7_undo_39 : decode cX7_undo 39 = .ok (.aload_n 0, 1) := by decide +kernel
theorem dX7_undo_40 : decode cX7_undo 40 = .ok (.getfield 54, 3) := by decide +kernel
theorem dX7_undo_43 : decode cX7_undo 43 = .ok (.imul, 1) := by decide +kernel
theorem dX7_undo_44 : decode cX7_undo 44 = .ok (.iload_n 1, 1) := by decide +kernel
theorem dX7_undo_45 : decode cX7_undo 45 = .ok (.iadd, 1) := by decide +kernel
theorem dX7_undo_46 : decode cX7_undo 46 = .ok (.iaload, 1) := by decide +kernel
theorem dX7_undo_47 : decode cX7_undo 47 = .ok (.iastore, 1) := by decide +kernel
theorem dX7_undo_48 : decode cX7_undo 48 = .ok (.iinc 1 1, 3) := by decide +kernel
theorem dX7_undo_51 : decode cX7_undo 51 = .ok (.goto (-29), 3) := by decide +kernel
theorem dX7_undo_54 : decode cX7_undo 54 = .ok (.aload_n 0, 1) := by decide +kernel
theorem dX7_undo_55 : decode cX7_undo 55 = .ok (.getfield 54, 3) := by decide +kernel
theorem dX7_undo_58 : decode cX7_undo 58 = .ok (.ireturn, 1) := by decide +kernel
set_option maxRecDepth 20000 in
theorem ggX7_gap_X7_isLine : GoodIn wsX7_gap wsX7_isLine := goodIn_r _ [8, 9, 10, 11, 7, 12, 50, 51, 52, 53, 54, 55, 56, 57, 58, 59, 60, 61, 62, 63, 64, 65, 66, 67, 68] (by decide +kernel) (by decide +kernel)
set_option maxRecDepth 20000 in
theorem gX7_gap_X7_isLine : GoodIn wsX7_gap (wsV RX7 96 RX7 yX7_isLine wsX7_isLine) := goodIn_app (goodIn_of _ (by decide +kernel)) ggX7_gap_X7_isLine
set_option maxRecDepth 20000 in
theorem ggX7_gap_X7_behind : GoodIn wsX7_gap wsX7_behind := goodIn_r _ [16, 9, 50, 51, 52, 53, 54, 55, 56, 57, 58, 59, 60, 61, 62, 63, 64, 65, 66, 67, 68] (by decide +kernel) (by decide +kernel)
set_option maxRecDepth 20000 in
theorem gX7_gap_X7_behind : GoodIn wsX7_gap (wsV RX7 76 RX7 yX7_behind wsX7_behind) := goodIn_app (goodIn_of _ (by decide +kernel)) ggX7_gap_X7_behind
set_option maxRecDepth 20000 in
theorem ggX7_gap_X7_first : GoodIn wsX7_gap wsX7_first := goodIn_r _ [20, 9, 50, 51, 52, 53, 54, 55, 56, 57, 58, 59, 60, 61, 62, 63, 64, 65, 66, 67, 68] (by decide +kernel) (by decide +kernel)
set_option maxRecDepth 20000 in
theorem gX7_gap_X7_first : GoodIn wsX7_gap (wsV RX7 73 RX7 yX7_first wsX7_first) := goodIn_app (goodIn_of _ (by decide +kernel)) ggX7_gap_X7_first
set_option maxRecDepth 20000 in
theorem ggX7_gap_X7_in : GoodIn wsX7_gap wsX7_in := goodIn_r _ [12] (by decide +kernel) (by decide +kernel)
set_option maxRecDepth 20000 in
theorem gX7_gap_X7_in : GoodIn wsX7_gap (va_wsS RX7 50 yX7_in wsX7_in) := goodIn_app (goodIn_of _ (by decide +kernel)) ggX7_gap_X7_in
set_option maxRecDepth 20000 in
theorem ggX7_gap_X7_laysAll : GoodIn wsX7_gap wsX7_laysAll := goodIn_r _ [24, 9, 17, 18, 19, 7, 20, 13, 14, 15, 16, 25, 26, 27, 28, 29, 1, 2, 3, 30, 31, 32, 33, 34, 35, 36, 37, 50, 51, 52, 53, 54, 55, 56, 57, 58, 59, 60, 61, 62, 63, 64, 65, 66, 67, 68] (by decide +kernel) (by decide +kernel)
set_option maxRecDepth 20000 in
theorem gX7_gap_X7_laysAll : GoodIn wsX7_gap (wsV RX7 106 RX7 yX7_laysAll wsX7_laysAll) := goodIn_app (goodIn_of _ (by decide +kernel)) ggX7_gap_X7_laysAll
set_option maxRecDepth 20000 in
theorem ggX7_gap_X7_above : GoodIn wsX7_gap wsX7_above := goodIn_r _ [41, 42, 43, 44, 7, 45, 17, 18, 19, 20, 9, 13, 14, 15, 16, 34, 35, 36, 37, 1, 2, 50, 51, 52, 53, 54, 55, 56, 57, 58, 59, 60, 61, 62, 63, 64, 65, 66, 67, 68] (by decide +kernel) (by decide +kernel)
set_option maxRecDepth 20000 in
theorem gX7_gap_X7_above : GoodIn wsX7_gap (wsV RX7 109 RX7 yX7_above wsX7_above) := goodIn_app (goodIn_of _ (by decide +kernel)) ggX7_gap_X7_above
set_option maxRecDepth 20000 in
theorem ggX7_gap_X7_below : GoodIn wsX7_gap wsX7_below := goodIn_r _ [49, 9, 42, 43, 44, 7, 45, 17, 18, 19, 20, 13, 14, 15, 16, 34, 35, 36, 37, 1, 2, 50, 51, 52, 53, 54, 55, 56, 57, 58, 59, 60, 61, 62, 63, 64, 65, 66, 67, 68] (by decide +kernel) (by decide +kernel)
set_option maxRecDepth 20000 in
theorem gX7_gap_X7_below : GoodIn wsX7_gap (wsV RX7 124 RX7 yX7_below wsX7_below) := goodIn_app (goodIn_of _ (by decide +kernel)) ggX7_gap_X7_below
theorem dX7_gap_0 : decode cX7_gap 0 = .ok (.aload_n 0, 1) := by decide +kernel
theorem dX7_gap_1 : decode cX7_gap 1 = .ok (.iload_n 1, 1) := by decide +kernel
theorem dX7_gap_2 : decode cX7_gap 2 = .ok (.invokevirtual 96, 3) := by decide +kernel
theorem dX7_gap_5 : decode cX7_gap 5 = .ok (.ifCond .eq 33, 3) := by decide +kernel
theorem dX7_gap_8 : decode cX7_gap 8 = .ok (.iload_n 2, 1) := by decide +kernel
theorem dX7_gap_9 : decode cX7_gap 9 = .ok (.iconst 0, 1) := by decide +kernel
theorem dX7_gap_10 : decode cX7_gap 10 = .ok (.aload_n 0, 1) := by decide +kernel
theorem dX7_gap_11 : decode cX7_gap 11 = .ok (.iload_n 1, 1) := by decide +kernel
theorem dX7_gap_12 : decode cX7_gap 12 = .ok (.invokevirtual 76, 3) := by decide +kernel
theorem dX7_gap_15 : decode cX7_gap 15 = .ok (.aload_n 0, 1) := by decide +kernel
theorem dX7_gap_16 : decode cX7_gap 16 = .ok (.iload_n 1, 1) := by decide +kernel
theorem dX7_gap_17 : decode cX7_gap 17 = .ok (.invokevirtual 73, 3) := by decide +kernel
theorem dX7_gap_20 : decode cX7_gap 20 = .ok (.isub, 1) := by decide +kernel
theorem dX7_gap_21 : decode cX7_gap 21 = .ok (.iconst 2, 1) := by decide +kernel
theorem dX7_gap_22 : decode cX7_gap 22 = .ok (.isub, 1) := by decide +kernel
theorem dX7_gap_23 : decode cX7_gap 23 = .ok (.invokestatic 50, 3) := by decide +kernel
theorem dX7_gap_26 : decode cX7_gap 26 = .ok (.ifCond .eq 12, 3) := by decide +kernel
theorem dX7_gap_29 : decode cX7_gap 29 = .ok (.iload_n 3, 1) := by decide +kernel
theorem dX7_gap_30 : decode cX7_gap 30 = .ok (.iconst 0, 1) := by decide +kernel
theorem dX7_gap_31 : decode cX7_gap 31 = .ok (.iconst 4, 1) := by decide +kernel
theorem dX7_gap_32 : decode cX7_gap 32 = .ok (.invokestatic 50, 3) := by decide +kernel
theorem dX7_gap_35 : decode cX7_gap 35 = .ok (.ifCond .ne 5, 3) := by decide +kernel
theorem dX7_gap_38 : decode cX7_gap 38 = .ok (.iconst (-1), 1) := by decide +kernel
theorem dX7_gap_39 : decode cX7_gap 39 = .ok (.ireturn, 1) := by decide +kernel
theorem dX7_gap_40 : decode cX7_gap 40 = .ok (.aload_n 0, 1) := by decide +kernel
theorem dX7_gap_41 : decode cX7_gap 41 = .ok (.invokevirtual 106, 3) := by decide +kernel
theorem dX7_gap_44 : decode cX7_gap 44 = .ok (.pop, 1) := by decide +kernel
theorem dX7_gap_45 : decode cX7_gap 45 = .ok (.aload_n 0, 1) := by decide +kernel
theorem dX7_gap_46 : decode cX7_gap 46 = .ok (.iload_n 1, 1) := by decide +kernel
theorem dX7_gap_47 : decode cX7_gap 47 = .ok (.invokevirtual 73, 3) := by decide +kernel
theorem dX7_gap_50 : decode cX7_gap 50 = .ok (.iload_n 2, 1) := by decide +kernel
theorem dX7_gap_51 : decode cX7_gap 51 = .ok (.iadd, 1) := by decide +kernel
theorem dX7_gap_52 : decode cX7_gap 52 = .ok (.istore 4, 2) := by decide +kernel
theorem dX7_gap_54 : decode cX7_gap 54 = .ok (.iload_n 3, 1) := by decide +kernel
theorem dX7_gap_55 : decode cX7_gap 55 = .ok (.tableswitch 61 0 3 #[29, 37, 45, 53], 29) := by decide +kernel
theorem dX7_gap_84 : decode cX7_gap 84 = .ok (.aload_n 0, 1) := by decide +kernel
theorem dX7_gap_85 : decode cX7_gap 85 = .ok (.getfield 23, 3) := by decide +kernel
theorem dX7_gap_88 : decode cX7_gap 88 = .ok (.iload 4, 2) := by decide +kernel
theorem dX7_gap_90 : decode cX7_gap 90 = .ok (.iaload, 1) := by decide +kernel
theorem dX7_gap_91 : decode cX7_gap 91 = .ok (.ireturn, 1) := by decide +kernel
theorem dX7_gap_92 : decode cX7_gap 92 = .ok (.aload_n 0, 1) := by decide +kernel
theorem dX7_gap_93 : decode cX7_gap 93 = .ok (.getfield 26, 3) := by decide +kernel
theorem dX7_gap_96 : decode cX7_gap 96 = .ok (.iload 4, 2) := by decide +kernel
theorem dX7_gap_98 : decode cX7_gap 98 = .ok (.iaload, 1) := by decide +kernel
theorem dX7_gap_99 : decode cX7_gap 99 = .ok (.ireturn, 1) := by decide +kernel
theorem dX7_gap_100 : decode cX7_gap 100 = .ok (.aload_n 0, 1) := by decide +kernel
theorem dX7_gap_101 : decode cX7_gap 101 = .ok (.getfield 29, 3) := by decide +kernel
theorem dX7_gap_104 : decode cX7_gap 104 = .ok (.iload 4, 2) := by decide +kernel
theorem dX7_gap_106 : decode cX7_gap 106 = .ok (.iaload, 1) := by decide +kernel
theorem dX7_gap_107 : decode cX7_gap 107 = .ok (.ireturn, 1) := by decide +kernel
theorem dX7_gap_108 : decode cX7_gap 108 = .ok (.aload_n 0, 1) := by decide +kernel
theorem dX7_gap_109 : decode cX7_gap 109 = .ok (.iload 4, 2) := by decide +kernel
theorem dX7_gap_111 : decode cX7_gap 111 = .ok (.iload_n 1, 1) := by decide +kernel
theorem dX7_gap_112 : decode cX7_gap 112 = .ok (.invokevirtual 109, 3) := by decide +kernel
theorem dX7_gap_115 : decode cX7_gap 115 = .ok (.ireturn, 1) := by decide +kernel
theorem dX7_gap_116 : decode cX7_gap 116 = .ok (.aload_n 0, 1) := by decide +kernel
theorem dX7_gap_117 : decode cX7_gap 117 = .ok (.iload 4, 2) := by decide +kernel
theorem dX7_gap_119 : decode cX7_gap 119 = .ok (.iload_n 1, 1) := by decide +kernel
theorem dX7_gap_120 : decode cX7_gap 120 = .ok (.invokevirtual 124, 3) := by decide +kernel
theorem dX7_gap_123 : decode cX7_gap 123 = .ok (.ireturn, 1) := by decide +kernel
set_option maxRecDepth 20000 in
theorem ggX7_river_X7_in : GoodIn wsX7_river wsX7_in := goodIn_r _ [5] (by decide +kernel) (by decide +kernel)
set_option maxRecDepth 20000 in
theorem gX7_river_X7_in : GoodIn wsX7_river (va_wsS RX7 50 yX7_in wsX7_in) := goodIn_app (goodIn_of _ (by decide +kernel)) ggX7_river_X7_in
set_option maxRecDepth 20000 in
theorem ggX7_river_X7_laysAll : GoodIn wsX7_river wsX7_laysAll := goodIn_r _ [9, 10, 11, 12, 13, 4, 14, 15, 16, 17, 18, 19, 20, 21, 22, 23, 24, 25, 1, 26, 27, 28, 29, 30, 31, 32, 33, 38, 39, 40, 41, 42, 43, 44, 45, 46, 47, 48, 49, 50, 51, 52, 53, 54, 55, 56] (by decide +kernel) (by decide +kernel)
set_option maxRecDepth 20000 in
theorem gX7_river_X7_laysAll : GoodIn wsX7_river (wsV RX7 106 RX7 yX7_laysAll wsX7_laysAll) := goodIn_app (goodIn_of _ (by decide +kernel)) ggX7_river_X7_laysAll
set_option maxRecDepth 20000 in
theorem ggX7_river_X7_lineOf : GoodIn wsX7_river wsX7_lineOf := goodIn_r _ [37, 15, 16, 17, 4, 18, 10, 38, 39, 40, 41, 42, 43, 44, 45, 46, 47, 48, 49, 50, 51, 52, 53, 54, 55, 56] (by decide +kernel) (by decide +kernel)
set_option maxRecDepth 20000 in
theorem gX7_river_X7_lineOf : GoodIn wsX7_river (wsV RX7 121 RX7 yX7_lineOf wsX7_lineOf) := goodIn_app (goodIn_of _ (by decide +kernel)) ggX7_river_X7_lineOf
set_option maxRecDepth 20000 in
theorem ggX7_river_X7_behind : GoodIn wsX7_river wsX7_behind := goodIn_r _ [18, 10, 38, 39, 40, 41, 42, 43, 44, 45, 46, 47, 48, 49, 50, 51, 52, 53, 54, 55, 56] (by decide +kernel) (by decide +kernel)
set_option maxRecDepth 20000 in
theorem gX7_river_X7_behind : GoodIn wsX7_river (wsV RX7 76 RX7 yX7_behind wsX7_behind) := goodIn_app (goodIn_of _ (by decide +kernel)) ggX7_river_X7_behind
set_option maxRecDepth 20000 in
theorem ggX7_river_X7_first : GoodIn wsX7_river wsX7_first := goodIn_r _ [14, 10, 38, 39, 40, 41, 42, 43, 44, 45, 46, 47, 48, 49, 50, 51, 52, 53, 54, 55, 56] (by decide +kernel) (by decide +kernel)
set_option maxRecDepth 20000 in
theorem gX7_river_X7_first : GoodIn wsX7_river (wsV RX7 73 RX7 yX7_first wsX7_first) := goodIn_app (goodIn_of _ (by decide +kernel)) ggX7_river_X7_first
set_option maxRecDepth 20000 in
theorem ggX7_river_X7_meets : GoodIn wsX7_river wsX7_meets := goodIn_r _ [33, 24, 25, 38, 39, 40, 41, 42, 43, 44, 45, 46, 47, 48, 49, 50, 51, 52, 53, 54, 55, 56] (by decide +kernel) (by decide +kernel)
set_option maxRecDepth 20000 in
theorem gX7_river_X7_meets : GoodIn wsX7_river (wsV RX7 70 RX7 yX7_meets wsX7_meets) := goodIn_app (goodIn_of _ (by decide +kernel)) ggX7_river_X7_meets
theorem dX7_river_0 : decode cX7_river 0 = .ok (.iload_n 1, 1) := by decide +kernel
theorem dX7_river_1 : decode cX7_river 1 = .ok (.ifCond .lt 12, 3) := by decide +kernel
theorem dX7_river_4 : decode cX7_river 4 = .ok (.iload_n 2, 1) := by decide +kernel
theorem dX7_river_5 : decode cX7_river 5 = .ok (.iconst 0, 1) := by decide +kernel
theorem dX7_river_6 : decode cX7_river 6 = .ok (.iconst 1, 1) := by decide +kernel
theorem dX7_river_7 : decode cX7_river 7 = .ok (.invokestatic 50, 3) := by decide +kernel
theorem dX7_river_10 : decode cX7_river 10 = .ok (.ifCond .ne 5, 3) := by decide +kernel
theorem dX7_river_13 : decode cX7_river 13 = .ok (.iconst (-1), 1) := by decide +kernel
theorem dX7_river_14 : decode cX7_river 14 = .ok (.ireturn, 1) := by decide +kernel
theorem dX7_river_15 : decode cX7_river 15 = .ok (.aload_n 0, 1) := by decide +kernel
theorem dX7_river_16 : decode cX7_river 16 = .ok (.invokevirtual 106, 3) := by decide +kernel
theorem dX7_river_19 : decode cX7_river 19 = .ok (.istore_n 3, 1) := by decide +kernel
theorem dX7_river_20 : decode cX7_river 20 = .ok (.iload_n 1, 1) := by decide +kernel
theorem dX7_river_21 : decode cX7_river 21 = .ok (.iload_n 3, 1) := by decide +kernel
theorem dX7_river_22 : decode cX7_river 22 = .ok (.if_icmp .lt 6, 3) := by decide +kernel
theorem dX7_river_25 : decode cX7_river 25 = .ok (.bipush (-4), 2) := by decide +kernel
theorem dX7_river_27 : decode cX7_river 27 = .ok (.ireturn, 1) := by decide +kernel
theorem dX7_river_28 : decode cX7_river 28 = .ok (.iconst 0, 1) := by decide +kernel
theorem dX7_river_29 : decode cX7_river 29 = .ok (.istore 4, 2) := by decide +kernel
theorem dX7_river_31 : decode cX7_river 31 = .ok (.iload 4, 2) := by decide +kernel
theorem dX7_river_33 : decode cX7_river 33 = .ok (.iconst 1, 1) := by decide +kernel
theorem dX7_river_34 : decode cX7_river 34 = .ok (.iadd, 1) := by decide +kernel
theorem dX7_river_35 : decode cX7_river 35 = .ok (.aload_n 0, 1) := by decide +kernel
theorem dX7_river_36 : decode cX7_river 36 = .ok (.aload_n 0, 1) := by decide +kernel
theorem dX7_river_37 : decode cX7_river 37 = .ok (.iload 4, 2) := by decide +kernel
theorem dX7_river_39 : decode cX7_river 39 = .ok (.invokevirtual 121, 3) := by decide +kernel
theorem dX7_river_42 : decode cX7_river 42 = .ok (.invokevirtual 76, 3) := by decide +kernel
theorem dX7_river_45 : decode cX7_river 45 = .ok (.if_icmp .ge 14, 3) := by decide +kernel
theorem dX7_river_48 : decode cX7_river 48 = .ok (.aload_n 0, 1) := by decide +kernel
theorem dX7_river_49 : decode cX7_river 49 = .ok (.getfield 29, 3) := by decide +kernel
theorem dX7_river_52 : decode cX7_river 52 = .ok (.iload 4, 2) := by decide +kernel
theorem dX7_river_54 : decode cX7_river 54 = .ok (.iaload, 1) := by decide +kernel
theorem dX7_river_55 : decode cX7_river 55 = .ok (.iload_n 3, 1) := by decide +kernel
theorem dX7_river_56 : decode cX7_river 56 = .ok (.if_icmp .eq 9, 3) := by decide +kernel
theorem dX7_river_59 : decode cX7_river 59 = .ok (.iinc 4 1, 3) := by decide +kernel
theorem dX7_river_62 : decode cX7_river 62 = .ok (.goto (-31), 3) := by decide +kernel
theorem dX7_river_65 : decode cX7_river 65 = .ok (.iconst 0, 1) := by decide +kernel
theorem dX7_river_66 : decode cX7_river 66 = .ok (.istore 5, 2) := by decide +kernel
theorem dX7_river_68 : decode cX7_river 68 = .ok (.iload 5, 2) := by decide +kernel
theorem dX7_river_70 : decode cX7_river 70 = .ok (.iload_n 1, 1) := by decide +kernel
theorem dX7_river_71 : decode cX7_river 71 = .ok (.if_icmp .ge 80, 3) := by decide +kernel
theorem dX7_river_74 : decode cX7_river 74 = .ok (.aload_n 0, 1) := by decide +kernel
theorem dX7_river_75 : decode cX7_river 75 = .ok (.iload 4, 2) := by decide +kernel
theorem dX7_river_77 : decode cX7_river 77 = .ok (.invokevirtual 121, 3) := by decide +kernel
theorem dX7_river_80 : decode cX7_river 80 = .ok (.istore 6, 2) := by decide +kernel
theorem dX7_river_82 : decode cX7_river 82 = .ok (.aload_n 0, 1) := by decide +kernel
theorem dX7_river_83 : decode cX7_river 83 = .ok (.iload 6, 2) := by decide +kernel
theorem dX7_river_85 : decode cX7_river 85 = .ok (.iconst 1, 1) := by decide +kernel
theorem dX7_river_86 : decode cX7_river 86 = .ok (.isub, 1) := by decide +kernel
theorem dX7_river_87 : decode cX7_river 87 = .ok (.invokevirtual 73, 3) := by decide +kernel
theorem dX7_river_90 : decode cX7_river 90 = .ok (.istore 7, 2) := by decide +kernel
theorem dX7_river_92 : decode cX7_river 92 = .ok (.iload 7, 2) := by decide +kernel
theorem dX7_river_94 : decode cX7_river 94 = .ok (.iconst 1, 1) := by decide +kernel
theorem dX7_river_95 : decode cX7_river 95 = .ok (.iadd, 1) := by decide +kernel
theorem dX7_river_96 : decode cX7_river 96 = .ok (.aload_n 0, 1) := by decide +kernel
theorem dX7_river_97 : decode cX7_river 97 = .ok (.iload 6, 2) := by decide +kernel
theorem dX7_river_99 : decode cX7_river 99 = .ok (.invokevirtual 73, 3) := by decide +kernel
theorem dX7_river_102 : decode cX7_river 102 = .ok (.if_icmp .ge 33, 3) := by decide +kernel
theorem dX7_river_105 : decode cX7_river 105 = .ok (.aload_n 0, 1) := by decide +kernel
theorem dX7_river_106 : decode cX7_river 106 = .ok (.iload 4, 2) := by decide +kernel
theorem dX7_river_108 : decode cX7_river 108 = .ok (.iload 7, 2) := by decide +kernel
theorem dX7_river_110 : decode cX7_river 110 = .ok (.invokevirtual 70, 3) := by decide +kernel
theorem dX7_river_113 : decode cX7_river 113 = .ok (.ifCond .eq 22, 3) := by decide +kernel
theorem dX7_river_116 : decode cX7_river 116 = .ok (.aload_n 0, 1) := by decide +kernel
theorem dX7_river_117 : decode cX7_river 117 = .ok (.getfield 29, 3) := by decide +kernel
theorem dX7_river_120 : decode cX7_river 120 = .ok (.iload 7, 2) := by decide +kernel
theorem dX7_river_122 : decode cX7_river 122 = .ok (.iaload, 1) := by decide +kernel
theorem dX7_river_123 : decode cX7_river 123 = .ok (.aload_n 0, 1) := by decide +kernel
theorem dX7_river_124 : decode cX7_river 124 = .ok (.getfield 29, 3) := by decide +kernel
theorem dX7_river_127 : decode cX7_river 127 = .ok (.iload 4, 2) := by decide +kernel
theorem dX7_river_129 : decode cX7_river 129 = .ok (.iaload, 1) := by decide +kernel
theorem dX7_river_130 : decode cX7_river 130 = .ok (.iconst 1, 1) := by decide +kernel
theorem dX7_river_131 : decode cX7_river 131 = .ok (.isub, 1) := by decide +kernel
theorem dX7_river_132 : decode cX7_river 132 = .ok (.if_icmp .eq 9, 3) := by decide +kernel
theorem dX7_river_135 : decode cX7_river 135 = .ok (.iinc 7 1, 3) := by decide +kernel
theorem dX7_river_138 : decode cX7_river 138 = .ok (.goto (-46), 3) := by decide +kernel
theorem dX7_river_141 : decode cX7_river 141 = .ok (.iload 7, 2) := by decide +kernel
theorem dX7_river_143 : decode cX7_river 143 = .ok (.istore 4, 2) := by decide +kernel
theorem dX7_river_145 : decode cX7_river 145 = .ok (.iinc 5 1, 3) := by decide +kernel
theorem dX7_river_148 : decode cX7_river 148 = .ok (.goto (-80), 3) := by decide +kernel
theorem dX7_river_151 : decode cX7_river 151 = .ok (.iload_n 2, 1) := by decide +kernel
theorem dX7_river_152 : decode cX7_river 152 = .ok (.ifCond .ne 12, 3) := by decide +kernel
theorem dX7_river_155 : decode cX7_river 155 = .ok (.aload_n 0, 1) := by decide +kernel
theorem dX7_river_156 : decode cX7_river 156 = .ok (.iload 4, 2) := by decide +kernel
theorem dX7_river_158 : decode cX7_river 158 = .ok (.invokevirtual 121, 3) := by decide +kernel
theorem dX7_river_161 : decode cX7_river 161 = .ok (.goto 16, 3) := by decide +kernel
theorem dX7_river_164 : decode cX7_river 164 = .ok (.iload 4, 2) := by decide +kernel
theorem dX7_river_166 : decode cX7_river 166 = .ok (.aload_n 0, 1) := by decide +kernel
theorem dX7_river_167 : decode cX7_river 167 = .ok (.aload_n 0, 1) := by decide +kernel
theorem dX7_river_168 : decode cX7_river 168 = .ok (.iload 4, 2) := by decide +kernel
theorem dX7_river_170 : decode cX7_river 170 = .ok (.invokevirtual 121, 3) := by decide +kernel
theorem dX7_river_173 : decode cX7_river 173 = .ok (.invokevirtual 73, 3) := by decide +kernel
theorem dX7_river_176 : decode cX7_river 176 = .ok (.isub, 1) := by decide +kernel
theorem dX7_river_177 : decode cX7_river 177 = .ok (.ireturn, 1) := by decide +kernel
set_option maxRecDepth 20000 in
theorem ggX7_at_X7_isLine : GoodIn wsX7_at wsX7_isLine := goodIn_r _ [6, 1, 7, 8, 5, 9, 42, 43, 44, 45, 46, 47, 48, 49, 50, 51, 52, 53, 54, 55, 56, 57, 58, 59, 60] (by decide +kernel) (by decide +kernel)
set_option maxRecDepth 20000 in
theorem gX7_at_X7_isLine : GoodIn wsX7_at (wsV RX7 96 RX7 yX7_isLine wsX7_isLine) := goodIn_app (goodIn_of _ (by decide +kernel)) ggX7_at_X7_isLine
set_option maxRecDepth 20000 in
theorem ggX7_at_X7_in : GoodIn wsX7_at wsX7_in := goodIn_r _ [9] (by decide +kernel) (by decide +kernel)
set_option maxRecDepth 20000 in
theorem gX7_at_X7_in : GoodIn wsX7_at (va_wsS RX7 50 yX7_in wsX7_in) := goodIn_app (goodIn_of _ (by decide +kernel)) ggX7_at_X7_in
set_option maxRecDepth 20000 in
theorem ggX7_at_X7_laysAll : GoodIn wsX7_at wsX7_laysAll := goodIn_r _ [13, 1, 14, 15, 16, 5, 17, 18, 19, 20, 21, 22, 23, 24, 25, 26, 27, 28, 29, 30, 31, 32, 33, 34, 35, 36, 37, 42, 43, 44, 45, 46, 47, 48, 49, 50, 51, 52, 53, 54, 55, 56, 57, 58, 59, 60] (by decide +kernel) (by decide +kernel)
set_option maxRecDepth 20000 in
theorem gX7_at_X7_laysAll : GoodIn wsX7_at (wsV RX7 106 RX7 yX7_laysAll wsX7_laysAll) := goodIn_app (goodIn_of _ (by decide +kernel)) ggX7_at_X7_laysAll
set_option maxRecDepth 20000 in
theorem ggX7_at_X7_first : GoodIn wsX7_at wsX7_first := goodIn_r _ [17, 1, 42, 43, 44, 45, 46, 47, 48, 49, 50, 51, 52, 53, 54, 55, 56, 57, 58, 59, 60] (by decide +kernel) (by decide +kernel)
set_option maxRecDepth 20000 in
theorem gX7_at_X7_first : GoodIn wsX7_at (wsV RX7 73 RX7 yX7_first wsX7_first) := goodIn_app (goodIn_of _ (by decide +kernel)) ggX7_at_X7_first
set_option maxRecDepth 20000 in
theorem ggX7_at_X7_behind : GoodIn wsX7_at wsX7_behind := goodIn_r _ [21, 1, 42, 43, 44, 45, 46, 47, 48, 49, 50, 51, 52, 53, 54, 55, 56, 57, 58, 59, 60] (by decide +kernel) (by decide +kernel)
set_option maxRecDepth 20000 in
theorem gX7_at_X7_behind : GoodIn wsX7_at (wsV RX7 76 RX7 yX7_behind wsX7_behind) := goodIn_app (goodIn_of _ (by decide +kernel)) ggX7_at_X7_behind
set_option maxRecDepth 20000 in
theorem ggX7_at_X7_columnIn : GoodIn wsX7_at wsX7_columnIn := goodIn_r _ [41, 26, 1, 42, 43, 44, 45, 46, 47, 48, 49, 50, 51, 52, 53, 54, 55, 56, 57, 58, 59, 60] (by decide +kernel) (by decide +kernel)
set_option maxRecDepth 20000 in
theorem gX7_at_X7_columnIn : GoodIn wsX7_at (wsV RX7 127 RX7 yX7_columnIn wsX7_columnIn) := goodIn_app (goodIn_of _ (by decide +kernel)) ggX7_at_X7_columnIn
theorem dX7_at_0 : decode cX7_at 0 = .ok (.aload_n 0, 1) := by decide +kernel
theorem dX7_at_1 : decode cX7_at 1 = .ok (.iload_n 1, 1) := by decide +kernel
theorem dX7_at_2 : decode cX7_at 2 = .ok (.invokevirtual 96, 3) := by decide +kernel
theorem dX7_at_5 : decode cX7_at 5 = .ok (.ifCond .eq 19, 3) := by decide +kernel
theorem dX7_at_8 : decode cX7_at 8 = .ok (.iload_n 2, 1) := by decide +kernel
theorem dX7_at_9 : decode cX7_at 9 = .ok (.iconst 0, 1) := by decide +kernel
theorem dX7_at_10 : decode cX7_at 10 = .ok (.aload_n 0, 1) := by decide +kernel
theorem dX7_at_11 : decode cX7_at 11 = .ok (.getfield 7, 3) := by decide +kernel
theorem dX7_at_14 : decode cX7_at 14 = .ok (.iconst 1, 1) := by decide +kernel
theorem dX7_at_15 : decode cX7_at 15 = .ok (.iaload, 1) := by decide +kernel
theorem dX7_at_16 : decode cX7_at 16 = .ok (.iconst 1, 1) := by decide +kernel
theorem dX7_at_17 : decode cX7_at 17 = .ok (.isub, 1) := by decide +kernel
theorem dX7_at_18 : decode cX7_at 18 = .ok (.invokestatic 50, 3) := by decide +kernel
theorem dX7_at_21 : decode cX7_at 21 = .ok (.ifCond .ne 5, 3) := by decide +kernel
theorem dX7_at_24 : decode cX7_at 24 = .ok (.iconst (-1), 1) := by decide +kernel
theorem dX7_at_25 : decode cX7_at 25 = .ok (.ireturn, 1) := by decide +kernel
theorem dX7_at_26 : decode cX7_at 26 = .ok (.aload_n 0, 1) := by decide +kernel
theorem dX7_at_27 : decode cX7_at 27 = .ok (.invokevirtual 106, 3) := by decide +kernel
theorem dX7_at_30 : decode cX7_at 30 = .ok (.pop, 1) := by decide +kernel
theorem dX7_at_31 : decode cX7_at 31 = .ok (.aload_n 0, 1) := by decide +kernel
theorem dX7_at_32 : decode cX7_at 32 = .ok (.iload_n 1, 1) := by decide +kernel
theorem dX7_at_33 : decode cX7_at 33 = .ok (.invokevirtual 73, 3) := by decide +kernel
theorem dX7_at_36 : decode cX7_at 36 = .ok (.istore_n 3, 1) := by decide +kernel
theorem dX7_at_37 : decode cX7_at 37 = .ok (.iload_n 3, 1) := by decide +kernel
theorem dX7_at_38 : decode cX7_at 38 = .ok (.aload_n 0, 1) := by decide +kernel
theorem dX7_at_39 : decode cX7_at 39 = .ok (.iload_n 1, 1) := by decide +kernel
theorem dX7_at_40 : decode cX7_at 40 = .ok (.invokevirtual 76, 3) := by decide +kernel
theorem dX7_at_43 : decode cX7_at 43 = .ok (.if_icmp .ge 20, 3) := by decide +kernel
theorem dX7_at_46 : decode cX7_at 46 = .ok (.aload_n 0, 1) := by decide +kernel
theorem dX7_at_47 : decode cX7_at 47 = .ok (.iload_n 3, 1) := by decide +kernel
theorem dX7_at_48 : decode cX7_at 48 = .ok (.iload_n 2, 1) := by decide +kernel
theorem dX7_at_49 : decode cX7_at 49 = .ok (.invokevirtual 127, 3) := by decide +kernel
theorem dX7_at_52 : decode cX7_at 52 = .ok (.ifCond .eq 5, 3) := by decide +kernel
theorem dX7_at_55 : decode cX7_at 55 = .ok (.iload_n 3, 1) := by decide +kernel
theorem dX7_at_56 : decode cX7_at 56 = .ok (.ireturn, 1) := by decide +kernel
theorem dX7_at_57 : decode cX7_at 57 = .ok (.iinc 3 1, 3) := by decide +kernel
theorem dX7_at_60 : decode cX7_at 60 = .ok (.goto (-23), 3) := by decide +kernel
theorem dX7_at_63 : decode cX7_at 63 = .ok (.bipush (-4), 2) := by decide +kernel
theorem dX7_at_65 : decode cX7_at 65 = .ok (.ireturn, 1) := by decide +kernel
theorem dX7_columnIn_0 : decode cX7_columnIn 0 = .ok (.iload_n 2, 1) := by decide +kernel
theorem dX7_columnIn_1 : decode cX7_columnIn 1 = .ok (.aload_n 0, 1) := by decide +kernel
theorem dX7_columnIn_2 : decode cX7_columnIn 2 = .ok (.getfield 20, 3) := by decide +kernel
theorem dX7_columnIn_5 : decode cX7_columnIn 5 = .ok (.iload_n 1, 1) := by decide +kernel
theorem dX7_columnIn_6 : decode cX7_columnIn 6 = .ok (.iaload, 1) := by decide +kernel
theorem dX7_columnIn_7 : decode cX7_columnIn 7 = .ok (.if_icmp .lt 26, 3) := by decide +kernel
theorem dX7_columnIn_10 : decode cX7_columnIn 10 = .ok (.iload_n 2, 1) := by decide +kernel
theorem dX7_columnIn_11 : decode cX7_columnIn 11 = .ok (.aload_n 0, 1) := by decide +kernel
theorem dX7_columnIn_12 : decode cX7_columnIn 12 = .ok (.getfield 20, 3) := by decide +kernel
theorem dX7_columnIn_15 : decode cX7_columnIn 15 = .ok (.iload_n 1, 1) := by decide +kernel
theorem dX7_columnIn_16 : decode cX7_columnIn 16 = .ok (.iaload, 1) := by decide +kernel
theorem dX7_columnIn_17 : decode cX7_columnIn 17 = .ok (.aload_n 0, 1) := by decide +kernel
theorem dX7_columnIn_18 : decode cX7_columnIn 18 = .ok (.getfield 7, 3) := by decide +kernel
theorem dX7_columnIn_21 : decode cX7_columnIn 21 = .ok (.iconst 4, 1) := by decide +kernel
theorem dX7_columnIn_22 : decode cX7_columnIn 22 = .ok (.iload_n 1, 1) := by decide +kernel
theorem dX7_columnIn_23 : decode cX7_columnIn 23 = .ok (.iadd, 1) := by decide +kernel
theorem dX7_columnIn_24 : decode cX7_columnIn 24 = .ok (.iaload, 1) := by decide +kernel
theorem dX7_columnIn_25 : decode cX7_columnIn 25 = .ok (.iadd, 1) := by decide +kernel
theorem dX7_columnIn_26 : decode cX7_columnIn 26 = .ok (.if_icmp .ge 7, 3) := by decide +kernel
theorem dX7_columnIn_29 : decode cX7_columnIn 29 = .ok (.iconst 1, 1) := by decide +kernel
theorem dX7_columnIn_30 : decode cX7_columnIn 30 = .ok (.goto 4, 3) := by decide +kernel
theorem dX7_columnIn_33 : decode cX7_columnIn 33 = .ok (.iconst 0, 1) := by decide +kernel
theorem dX7_columnIn_34 : decode cX7_columnIn 34 = .ok (.ireturn, 1) := by decide +kernel
set_option maxRecDepth 20000 in
theorem ggX7_nowLine_X7_first : GoodIn wsX7_nowLine wsX7_first := goodIn_r _ [6, 1, 11, 12, 13, 14, 15, 16, 17, 18, 19, 20, 21, 22, 23, 24, 25, 26, 27, 28, 29] (by decide +kernel) (by decide +kernel)
set_option maxRecDepth 20000 in
theorem gX7_nowLine_X7_first : GoodIn wsX7_nowLine (wsV RX7 73 RX7 yX7_first wsX7_first) := goodIn_app (goodIn_of _ (by decide +kernel)) ggX7_nowLine_X7_first
set_option maxRecDepth 20000 in
theorem ggX7_nowLine_X7_behind : GoodIn wsX7_nowLine wsX7_behind := goodIn_r _ [10, 1, 11, 12, 13, 14, 15, 16, 17, 18, 19, 20, 21, 22, 23, 24, 25, 26, 27, 28, 29] (by decide +kernel) (by decide +kernel)
set_option maxRecDepth 20000 in
theorem gX7_nowLine_X7_behind : GoodIn wsX7_nowLine (wsV RX7 76 RX7 yX7_behind wsX7_behind) := goodIn_app (goodIn_of _ (by decide +kernel)) ggX7_nowLine_X7_behind
theorem dX7_nowLine_0 : decode cX7_nowLine 0 = .ok (.iconst 0, 1) := by decide +kernel
theorem dX7_nowLine_1 : decode cX7_nowLine 1 = .ok (.istore_n 3, 1) := by decide +kernel
theorem dX7_nowLine_2 : decode cX7_nowLine 2 = .ok (.iload_n 3, 1) := by decide +kernel
theorem dX7_nowLine_3 : decode cX7_nowLine 3 = .ok (.aload_n 0, 1) := by decide +kernel
theorem dX7_nowLine_4 : decode cX7_nowLine 4 = .ok (.getfield 7, 3) := by decide +kernel
theorem dX7_nowLine_7 : decode cX7_nowLine 7 = .ok (.iconst 3, 1) := by decide +kernel
theorem dX7_nowLine_8 : decode cX7_nowLine 8 = .ok (.iaload, 1) := by decide +kernel
theorem dX7_nowLine_9 : decode cX7_nowLine 9 = .ok (.if_icmp .ge 29, 3) := by decide +kernel
theorem dX7_nowLine_12 : decode cX7_nowLine 12 = .ok (.aload_n 0, 1) := by decide +kernel
theorem dX7_nowLine_13 : decode cX7_nowLine 13 = .ok (.iload_n 3, 1) := by decide +kernel
theorem dX7_nowLine_14 : decode cX7_nowLine 14 = .ok (.invokevirtual 73, 3) := by decide +kernel
theorem dX7_nowLine_17 : decode cX7_nowLine 17 = .ok (.iload_n 1, 1) := by decide +kernel
theorem dX7_nowLine_18 : decode cX7_nowLine 18 = .ok (.if_icmp .ne 14, 3) := by decide +kernel
theorem dX7_nowLine_21 : decode cX7_nowLine 21 = .ok (.aload_n 0, 1) := by decide +kernel
theorem dX7_nowLine_22 : decode cX7_nowLine 22 = .ok (.iload_n 3, 1) := by decide +kernel
theorem dX7_nowLine_23 : decode cX7_nowLine 23 = .ok (.invokevirtual 76, 3) := by decide +kernel
theorem dX7_nowLine_26 : decode cX7_nowLine 26 = .ok (.iload_n 2, 1) := by decide +kernel
theorem dX7_nowLine_27 : decode cX7_nowLine 27 = .ok (.if_icmp .ne 5, 3) := by decide +kernel
theorem dX7_nowLine_30 : decode cX7_nowLine 30 = .ok (.iload_n 3, 1) := by decide +kernel
theorem dX7_nowLine_31 : decode cX7_nowLine 31 = .ok (.ireturn, 1) := by decide +kernel
theorem dX7_nowLine_32 : decode cX7_nowLine 32 = .ok (.iinc 3 1, 3) := by decide +kernel
theorem dX7_nowLine_35 : decode cX7_nowLine 35 = .ok (.goto (-33), 3) := by decide +kernel
theorem dX7_nowLine_38 : decode cX7_nowLine 38 = .ok (.iconst (-1), 1) := by decide +kernel
theorem dX7_nowLine_39 : decode cX7_nowLine 39 = .ok (.ireturn, 1) := by decide +kernel
set_option maxRecDepth 20000 in
theorem ggX7_may_X7_nowLine : GoodIn wsX7_may wsX7_nowLine := goodIn_r _ [6, 1, 7, 8, 9, 5, 10, 11, 12, 13, 14, 19, 20, 21, 22, 23, 24, 25, 26, 27, 28, 29, 30, 31, 32, 33, 34, 35, 36, 37] (by decide +kernel) (by decide +kernel)
set_option maxRecDepth 20000 in
theorem gX7_may_X7_nowLine : GoodIn wsX7_may (wsV RX7 130 RX7 yX7_nowLine wsX7_nowLine) := goodIn_app (goodIn_of _ (by decide +kernel)) ggX7_may_X7_nowLine
set_option maxRecDepth 20000 in
theorem ggX7_may_X7_first : GoodIn wsX7_may wsX7_first := goodIn_r _ [10, 1, 19, 20, 21, 22, 23, 24, 25, 26, 27, 28, 29, 30, 31, 32, 33, 34, 35, 36, 37] (by decide +kernel) (by decide +kernel)
set_option maxRecDepth 20000 in
theorem gX7_may_X7_first : GoodIn wsX7_may (wsV RX7 73 RX7 yX7_first wsX7_first) := goodIn_app (goodIn_of _ (by decide +kernel)) ggX7_may_X7_first
set_option maxRecDepth 20000 in
theorem ggX7_may_X7_behind : GoodIn wsX7_may wsX7_behind := goodIn_r _ [14, 1, 19, 20, 21, 22, 23, 24, 25, 26, 27, 28, 29, 30, 31, 32, 33, 34, 35, 36, 37] (by decide +kernel) (by decide +kernel)
set_option maxRecDepth 20000 in
theorem gX7_may_X7_behind : GoodIn wsX7_may (wsV RX7 76 RX7 yX7_behind wsX7_behind) := goodIn_app (goodIn_of _ (by decide +kernel)) ggX7_may_X7_behind
set_option maxRecDepth 20000 in
theorem ggX7_may_X7_needs : GoodIn wsX7_may wsX7_needs := goodIn_r _ [18, 1, 19, 20, 21, 22, 23, 24, 25, 26, 27, 28, 29, 30, 31, 32, 33, 34, 35, 36, 37] (by decide +kernel) (by decide +kernel)
set_option maxRecDepth 20000 in
theorem gX7_may_X7_needs : GoodIn wsX7_may (wsV RX7 58 RX7 yX7_needs wsX7_needs) := goodIn_app (goodIn_of _ (by decide +kernel)) ggX7_may_X7_needs
theorem dX7_may_0 : decode cX7_may 0 = .ok (.aload_n 0, 1) := by decide +kernel
theorem dX7_may_1 : decode cX7_may 1 = .ok (.iload_n 1, 1) := by decide +kernel
theorem dX7_may_2 : decode cX7_may 2 = .ok (.iload_n 2, 1) := by decide +kernel
theorem dX7_may_3 : decode cX7_may 3 = .ok (.invokevirtual 130, 3) := by decide +kernel
theorem dX7_may_6 : decode cX7_may 6 = .ok (.istore_n 3, 1) := by decide +kernel
theorem dX7_may_7 : decode cX7_may 7 = .ok (.iload_n 3, 1) := by decide +kernel
theorem dX7_may_8 : decode cX7_may 8 = .ok (.iconst (-1), 1) := by decide +kernel
theorem dX7_may_9 : decode cX7_may 9 = .ok (.if_icmp .eq 18, 3) := by decide +kernel
theorem dX7_may_12 : decode cX7_may 12 = .ok (.aload_n 0, 1) := by decide +kernel
theorem dX7_may_13 : decode cX7_may 13 = .ok (.getfield 7, 3) := by decide +kernel
theorem dX7_may_16 : decode cX7_may 16 = .ok (.bipush 53, 2) := by decide +kernel
theorem dX7_may_18 : decode cX7_may 18 = .ok (.iload_n 3, 1) := by decide +kernel
theorem dX7_may_19 : decode cX7_may 19 = .ok (.iadd, 1) := by decide +kernel
theorem dX7_may_20 : decode cX7_may 20 = .ok (.iaload, 1) := by decide +kernel
theorem dX7_may_21 : decode cX7_may 21 = .ok (.iconst 1, 1) := by decide +kernel
theorem dX7_may_22 : decode cX7_may 22 = .ok (.if_icmp .ne 5, 3) := by decide +kernel
theorem dX7_may_25 : decode cX7_may 25 = .ok (.iconst 1, 1) := by decide +kernel
theorem dX7_may_26 : decode cX7_may 26 = .ok (.ireturn, 1) := by decide +kernel
theorem dX7_may_27 : decode cX7_may 27 = .ok (.iconst 0, 1) := by decide +kernel
theorem dX7_may_28 : decode cX7_may 28 = .ok (.istore 4, 2) := by decide +kernel
theorem dX7_may_30 : decode cX7_may 30 = .ok (.iload 4, 2) := by decide +kernel
theorem dX7_may_32 : decode cX7_may 32 = .ok (.aload_n 0, 1) := by decide +kernel
theorem dX7_may_33 : decode cX7_may 33 = .ok (.getfield 7, 3) := by decide +kernel
theorem dX7_may_36 : decode cX7_may 36 = .ok (.iconst 3, 1) := by decide +kernel
theorem dX7_may_37 : decode cX7_may 37 = .ok (.iaload, 1) := by decide +kernel
theorem dX7_may_38 : decode cX7_may 38 = .ok (.if_icmp .ge 45, 3) := by decide +kernel
theorem dX7_may_41 : decode cX7_may 41 = .ok (.aload_n 0, 1) := by decide +kernel
theorem dX7_may_42 : decode cX7_may 42 = .ok (.getfield 7, 3) := by decide +kernel
theorem dX7_may_45 : decode cX7_may 45 = .ok (.bipush 53, 2) := by decide +kernel
theorem dX7_may_47 : decode cX7_may 47 = .ok (.iload 4, 2) := by decide +kernel
theorem dX7_may_49 : decode cX7_may 49 = .ok (.iadd, 1) := by decide +kernel
theorem dX7_may_50 : decode cX7_may 50 = .ok (.iaload, 1) := by decide +kernel
theorem dX7_may_51 : decode cX7_may 51 = .ok (.iconst 1, 1) := by decide +kernel
theorem dX7_may_52 : decode cX7_may 52 = .ok (.if_icmp .ne 25, 3) := by decide +kernel
theorem dX7_may_55 : decode cX7_may 55 = .ok (.aload_n 0, 1) := by decide +kernel
theorem dX7_may_56 : decode cX7_may 56 = .ok (.iload 4, 2) := by decide +kernel
theorem dX7_may_58 : decode cX7_may 58 = .ok (.invokevirtual 73, 3) := by decide +kernel
theorem dX7_may_61 : decode cX7_may 61 = .ok (.iload_n 2, 1) := by decide +kernel
theorem dX7_may_62 : decode cX7_may 62 = .ok (.if_icmp .ge 15, 3) := by decide +kernel
theorem dX7_may_65 : decode cX7_may 65 = .ok (.aload_n 0, 1) := by decide +kernel
theorem dX7_may_66 : decode cX7_may 66 = .ok (.iload 4, 2) := by decide +kernel
theorem dX7_may_68 : decode cX7_may 68 = .ok (.invokevirtual 76, 3) := by decide +kernel
theorem dX7_may_71 : decode cX7_may 71 = .ok (.iload_n 1, 1) := by decide +kernel
theorem dX7_may_72 : decode cX7_may 72 = .ok (.if_icmp .le 5, 3) := by decide +kernel
theorem dX7_may_75 : decode cX7_may 75 = .ok (.iconst 0, 1) := by decide +kernel
theorem dX7_may_76 : decode cX7_may 76 = .ok (.ireturn, 1) := by decide +kernel
theorem dX7_may_77 : decode cX7_may 77 = .ok (.iinc 4 1, 3) := by decide +kernel
theorem dX7_may_80 : decode cX7_may 80 = .ok (.goto (-50), 3) := by decide +kernel
theorem dX7_may_83 : decode cX7_may 83 = .ok (.iload_n 2, 1) := by decide +kernel
theorem dX7_may_84 : decode cX7_may 84 = .ok (.aload_n 0, 1) := by decide +kernel
theorem dX7_may_85 : decode cX7_may 85 = .ok (.getfield 7, 3) := by decide +kernel
theorem dX7_may_88 : decode cX7_may 88 = .ok (.iconst 0, 1) := by decide +kernel
theorem dX7_may_89 : decode cX7_may 89 = .ok (.iaload, 1) := by decide +kernel
theorem dX7_may_90 : decode cX7_may 90 = .ok (.if_icmp .eq 25, 3) := by decide +kernel
theorem dX7_may_93 : decode cX7_may 93 = .ok (.aload_n 0, 1) := by decide +kernel
theorem dX7_may_94 : decode cX7_may 94 = .ok (.getfield 7, 3) := by decide +kernel
theorem dX7_may_97 : decode cX7_may 97 = .ok (.iconst 1, 1) := by decide +kernel
theorem dX7_may_98 : decode cX7_may 98 = .ok (.iaload, 1) := by decide +kernel
theorem dX7_may_99 : decode cX7_may 99 = .ok (.aload_n 0, 1) := by decide +kernel
theorem dX7_may_100 : decode cX7_may 100 = .ok (.iload_n 1, 1) := by decide +kernel
theorem dX7_may_101 : decode cX7_may 101 = .ok (.iload_n 2, 1) := by decide +kernel
theorem dX7_may_102 : decode cX7_may 102 = .ok (.invokevirtual 58, 3) := by decide +kernel
theorem dX7_may_105 : decode cX7_may 105 = .ok (.isub, 1) := by decide +kernel
theorem dX7_may_106 : decode cX7_may 106 = .ok (.aload_n 0, 1) := by decide +kernel
theorem dX7_may_107 : decode cX7_may 107 = .ok (.getfield 7, 3) := by decide +kernel
theorem dX7_may_110 : decode cX7_may 110 = .ok (.iconst 2, 1) := by decide +kernel
theorem dX7_may_111 : decode cX7_may 111 = .ok (.iaload, 1) := by decide +kernel
theorem dX7_may_112 : decode cX7_may 112 = .ok (.if_icmp .gt 7, 3) := by decide +kernel
theorem dX7_may_115 : decode cX7_may 115 = .ok (.iconst 1, 1) := by decide +kernel
theorem dX7_may_116 : decode cX7_may 116 = .ok (.goto 4, 3) := by decide +kernel
theorem dX7_may_119 : decode cX7_may 119 = .ok (.iconst 0, 1) := by decide +kernel
theorem dX7_may_120 : decode cX7_may 120 = .ok (.ireturn, 1) := by decide +kernel
theorem dX7_takes_0 : decode cX7_takes 0 = .ok (.aload_n 0, 1) := by decide +kernel
theorem dX7_takes_1 : decode cX7_takes 1 = .ok (.iload_n 1, 1) := by decide +kernel
theorem dX7_takes_2 : decode cX7_takes 2 = .ok (.putfield 133, 3) := by decide +kernel
theorem dX7_takes_5 : decode cX7_takes 5 = .ok (.aload_n 0, 1) := by decide +kernel
theorem dX7_takes_6 : decode cX7_takes 6 = .ok (.aload_n 0, 1) := by decide +kernel
theorem dX7_takes_7 : decode cX7_takes 7 = .ok (.getfield 38, 3) := by decide +kernel
theorem dX7_takes_10 : decode cX7_takes 10 = .ok (.iload_n 1, 1) := by decide +kernel
theorem dX7_takes_11 : decode cX7_takes 11 = .ok (.iaload, 1) := by decide +kernel
theorem dX7_takes_12 : decode cX7_takes 12 = .ok (.putfield 136, 3) := by decide +kernel
theorem dX7_takes_15 : decode cX7_takes 15 = .ok (.aload_n 0, 1) := by decide +kernel
theorem dX7_takes_16 : decode cX7_takes 16 = .ok (.aload_n 0, 1) := by decide +kernel
theorem dX7_takes_17 : decode cX7_takes 17 = .ok (.getfield 41, 3) := by decide +kernel
theorem dX7_takes_20 : decode cX7_takes 20 = .ok (.iload_n 1, 1) := by decide +kernel
theorem dX7_takes_21 : decode cX7_takes 21 = .ok (.iaload, 1) := by decide +kernel
theorem dX7_takes_22 : decode cX7_takes 22 = .ok (.putfield 139, 3) := by decide +kernel
theorem dX7_takes_25 : decode cX7_takes 25 = .ok (.aload_n 0, 1) := by decide +kernel
theorem dX7_takes_26 : decode cX7_takes 26 = .ok (.aload_n 0, 1) := by decide +kernel
theorem dX7_takes_27 : decode cX7_takes 27 = .ok (.getfield 44, 3) := by decide +kernel
theorem dX7_takes_30 : decode cX7_takes 30 = .ok (.iload_n 1, 1) := by decide +kernel
theorem dX7_takes_31 : decode cX7_takes 31 = .ok (.iaload, 1) := by decide +kernel
theorem dX7_takes_32 : decode cX7_takes 32 = .ok (.putfield 142, 3) := by decide +kernel
theorem dX7_takes_35 : decode cX7_takes 35 = .ok (.iconst 0, 1) := by decide +kernel
theorem dX7_takes_36 : decode cX7_takes 36 = .ok (.istore_n 2, 1) := by decide +kernel
theorem dX7_takes_37 : decode cX7_takes 37 = .ok (.iload_n 2, 1) := by decide +kernel
theorem dX7_takes_38 : decode cX7_takes 38 = .ok (.iload_n 1, 1) := by decide +kernel
theorem dX7_takes_39 : decode cX7_takes 39 = .ok (.if_icmp .gt 21, 3) := by decide +kernel
theorem dX7_takes_42 : decode cX7_takes 42 = .ok (.aload_n 0, 1) := by decide +kernel
theorem dX7_takes_43 : decode cX7_takes 43 = .ok (.getfield 47, 3) := by decide +kernel
theorem dX7_takes_46 : decode cX7_takes 46 = .ok (.iload_n 2, 1) := by decide +kernel
theorem dX7_takes_47 : decode cX7_takes 47 = .ok (.aload_n 0, 1) := by decide +kernel
theorem dX7_takes_48 : decode cX7_takes 48 = .ok (.getfield 32, 3) := by decide +kernel
theorem dX7_takes_51 : decode cX7_takes 51 = .ok (.iload_n 2, 1) := by decide +kernel
theorem dX7_takes_52 : decode cX7_takes 52 = .ok (.iaload, 1) := by decide +kernel
theorem dX7_takes_53 : decode cX7_takes 53 = .ok (.iastore, 1) := by decide +kernel
theorem dX7_takes_54 : decode cX7_takes 54 = .ok (.iinc 2 1, 3) := by decide +kernel
theorem dX7_takes_57 : decode cX7_takes 57 = .ok (.goto (-20), 3) := by decide +kernel
theorem dX7_takes_60 : decode cX7_takes 60 = .ok (.return_, 1) := by decide +kernel
set_option maxRecDepth 20000 in
theorem ggX7_plans_X7_mostFrom : GoodIn wsX7_plans wsX7_mostFrom := goodIn_r _ [13, 4, 14, 15, 16, 12, 17, 18, 19, 20, 21, 57, 58, 59, 60, 61, 62, 63, 64, 65, 66, 67, 68, 69, 70, 71, 72, 73, 74, 75] (by decide +kernel) (by decide +kernel)
set_option maxRecDepth 20000 in
theorem gX7_plans_X7_mostFrom : GoodIn wsX7_plans (wsV RX7 66 RX7 yX7_mostFrom wsX7_mostFrom) := goodIn_app (goodIn_of _ (by decide +kernel)) ggX7_plans_X7_mostFrom
set_option maxRecDepth 20000 in
theorem ggX7_plans_X7_takes : GoodIn wsX7_plans wsX7_takes := goodIn_r _ [25, 26, 5, 1, 6, 7, 8, 27, 28, 3, 57, 58, 59, 60, 61, 62, 63, 64, 65, 66, 67, 68, 69, 70, 71, 72, 73, 74, 75] (by decide +kernel) (by decide +kernel)
set_option maxRecDepth 20000 in
theorem gX7_plans_X7_takes : GoodIn wsX7_plans (wsV RX7 145 RX7 yX7_takes wsX7_takes) := goodIn_app (goodIn_of _ (by decide +kernel)) ggX7_plans_X7_takes
set_option maxRecDepth 20000 in
theorem ggX7_plans_X7_may : GoodIn wsX7_plans wsX7_may := goodIn_r _ [32, 4, 33, 34, 35, 12, 36, 37, 38, 39, 40, 41, 42, 43, 44, 18, 19, 20, 21, 57, 58, 59, 60, 61, 62, 63, 64, 65, 66, 67, 68, 69, 70, 71, 72, 73, 74, 75] (by decide +kernel) (by decide +kernel)
set_option maxRecDepth 20000 in
theorem gX7_plans_X7_may : GoodIn wsX7_plans (wsV RX7 149 RX7 yX7_may wsX7_may) := goodIn_app (goodIn_of _ (by decide +kernel)) ggX7_plans_X7_may
set_option maxRecDepth 20000 in
theorem ggX7_plans_X7_lays : GoodIn wsX7_plans wsX7_lays := goodIn_r _ [48, 4, 49, 50, 51, 52, 18, 19, 20, 12, 21, 53, 54, 55, 56, 57, 58, 59, 60, 61, 62, 63, 64, 65, 66, 67, 68, 69, 70, 71, 72, 73, 74, 75] (by decide +kernel) (by decide +kernel)
set_option maxRecDepth 20000 in
theorem gX7_plans_X7_lays : GoodIn wsX7_plans (wsV RX7 79 RX7 yX7_lays wsX7_lays) := goodIn_app (goodIn_of _ (by decide +kernel)) ggX7_plans_X7_lays
set_option maxRecDepth 20000 in
theorem ggX7_plans_X7_needs : GoodIn wsX7_plans wsX7_needs := goodIn_r _ [21, 4, 57, 58, 59, 60, 61, 62, 63, 64, 65, 66, 67, 68, 69, 70, 71, 72, 73, 74, 75] (by decide +kernel) (by decide +kernel)
set_option maxRecDepth 20000 in
theorem gX7_plans_X7_needs : GoodIn wsX7_plans (wsV RX7 58 RX7 yX7_needs wsX7_needs) := goodIn_app (goodIn_of _ (by decide +kernel)) ggX7_plans_X7_needs
set_option maxRecDepth 20000 in
theorem ggX7_plans_X7_nowLine : GoodIn wsX7_plans wsX7_nowLine := goodIn_r _ [36, 4, 37, 38, 39, 12, 40, 41, 42, 43, 44, 57, 58, 59, 60, 61, 62, 63, 64, 65, 66, 67, 68, 69, 70, 71, 72, 73, 74, 75] (by decide +kernel) (by decide +kernel)
set_option maxRecDepth 20000 in
theorem gX7_plans_X7_nowLine : GoodIn wsX7_plans (wsV RX7 130 RX7 yX7_nowLine wsX7_nowLine) := goodIn_app (goodIn_of _ (by decide +kernel)) ggX7_plans_X7_nowLine
theorem dX7_plans_0 : decode cX7_plans 0 = .ok (.aload_n 0, 1) := by decide +kernel
theorem dX7_plans_1 : decode cX7_plans 1 = .ok (.iconst (-1), 1) := by decide +kernel
theorem dX7_plans_2 : decode cX7_plans 2 = .ok (.putfield 136, 3) := by decide +kernel
theorem dX7_plans_5 : decode cX7_plans 5 = .ok (.iconst 0, 1) := by decide +kernel
theorem dX7_plans_6 : decode cX7_plans 6 = .ok (.istore_n 2, 1) := by decide +kernel
theorem dX7_plans_7 : decode cX7_plans 7 = .ok (.aload_n 0, 1) := by decide +kernel
theorem dX7_plans_8 : decode cX7_plans 8 = .ok (.getfield 35, 3) := by decide +kernel
theorem dX7_plans_11 : decode cX7_plans 11 = .ok (.iconst 0, 1) := by decide +kernel
theorem dX7_plans_12 : decode cX7_plans 12 = .ok (.aload_n 0, 1) := by decide +kernel
theorem dX7_plans_13 : decode cX7_plans 13 = .ok (.iconst 0, 1) := by decide +kernel
theorem dX7_plans_14 : decode cX7_plans 14 = .ok (.invokevirtual 66, 3) := by decide +kernel
theorem dX7_plans_17 : decode cX7_plans 17 = .ok (.iastore, 1) := by decide +kernel
theorem dX7_plans_18 : decode cX7_plans 18 = .ok (.iload_n 2, 1) := by decide +kernel
theorem dX7_plans_19 : decode cX7_plans 19 = .ok (.ifCond .lt 310, 3) := by decide +kernel
theorem dX7_plans_22 : decode cX7_plans 22 = .ok (.aload_n 0, 1) := by decide +kernel
theorem dX7_plans_23 : decode cX7_plans 23 = .ok (.getfield 32, 3) := by decide +kernel
theorem dX7_plans_26 : decode cX7_plans 26 = .ok (.iload_n 2, 1) := by decide +kernel
theorem dX7_plans_27 : decode cX7_plans 27 = .ok (.iaload, 1) := by decide +kernel
theorem dX7_plans_28 : decode cX7_plans 28 = .ok (.istore_n 3, 1) := by decide +kernel
theorem dX7_plans_29 : decode cX7_plans 29 = .ok (.iload_n 3, 1) := by decide +kernel
theorem dX7_plans_30 : decode cX7_plans 30 = .ok (.aload_n 0, 1) := by decide +kernel
theorem dX7_plans_31 : decode cX7_plans 31 = .ok (.getfield 7, 3) := by decide +kernel
theorem dX7_plans_34 : decode cX7_plans 34 = .ok (.iconst 0, 1) := by decide +kernel
theorem dX7_plans_35 : decode cX7_plans 35 = .ok (.iaload, 1) := by decide +kernel
theorem dX7_plans_36 : decode cX7_plans 36 = .ok (.if_icmp .ne 55, 3) := by decide +kernel
theorem dX7_plans_39 : decode cX7_plans 39 = .ok (.aload_n 0, 1) := by decide +kernel
theorem dX7_plans_40 : decode cX7_plans 40 = .ok (.getfield 136, 3) := by decide +kernel
theorem dX7_plans_43 : decode cX7_plans 43 = .ok (.iconst (-1), 1) := by decide +kernel
theorem dX7_plans_44 : decode cX7_plans 44 = .ok (.if_icmp .eq 42, 3) := by decide +kernel
theorem dX7_plans_47 : decode cX7_plans 47 = .ok (.aload_n 0, 1) := by decide +kernel
theorem dX7_plans_48 : decode cX7_plans 48 = .ok (.getfield 38, 3) := by decide +kernel
theorem dX7_plans_51 : decode cX7_plans 51 = .ok (.iload_n 2, 1) := by decide +kernel
theorem dX7_plans_52 : decode cX7_plans 52 = .ok (.iaload, 1) := by decide +kernel
theorem dX7_plans_53 : decode cX7_plans 53 = .ok (.aload_n 0, 1) := by decide +kernel
theorem dX7_plans_54 : decode cX7_plans 54 = .ok (.getfield 136, 3) := by decide +kernel
theorem dX7_plans_57 : decode cX7_plans 57 = .ok (.if_icmp .lt 29, 3) := by decide +kernel
theorem dX7_plans_60 : decode cX7_plans 60 = .ok (.aload_n 0, 1) := by decide +kernel
theorem dX7_plans_61 : decode cX7_plans 61 = .ok (.getfield 38, 3) := by decide +kernel
theorem dX7_plans_64 : decode cX7_plans 64 = .ok (.iload_n 2, 1) := by decide +kernel
theorem dX7_plans_65 : decode cX7_plans 65 = .ok (.iaload, 1) := by decide +kernel
theorem dX7_plans_66 : decode cX7_plans 66 = .ok (.aload_n 0, 1) := by decide +kernel
theorem dX7_plans_67 : decode cX7_plans 67 = .ok (.getfield 136, 3) := by decide +kernel
theorem dX7_plans_70 : decode cX7_plans 70 = .ok (.if_icmp .ne 21, 3) := by decide +kernel
theorem dX7_plans_73 : decode cX7_plans 73 = .ok (.aload_n 0, 1) := by decide +kernel
theorem dX7_plans_74 : decode cX7_plans 74 = .ok (.getfield 41, 3) := by decide +kernel
theorem dX7_plans_77 : decode cX7_plans 77 = .ok (.iload_n 2, 1) := by decide +kernel
theorem dX7_plans_78 : decode cX7_plans 78 = .ok (.iaload, 1) := by decide +kernel
theorem dX7_plans_79 : decode cX7_plans 79 = .ok (.aload_n 0, 1) := by decide +kernel
theorem dX7_plans_80 : decode cX7_plans 80 = .ok (.getfield 139, 3) := by decide +kernel
theorem dX7_plans_83 : decode cX7_plans 83 = .ok (.if_icmp .ge 8, 3) := by decide +kernel
theorem dX7_plans_86 : decode cX7_plans 86 = .ok (.aload_n 0, 1) := by decide +kernel
theorem dX7_plans_87 : decode cX7_plans 87 = .ok (.iload_n 2, 1) := by decide +kernel
theorem dX7_plans_88 : decode cX7_plans 88 = .ok (.invokevirtual 145, 3) := by decide +kernel
theorem dX7_plans_91 : decode cX7_plans 91 = .ok (.iload_n 3, 1) := by decide +kernel
theorem dX7_plans_92 : decode cX7_plans 92 = .ok (.aload_n 0, 1) := by decide +kernel
theorem dX7_plans_93 : decode cX7_plans 93 = .ok (.getfield 7, 3) := by decide +kernel
theorem dX7_plans_96 : decode cX7_plans 96 = .ok (.iconst 0, 1) := by decide +kernel
theorem dX7_plans_97 : decode cX7_plans 97 = .ok (.iaload, 1) := by decide +kernel
theorem dX7_plans_98 : decode cX7_plans 98 = .ok (.if_icmp .ne 7, 3) := by decide +kernel
theorem dX7_plans_101 : decode cX7_plans 101 = .ok (.iconst 0, 1) := by decide +kernel
theorem dX7_plans_102 : decode cX7_plans 102 = .ok (.goto 9, 3) := by decide +kernel
theorem dX7_plans_105 : decode cX7_plans 105 = .ok (.aload_n 0, 1) := by decide +kernel
theorem dX7_plans_106 : decode cX7_plans 106 = .ok (.getfield 35, 3) := by decide +kernel
theorem dX7_plans_109 : decode cX7_plans 109 = .ok (.iload_n 2, 1) := by decide +kernel
theorem dX7_plans_110 : decode cX7_plans 110 = .ok (.iaload, 1) := by decide +kernel
theorem dX7_plans_111 : decode cX7_plans 111 = .ok (.istore 4, 2) := by decide +kernel
theorem dX7_plans_113 : decode cX7_plans 113 = .ok (.iload 4, 2) := by decide +kernel
theorem dX7_plans_115 : decode cX7_plans 115 = .ok (.ifCond .ne 9, 3) := by decide +kernel
theorem dX7_plans_118 : decode cX7_plans 118 = .ok (.iinc 2 (-1), 3) := by decide +kernel
theorem dX7_plans_121 : decode cX7_plans 121 = .ok (.goto 205, 3) := by decide +kernel
theorem dX7_plans_124 : decode cX7_plans 124 = .ok (.aload_n 0, 1) := by decide +kernel
theorem dX7_plans_125 : decode cX7_plans 125 = .ok (.getfield 35, 3) := by decide +kernel
theorem dX7_plans_128 : decode cX7_plans 128 = .ok (.iload_n 2, 1) := by decide +kernel
theorem dX7_plans_129 : decode cX7_plans 129 = .ok (.dup2, 1) := by decide +kernel
theorem dX7_plans_130 : decode cX7_plans 130 = .ok (.iaload, 1) := by decide +kernel
theorem dX7_plans_131 : decode cX7_plans 131 = .ok (.iconst 1, 1) := by decide +kernel
theorem dX7_plans_132 : decode cX7_plans 132 = .ok (.isub, 1) := by decide +kernel
theorem dX7_plans_133 : decode cX7_plans 133 = .ok (.iastore, 1) := by decide +kernel
theorem dX7_plans_134 : decode cX7_plans 134 = .ok (.iload_n 3, 1) := by decide +kernel
theorem dX7_plans_135 : decode cX7_plans 135 = .ok (.iload 4, 2) := by decide +kernel
theorem dX7_plans_137 : decode cX7_plans 137 = .ok (.iadd, 1) := by decide +kernel
theorem dX7_plans_138 : decode cX7_plans 138 = .ok (.istore 5, 2) := by decide +kernel
theorem dX7_plans_140 : decode cX7_plans 140 = .ok (.aload_n 0, 1) := by decide +kernel
theorem dX7_plans_141 : decode cX7_plans 141 = .ok (.iload_n 3, 1) := by decide +kernel
theorem dX7_plans_142 : decode cX7_plans 142 = .ok (.iload 5, 2) := by decide +kernel
theorem dX7_plans_144 : decode cX7_plans 144 = .ok (.invokevirtual 149, 3) := by decide +kernel
theorem dX7_plans_147 : decode cX7_plans 147 = .ok (.ifCond .eq 29, 3) := by decide +kernel
theorem dX7_plans_150 : decode cX7_plans 150 = .ok (.aload_n 0, 1) := by decide +kernel
theorem dX7_plans_151 : decode cX7_plans 151 = .ok (.iload_n 2, 1) := by decide +kernel
theorem dX7_plans_152 : decode cX7_plans 152 = .ok (.ifCond .ne 7, 3) := by decide +kernel
theorem dX7_plans_155 : decode cX7_plans 155 = .ok (.iconst 0, 1) := by decide +kernel
theorem dX7_plans_156 : decode cX7_plans 156 = .ok (.goto 11, 3) := by decide +kernel
theorem dX7_plans_159 : decode cX7_plans 159 = .ok (.aload_n 0, 1) := by decide +kernel
theorem dX7_plans_160 : decode cX7_plans 160 = .ok (.getfield 32, 3) := by decide +kernel
theorem dX7_plans_163 : decode cX7_plans 163 = .ok (.iload_n 2, 1) := by decide +kernel
theorem dX7_plans_164 : decode cX7_plans 164 = .ok (.iconst 1, 1) := by decide +kernel
theorem dX7_plans_165 : decode cX7_plans 165 = .ok (.isub, 1) := by decide +kernel
theorem dX7_plans_166 : decode cX7_plans 166 = .ok (.iaload, 1) := by decide +kernel
theorem dX7_plans_167 : decode cX7_plans 167 = .ok (.iload_n 3, 1) := by decide +kernel
theorem dX7_plans_168 : decode cX7_plans 168 = .ok (.iload 5, 2) := by decide +kernel
theorem dX7_plans_170 : decode cX7_plans 170 = .ok (.invokevirtual 79, 3) := by decide +kernel
theorem dX7_plans_173 : decode cX7_plans 173 = .ok (.goto 6, 3) := by decide +kernel
theorem dX7_plans_176 : decode cX7_plans 176 = .ok (.iload_n 1, 1) := by decide +kernel
theorem dX7_plans_177 : decode cX7_plans 177 = .ok (.iconst 1, 1) := by decide +kernel
theorem dX7_plans_178 : decode cX7_plans 178 = .ok (.iadd, 1) := by decide +kernel
theorem dX7_plans_179 : decode cX7_plans 179 = .ok (.istore 6, 2) := by decide +kernel
theorem dX7_plans_181 : decode cX7_plans 181 = .ok (.iload 6, 2) := by decide +kernel
theorem dX7_plans_183 : decode cX7_plans 183 = .ok (.iload_n 1, 1) := by decide +kernel
theorem dX7_plans_184 : decode cX7_plans 184 = .ok (.if_icmp .gt 142, 3) := by decide +kernel
theorem dX7_plans_187 : decode cX7_plans 187 = .ok (.iload 5, 2) := by decide +kernel
theorem dX7_plans_189 : decode cX7_plans 189 = .ok (.aload_n 0, 1) := by decide +kernel
theorem dX7_plans_190 : decode cX7_plans 190 = .ok (.getfield 7, 3) := by decide +kernel
theorem dX7_plans_193 : decode cX7_plans 193 = .ok (.iconst 0, 1) := by decide +kernel
theorem dX7_plans_194 : decode cX7_plans 194 = .ok (.iaload, 1) := by decide +kernel
theorem dX7_plans_195 : decode cX7_plans 195 = .ok (.if_icmp .ne 7, 3) := by decide +kernel
theorem dX7_plans_198 : decode cX7_plans 198 = .ok (.iconst 0, 1) := by decide +kernel
theorem dX7_plans_199 : decode cX7_plans 199 = .ok (.goto 17, 3) := by decide +kernel
theorem dX7_plans_202 : decode cX7_plans 202 = .ok (.aload_n 0, 1) := by decide +kernel
theorem dX7_plans_203 : decode cX7_plans 203 = .ok (.getfield 7, 3) := by decide +kernel
theorem dX7_plans_206 : decode cX7_plans 206 = .ok (.iconst 1, 1) := by decide +kernel
theorem dX7_plans_207 : decode cX7_plans 207 = .ok (.iaload, 1) := by decide +kernel
theorem dX7_plans_208 : decode cX7_plans 208 = .ok (.aload_n 0, 1) := by decide +kernel
theorem dX7_plans_209 : decode cX7_plans 209 = .ok (.iload_n 3, 1) := by decide +kernel
theorem dX7_plans_210 : decode cX7_plans 210 = .ok (.iload 5, 2) := by decide +kernel
theorem dX7_plans_212 : decode cX7_plans 212 = .ok (.invokevirtual 58, 3) := by decide +kernel
theorem dX7_plans_215 : decode cX7_plans 215 = .ok (.isub, 1) := by decide +kernel
theorem dX7_plans_216 : decode cX7_plans 216 = .ok (.istore 7, 2) := by decide +kernel
theorem dX7_plans_218 : decode cX7_plans 218 = .ok (.aload_n 0, 1) := by decide +kernel
theorem dX7_plans_219 : decode cX7_plans 219 = .ok (.getfield 32, 3) := by decide +kernel
theorem dX7_plans_222 : decode cX7_plans 222 = .ok (.iload_n 2, 1) := by decide +kernel
theorem dX7_plans_223 : decode cX7_plans 223 = .ok (.iconst 1, 1) := by decide +kernel
theorem dX7_plans_224 : decode cX7_plans 224 = .ok (.iadd, 1) := by decide +kernel
theorem dX7_plans_225 : decode cX7_plans 225 = .ok (.iload 5, 2) := by decide +kernel
theorem dX7_plans_227 : decode cX7_plans 227 = .ok (.iastore, 1) := by decide +kernel
theorem dX7_plans_228 : decode cX7_plans 228 = .ok (.aload_n 0, 1) := by decide +kernel
theorem dX7_plans_229 : decode cX7_plans 229 = .ok (.getfield 35, 3) := by decide +kernel
theorem dX7_plans_232 : decode cX7_plans 232 = .ok (.iload_n 2, 1) := by decide +kernel
theorem dX7_plans_233 : decode cX7_plans 233 = .ok (.iconst 1, 1) := by decide +kernel
theorem dX7_plans_234 : decode cX7_plans 234 = .ok (.iadd, 1) := by decide +kernel
theorem dX7_plans_235 : decode cX7_plans 235 = .ok (.aload_n 0, 1) := by decide +kernel
theorem dX7_plans_236 : decode cX7_plans 236 = .ok (.iload 5, 2) := by decide +kernel
theorem dX7_plans_238 : decode cX7_plans 238 = .ok (.invokevirtual 66, 3) := by decide +kernel
theorem dX7_plans_241 : decode cX7_plans 241 = .ok (.iastore, 1) := by decide +kernel
theorem dX7_plans_242 : decode cX7_plans 242 = .ok (.aload_n 0, 1) := by decide +kernel
theorem dX7_plans_243 : decode cX7_plans 243 = .ok (.getfield 38, 3) := by decide +kernel
theorem dX7_plans_246 : decode cX7_plans 246 = .ok (.iload_n 2, 1) := by decide +kernel
theorem dX7_plans_247 : decode cX7_plans 247 = .ok (.iconst 1, 1) := by decide +kernel
theorem dX7_plans_248 : decode cX7_plans 248 = .ok (.iadd, 1) := by decide +kernel
theorem dX7_plans_249 : decode cX7_plans 249 = .ok (.aload_n 0, 1) := by decide +kernel
theorem dX7_plans_250 : decode cX7_plans 250 = .ok (.getfield 38, 3) := by decide +kernel
theorem dX7_plans_253 : decode cX7_plans 253 = .ok (.iload_n 2, 1) := by decide +kernel
theorem dX7_plans_254 : decode cX7_plans 254 = .ok (.iaload, 1) := by decide +kernel
theorem dX7_plans_255 : decode cX7_plans 255 = .ok (.aload_n 0, 1) := by decide +kernel
theorem dX7_plans_256 : decode cX7_plans 256 = .ok (.iload_n 3, 1) := by decide +kernel
theorem dX7_plans_257 : decode cX7_plans 257 = .ok (.iload 5, 2) := by decide +kernel
theorem dX7_plans_259 : decode cX7_plans 259 = .ok (.invokevirtual 130, 3) := by decide +kernel
theorem dX7_plans_262 : decode cX7_plans 262 = .ok (.iconst (-1), 1) := by decide +kernel
theorem dX7_plans_263 : decode cX7_plans 263 = .ok (.if_icmp .ne 7, 3) := by decide +kernel
theorem dX7_plans_266 : decode cX7_plans 266 = .ok (.iconst 1, 1) := by decide +kernel
theorem dX7_plans_267 : decode cX7_plans 267 = .ok (.goto 4, 3) := by decide +kernel
theorem dX7_plans_270 : decode cX7_plans 270 = .ok (.iconst 0, 1) := by decide +kernel
theorem dX7_plans_271 : decode cX7_plans 271 = .ok (.iadd, 1) := by decide +kernel
theorem dX7_plans_272 : decode cX7_plans 272 = .ok (.iastore, 1) := by decide +kernel
theorem dX7_plans_273 : decode cX7_plans 273 = .ok (.aload_n 0, 1) := by decide +kernel
theorem dX7_plans_274 : decode cX7_plans 274 = .ok (.getfield 41, 3) := by decide +kernel
theorem dX7_plans_277 : decode cX7_plans 277 = .ok (.iload_n 2, 1) := by decide +kernel
theorem dX7_plans_278 : decode cX7_plans 278 = .ok (.iconst 1, 1) := by decide +kernel
theorem dX7_plans_279 : decode cX7_plans 279 = .ok (.iadd, 1) := by decide +kernel
theorem dX7_plans_280 : decode cX7_plans 280 = .ok (.aload_n 0, 1) := by decide +kernel
theorem dX7_plans_281 : decode cX7_plans 281 = .ok (.getfield 41, 3) := by decide +kernel
theorem dX7_plans_284 : decode cX7_plans 284 = .ok (.iload_n 2, 1) := by decide +kernel
theorem dX7_plans_285 : decode cX7_plans 285 = .ok (.iaload, 1) := by decide +kernel
theorem dX7_plans_286 : decode cX7_plans 286 = .ok (.iload 7, 2) := by decide +kernel
theorem dX7_plans_288 : decode cX7_plans 288 = .ok (.iload 7, 2) := by decide +kernel
theorem dX7_plans_290 : decode cX7_plans 290 = .ok (.imul, 1) := by decide +kernel
theorem dX7_plans_291 : decode cX7_plans 291 = .ok (.iadd, 1) := by decide +kernel
theorem dX7_plans_292 : decode cX7_plans 292 = .ok (.iastore, 1) := by decide +kernel
theorem dX7_plans_293 : decode cX7_plans 293 = .ok (.aload_n 0, 1) := by decide +kernel
theorem dX7_plans_294 : decode cX7_plans 294 = .ok (.getfield 44, 3) := by decide +kernel
theorem dX7_plans_297 : decode cX7_plans 297 = .ok (.iload_n 2, 1) := by decide +kernel
theorem dX7_plans_298 : decode cX7_plans 298 = .ok (.iconst 1, 1) := by decide +kernel
theorem dX7_plans_299 : decode cX7_plans 299 = .ok (.iadd, 1) := by decide +kernel
theorem dX7_plans_300 : decode cX7_plans 300 = .ok (.iload 6, 2) := by decide +kernel
theorem dX7_plans_302 : decode cX7_plans 302 = .ok (.aload_n 0, 1) := by decide +kernel
theorem dX7_plans_303 : decode cX7_plans 303 = .ok (.getfield 44, 3) := by decide +kernel
theorem dX7_plans_306 : decode cX7_plans 306 = .ok (.iload_n 2, 1) := by decide +kernel
theorem dX7_plans_307 : decode cX7_plans 307 = .ok (.iaload, 1) := by decide +kernel
theorem dX7_plans_308 : decode cX7_plans 308 = .ok (.if_icmp .le 8, 3) := by decide +kernel
theorem dX7_plans_311 : decode cX7_plans 311 = .ok (.iload 6, 2) := by decide +kernel
theorem dX7_plans_313 : decode cX7_plans 313 = .ok (.goto 9, 3) := by decide +kernel
theorem dX7_plans_316 : decode cX7_plans 316 = .ok (.aload_n 0, 1) := by decide +kernel
theorem dX7_plans_317 : decode cX7_plans 317 = .ok (.getfield 44, 3) := by decide +kernel
theorem dX7_plans_320 : decode cX7_plans 320 = .ok (.iload_n 2, 1) := by decide +kernel
theorem dX7_plans_321 : decode cX7_plans 321 = .ok (.iaload, 1) := by decide +kernel
theorem dX7_plans_322 : decode cX7_plans 322 = .ok (.iastore, 1) := by decide +kernel
theorem dX7_plans_323 : decode cX7_plans 323 = .ok (.iinc 2 1, 3) := by decide +kernel
theorem dX7_plans_326 : decode cX7_plans 326 = .ok (.goto (-308), 3) := by decide +kernel
theorem dX7_plans_329 : decode cX7_plans 329 = .ok (.aload_n 0, 1) := by decide +kernel
theorem dX7_plans_330 : decode cX7_plans 330 = .ok (.getfield 136, 3) := by decide +kernel
theorem dX7_plans_333 : decode cX7_plans 333 = .ok (.iconst (-1), 1) := by decide +kernel
theorem dX7_plans_334 : decode cX7_plans 334 = .ok (.if_icmp .eq 7, 3) := by decide +kernel
theorem dX7_plans_337 : decode cX7_plans 337 = .ok (.iconst 1, 1) := by decide +kernel
theorem dX7_plans_338 : decode cX7_plans 338 = .ok (.goto 4, 3) := by decide +kernel
theorem dX7_plans_341 : decode cX7_plans 341 = .ok (.iconst 0, 1) := by decide +kernel
theorem dX7_plans_342 : decode cX7_plans 342 = .ok (.ireturn, 1) := by decide +kernel
set_option maxRecDepth 20000 in
theorem ggX7_isLength_X7_in : GoodIn wsX7_isLength wsX7_in := goodIn_r _ [4] (by decide +kernel) (by decide +kernel)
set_option maxRecDepth 20000 in
theorem gX7_isLength_X7_in : GoodIn wsX7_isLength (va_wsS RX7 50 yX7_in wsX7_in) := goodIn_app (goodIn_of _ (by decide +kernel)) ggX7_isLength_X7_in
theorem dX7_isLength_0 : decode cX7_isLength 0 = .ok (.iload_n 0, 1) := by decide +kernel
theorem dX7_isLength_1 : decode cX7_isLength 1 = .ok (.iconst 1, 1) := by decide +kernel
theorem dX7_isLength_2 : decode cX7_isLength 2 = .ok (.bipush 24, 2) := by decide +kernel
theorem dX7_isLength_4 : decode cX7_isLength 4 = .ok (.invokestatic 50, 3) := by decide +kernel
theorem dX7_isLength_7 : decode cX7_isLength 7 = .ok (.ireturn, 1) := by decide +kernel
set_option maxRecDepth 20000 in
theorem ggX7_plan_X7_isLength : GoodIn wsX7_plan wsX7_isLength := goodIn_r _ [8, 9, 10, 7, 11] (by decide +kernel) (by decide +kernel)
set_option maxRecDepth 20000 in
theorem gX7_plan_X7_isLength : GoodIn wsX7_plan (va_wsS RX7 152 yX7_isLength wsX7_isLength) := goodIn_app (goodIn_of _ (by decide +kernel)) ggX7_plan_X7_isLength
set_option maxRecDepth 20000 in
theorem ggX7_plan_X7_in : GoodIn wsX7_plan wsX7_in := goodIn_r _ [11] (by decide +kernel) (by decide +kernel)
set_option maxRecDepth 20000 in
theorem gX7_plan_X7_in : GoodIn wsX7_plan (va_wsS RX7 50 yX7_in wsX7_in) := goodIn_app (goodIn_of _ (by decide +kernel)) ggX7_plan_X7_in
set_option maxRecDepth 20000 in
theorem ggX7_plan_X7_plans : GoodIn wsX7_plan wsX7_plans := goodIn_r _ [15, 1, 16, 17, 18, 19, 20, 3, 21, 22, 23, 24, 7, 25, 26, 27, 28, 29, 30, 31, 32, 33, 34, 35, 36, 37, 2, 4, 38, 39, 40, 41, 42, 43, 44, 45, 46, 47, 48, 49, 50, 51, 52, 53, 54, 55, 56, 57, 58, 59, 60, 61, 62, 63, 64, 65, 66, 67, 68, 69, 70, 71, 72, 73, 74, 75, 76, 77, 78, 79, 80, 81, 82, 83, 84, 85] (by decide +kernel) (by decide +kernel)
set_option maxRecDepth 20000 in
theorem gX7_plan_X7_plans : GoodIn wsX7_plan (wsV RX7 155 RX7 yX7_plans wsX7_plans) := goodIn_app (goodIn_of _ (by decide +kernel)) ggX7_plan_X7_plans
theorem dX7_plan_0 : decode cX7_plan 0 = .ok (.iload_n 1, 1) := by decide +kernel
theorem dX7_plan_1 : decode cX7_plan 1 = .ok (.invokestatic 152, 3) := by decide +kernel
theorem dX7_plan_4 : decode cX7_plan 4 = .ok (.ifCond .eq 12, 3) := by decide +kernel
theorem dX7_plan_7 : decode cX7_plan 7 = .ok (.iload_n 2, 1) := by decide +kernel
theorem dX7_plan_8 : decode cX7_plan 8 = .ok (.iconst 0, 1) := by decide +kernel
theorem dX7_plan_9 : decode cX7_plan 9 = .ok (.iconst 3, 1) := by decide +kernel
theorem dX7_plan_10 : decode cX7_plan 10 = .ok (.invokestatic 50, 3) := by decide +kernel
theorem dX7_plan_13 : decode cX7_plan 13 = .ok (.ifCond .ne 5, 3) := by decide +kernel
theorem dX7_plan_16 : decode cX7_plan 16 = .ok (.iconst (-1), 1) := by decide +kernel
theorem dX7_plan_17 : decode cX7_plan 17 = .ok (.ireturn, 1) := by decide +kernel
theorem dX7_plan_18 : decode cX7_plan 18 = .ok (.aload_n 0, 1) := by decide +kernel
theorem dX7_plan_19 : decode cX7_plan 19 = .ok (.iload_n 1, 1) := by decide +kernel
theorem dX7_plan_20 : decode cX7_plan 20 = .ok (.invokevirtual 155, 3) := by decide +kernel
theorem dX7_plan_23 : decode cX7_plan 23 = .ok (.ifCond .ne 6, 3) := by decide +kernel
theorem dX7_plan_26 : decode cX7_plan 26 = .ok (.bipush (-4), 2) := by decide +kernel
theorem dX7_plan_28 : decode cX7_plan 28 = .ok (.ireturn, 1) := by decide +kernel
theorem dX7_plan_29 : decode cX7_plan 29 = .ok (.iload_n 2, 1) := by decide +kernel
theorem dX7_plan_30 : decode cX7_plan 30 = .ok (.ifCond .ne 10, 3) := by decide +kernel
theorem dX7_plan_33 : decode cX7_plan 33 = .ok (.aload_n 0, 1) := by decide +kernel
theorem dX7_plan_34 : decode cX7_plan 34 = .ok (.getfield 136, 3) := by decide +kernel
theorem dX7_plan_37 : decode cX7_plan 37 = .ok (.goto 31, 3) := by decide +kernel
theorem dX7_plan_40 : decode cX7_plan 40 = .ok (.iload_n 2, 1) := by decide +kernel
theorem dX7_plan_41 : decode cX7_plan 41 = .ok (.iconst 1, 1) := by decide +kernel
theorem dX7_plan_42 : decode cX7_plan 42 = .ok (.if_icmp .ne 10, 3) := by decide +kernel
theorem dX7_plan_45 : decode cX7_plan 45 = .ok (.aload_n 0, 1) := by decide +kernel
theorem dX7_plan_46 : decode cX7_plan 46 = .ok (.getfield 133, 3) := by decide +kernel
theorem dX7_plan_49 : decode cX7_plan 49 = .ok (.goto 19, 3) := by decide +kernel
theorem dX7_plan_52 : decode cX7_plan 52 = .ok (.iload_n 2, 1) := by decide +kernel
theorem dX7_plan_53 : decode cX7_plan 53 = .ok (.iconst 2, 1) := by decide +kernel
theorem dX7_plan_54 : decode cX7_plan 54 = .ok (.if_icmp .ne 10, 3) := by decide +kernel
theorem dX7_plan_57 : decode cX7_plan 57 = .ok (.aload_n 0, 1) := by decide +kernel
theorem dX7_plan_58 : decode cX7_plan 58 = .ok (.getfield 139, 3) := by decide +kernel
theorem dX7_plan_61 : decode cX7_plan 61 = .ok (.goto 7, 3) := by decide +kernel
theorem dX7_plan_64 : decode cX7_plan 64 = .ok (.aload_n 0, 1) := by decide +kernel
theorem dX7_plan_65 : decode cX7_plan 65 = .ok (.getfield 142, 3) := by decide +kernel
theorem dX7_plan_68 : decode cX7_plan 68 = .ok (.ireturn, 1) := by decide +kernel
set_option maxRecDepth 20000 in
theorem ggX7_planned_X7_isLength : GoodIn wsX7_planned wsX7_isLength := goodIn_r _ [6, 7, 8, 5, 9] (by decide +kernel) (by decide +kernel)
set_option maxRecDepth 20000 in
theorem gX7_planned_X7_isLength : GoodIn wsX7_planned (va_wsS RX7 152 yX7_isLength wsX7_isLength) := goodIn_app (goodIn_of _ (by decide +kernel)) ggX7_planned_X7_isLength
set_option maxRecDepth 20000 in
theorem ggX7_planned_X7_plans : GoodIn wsX7_planned wsX7_plans := goodIn_r _ [13, 14, 15, 16, 17, 18, 19, 20, 21, 22, 23, 24, 5, 25, 26, 27, 28, 29, 30, 31, 32, 33, 34, 35, 36, 37, 1, 38, 2, 39, 40, 41, 42, 43, 44, 45, 46, 47, 48, 49, 50, 51, 52, 53, 54, 55, 56, 57, 58, 59, 60, 61, 62, 63, 64, 65, 66, 67, 68, 69, 70, 71, 72, 73, 74, 75, 76, 77, 78, 79, 80, 81, 82, 83, 84, 85] (by decide +kernel) (by decide +kernel)
set_option maxRecDepth 20000 in
theorem gX7_planned_X7_plans : GoodIn wsX7_planned (wsV RX7 155 RX7 yX7_plans wsX7_plans) := goodIn_app (goodIn_of _ (by decide +kernel)) ggX7_planned_X7_plans
theorem dX7_planned_0 : decode cX7_planned 0 = .ok (.iload_n 1, 1) := by decide +kernel
theorem dX7_planned_1 : decode cX7_planned 1 = .ok (.invokestatic 152, 3) := by decide +kernel
theorem dX7_planned_4 : decode cX7_planned 4 = .ok (.ifCond .eq 7, 3) := by decide +kernel
theorem dX7_planned_7 : decode cX7_planned 7 = .ok (.iload_n 2, 1) := by decide +kernel
theorem dX7_planned_8 : decode cX7_planned 8 = .ok (.ifCond .ge 5, 3) := by decide +kernel
theorem dX7_planned_11 : decode cX7_planned 11 = .ok (.iconst (-1), 1) := by decide +kernel
theorem dX7_planned_12 : decode cX7_planned 12 = .ok (.ireturn, 1) := by decide +kernel
theorem dX7_planned_13 : decode cX7_planned 13 = .ok (.aload_n 0, 1) := by decide +kernel
theorem dX7_planned_14 : decode cX7_planned 14 = .ok (.iload_n 1, 1) := by decide +kernel
theorem dX7_planned_15 : decode cX7_planned 15 = .ok (.invokevirtual 155, 3) := by decide +kernel
theorem dX7_planned_18 : decode cX7_planned 18 = .ok (.ifCond .eq 29, 3) := by decide +kernel
theorem dX7_planned_21 : decode cX7_planned 21 = .ok (.iload_n 2, 1) := by decide +kernel
theorem dX7_planned_22 : decode cX7_planned 22 = .ok (.aload_n 0, 1) := by decide +kernel
theorem dX7_planned_23 : decode cX7_planned 23 = .ok (.getfield 133, 3) := by decide +kernel
theorem dX7_planned_26 : decode cX7_planned 26 = .ok (.if_icmp .ge 21, 3) := by decide +kernel
theorem dX7_planned_29 : decode cX7_planned 29 = .ok (.aload_n 0, 1) := by decide +kernel
theorem dX7_planned_30 : decode cX7_planned 30 = .ok (.getfield 47, 3) := by decide +kernel
theorem dX7_planned_33 : decode cX7_planned 33 = .ok (.iload_n 2, 1) := by decide +kernel
theorem dX7_planned_34 : decode cX7_planned 34 = .ok (.iconst 1, 1) := by decide +kernel
theorem dX7_planned_35 : decode cX7_planned 35 = .ok (.iadd, 1) := by decide +kernel
theorem dX7_planned_36 : decode cX7_planned 36 = .ok (.iaload, 1) := by decide +kernel
theorem dX7_planned_37 : decode cX7_planned 37 = .ok (.aload_n 0, 1) := by decide +kernel
theorem dX7_planned_38 : decode cX7_planned 38 = .ok (.getfield 47, 3) := by decide +kernel
theorem dX7_planned_41 : decode cX7_planned 41 = .ok (.iload_n 2, 1) := by decide +kernel
theorem dX7_planned_42 : decode cX7_planned 42 = .ok (.iaload, 1) := by decide +kernel
theorem dX7_planned_43 : decode cX7_planned 43 = .ok (.isub, 1) := by decide +kernel
theorem dX7_planned_44 : decode cX7_planned 44 = .ok (.goto 5, 3) := by decide +kernel
theorem dX7_planned_47 : decode cX7_planned 47 = .ok (.bipush (-4), 2) := by decide +kernel
theorem dX7_planned_49 : decode cX7_planned 49 = .ok (.ireturn, 1) := by decide +kernel
set_option maxRecDepth 20000 in
theorem ggX7_dam_X7_isLength : GoodIn wsX7_dam wsX7_isLength := goodIn_r _ [9, 10, 11, 8, 12] (by decide +kernel) (by decide +kernel)
set_option maxRecDepth 20000 in
theorem gX7_dam_X7_isLength : GoodIn wsX7_dam (va_wsS RX7 152 yX7_isLength wsX7_isLength) := goodIn_app (goodIn_of _ (by decide +kernel)) ggX7_dam_X7_isLength
set_option maxRecDepth 20000 in
theorem ggX7_dam_X7_plans : GoodIn wsX7_dam wsX7_plans := goodIn_r _ [16, 5, 3, 17, 4, 18, 19, 20, 21, 22, 23, 24, 8, 25, 26, 27, 28, 29, 30, 31, 32, 33, 34, 35, 36, 37, 1, 38, 2, 39, 40, 41, 42, 43, 44, 45, 46, 47, 48, 49, 50, 51, 52, 53, 54, 55, 56, 57, 58, 59, 60, 61, 62, 63, 64, 65, 66, 73, 74, 75, 76, 77, 78, 79, 80, 81, 82, 83, 84, 85, 86, 87, 88, 89, 90, 91] (by decide +kernel) (by decide +kernel)
set_option maxRecDepth 20000 in
theorem gX7_dam_X7_plans : GoodIn wsX7_dam (wsV RX7 155 RX7 yX7_plans wsX7_plans) := goodIn_app (goodIn_of _ (by decide +kernel)) ggX7_dam_X7_plans
set_option maxRecDepth 20000 in
theorem ggX7_dam_X7_records : GoodIn wsX7_dam wsX7_records := goodIn_r _ [70, 71, 72, 4, 73, 74, 75, 76, 77, 78, 79, 80, 81, 82, 83, 84, 85, 86, 87, 88, 89, 90, 91] (by decide +kernel) (by decide +kernel)
set_option maxRecDepth 20000 in
theorem gX7_dam_X7_records : GoodIn wsX7_dam (wsV RX7 90 RX7 yX7_records wsX7_records) := goodIn_app (goodIn_of _ (by decide +kernel)) ggX7_dam_X7_records
set_option maxRecDepth 20000 in
theorem ggX7_dam_X7_nowLine : GoodIn wsX7_dam wsX7_nowLine := goodIn_r _ [46, 4, 47, 48, 49, 8, 50, 51, 52, 53, 54, 73, 74, 75, 76, 77, 78, 79, 80, 81, 82, 83, 84, 85, 86, 87, 88, 89, 90, 91] (by decide +kernel) (by decide +kernel)
set_option maxRecDepth 20000 in
theorem gX7_dam_X7_nowLine : GoodIn wsX7_dam (wsV RX7 130 RX7 yX7_nowLine wsX7_nowLine) := goodIn_app (goodIn_of _ (by decide +kernel)) ggX7_dam_X7_nowLine
theorem dX7_dam_0 : decode cX7_dam 0 = .ok (.iload_n 1, 1) := by decide +kernel
theorem dX7_dam_1 : decode cX7_dam 1 = .ok (.invokestatic 152, 3) := by decide +kernel
theorem dX7_dam_4 : decode cX7_dam 4 = .ok (.ifCond .ne 5, 3) := by decide +kernel
theorem dX7_dam_7 : decode cX7_dam 7 = .ok (.iconst (-1), 1) := by decide +kernel
theorem dX7_dam_8 : decode cX7_dam 8 = .ok (.ireturn, 1) := by decide +kernel
theorem dX7_dam_9 : decode cX7_dam 9 = .ok (.aload_n 0, 1) := by decide +kernel
theorem dX7_dam_10 : decode cX7_dam 10 = .ok (.iload_n 1, 1) := by decide +kernel
theorem dX7_dam_11 : decode cX7_dam 11 = .ok (.invokevirtual 155, 3) := by decide +kernel
theorem dX7_dam_14 : decode cX7_dam 14 = .ok (.ifCond .ne 6, 3) := by decide +kernel
theorem dX7_dam_17 : decode cX7_dam 17 = .ok (.bipush (-2), 2) := by decide +kernel
theorem dX7_dam_19 : decode cX7_dam 19 = .ok (.ireturn, 1) := by decide +kernel
theorem dX7_dam_20 : decode cX7_dam 20 = .ok (.aload_n 0, 1) := by decide +kernel
theorem dX7_dam_21 : decode cX7_dam 21 = .ok (.invokevirtual 90, 3) := by decide +kernel
theorem dX7_dam_24 : decode cX7_dam 24 = .ok (.iconst 0, 1) := by decide +kernel
theorem dX7_dam_25 : decode cX7_dam 25 = .ok (.istore_n 2, 1) := by decide +kernel
theorem dX7_dam_26 : decode cX7_dam 26 = .ok (.iload_n 2, 1) := by decide +kernel
theorem dX7_dam_27 : decode cX7_dam 27 = .ok (.aload_n 0, 1) := by decide +kernel
theorem dX7_dam_28 : decode cX7_dam 28 = .ok (.getfield 133, 3) := by decide +kernel
theorem dX7_dam_31 : decode cX7_dam 31 = .ok (.if_icmp .ge 52, 3) := by decide +kernel
theorem dX7_dam_34 : decode cX7_dam 34 = .ok (.aload_n 0, 1) := by decide +kernel
theorem dX7_dam_35 : decode cX7_dam 35 = .ok (.aload_n 0, 1) := by decide +kernel
theorem dX7_dam_36 : decode cX7_dam 36 = .ok (.getfield 47, 3) := by decide +kernel
theorem dX7_dam_39 : decode cX7_dam 39 = .ok (.iload_n 2, 1) := by decide +kernel
theorem dX7_dam_40 : decode cX7_dam 40 = .ok (.iaload, 1) := by decide +kernel
theorem dX7_dam_41 : decode cX7_dam 41 = .ok (.aload_n 0, 1) := by decide +kernel
theorem dX7_dam_42 : decode cX7_dam 42 = .ok (.getfield 47, 3) := by decide +kernel
theorem dX7_dam_45 : decode cX7_dam 45 = .ok (.iload_n 2, 1) := by decide +kernel
theorem dX7_dam_46 : decode cX7_dam 46 = .ok (.iconst 1, 1) := by decide +kernel
theorem dX7_dam_47 : decode cX7_dam 47 = .ok (.iadd, 1) := by decide +kernel
theorem dX7_dam_48 : decode cX7_dam 48 = .ok (.iaload, 1) := by decide +kernel
theorem dX7_dam_49 : decode cX7_dam 49 = .ok (.invokevirtual 130, 3) := by decide +kernel
theorem dX7_dam_52 : decode cX7_dam 52 = .ok (.istore_n 3, 1) := by decide +kernel
theorem dX7_dam_53 : decode cX7_dam 53 = .ok (.aload_n 0, 1) := by decide +kernel
theorem dX7_dam_54 : decode cX7_dam 54 = .ok (.getfield 35, 3) := by decide +kernel
theorem dX7_dam_57 : decode cX7_dam 57 = .ok (.iload_n 2, 1) := by decide +kernel
theorem dX7_dam_58 : decode cX7_dam 58 = .ok (.iload_n 3, 1) := by decide +kernel
theorem dX7_dam_59 : decode cX7_dam 59 = .ok (.iconst (-1), 1) := by decide +kernel
theorem dX7_dam_60 : decode cX7_dam 60 = .ok (.if_icmp .ne 7, 3) := by decide +kernel
theorem dX7_dam_63 : decode cX7_dam 63 = .ok (.iconst 0, 1) := by decide +kernel
theorem dX7_dam_64 : decode cX7_dam 64 = .ok (.goto 12, 3) := by decide +kernel
theorem dX7_dam_67 : decode cX7_dam 67 = .ok (.aload_n 0, 1) := by decide +kernel
theorem dX7_dam_68 : decode cX7_dam 68 = .ok (.getfield 7, 3) := by decide +kernel
theorem dX7_dam_71 : decode cX7_dam 71 = .ok (.bipush 53, 2) := by decide +kernel
theorem dX7_dam_73 : decode cX7_dam 73 = .ok (.iload_n 3, 1) := by decide +kernel
theorem dX7_dam_74 : decode cX7_dam 74 = .ok (.iadd, 1) := by decide +kernel
theorem dX7_dam_75 : decode cX7_dam 75 = .ok (.iaload, 1) := by decide +kernel
theorem dX7_dam_76 : decode cX7_dam 76 = .ok (.iastore, 1) := by decide +kernel
theorem dX7_dam_77 : decode cX7_dam 77 = .ok (.iinc 2 1, 3) := by decide +kernel
theorem dX7_dam_80 : decode cX7_dam 80 = .ok (.goto (-54), 3) := by decide +kernel
theorem dX7_dam_83 : decode cX7_dam 83 = .ok (.aload_n 0, 1) := by decide +kernel
theorem dX7_dam_84 : decode cX7_dam 84 = .ok (.getfield 7, 3) := by decide +kernel
theorem dX7_dam_87 : decode cX7_dam 87 = .ok (.iconst 3, 1) := by decide +kernel
theorem dX7_dam_88 : decode cX7_dam 88 = .ok (.aload_n 0, 1) := by decide +kernel
theorem dX7_dam_89 : decode cX7_dam 89 = .ok (.getfield 133, 3) := by decide +kernel
theorem dX7_dam_92 : decode cX7_dam 92 = .ok (.iastore, 1) := by decide +kernel
theorem dX7_dam_93 : decode cX7_dam 93 = .ok (.iconst 0, 1) := by decide +kernel
theorem dX7_dam_94 : decode cX7_dam 94 = .ok (.istore_n 2, 1) := by decide +kernel
theorem dX7_dam_95 : decode cX7_dam 95 = .ok (.iload_n 2, 1) := by decide +kernel
theorem dX7_dam_96 : decode cX7_dam 96 = .ok (.aload_n 0, 1) := by decide +kernel
theorem dX7_dam_97 : decode cX7_dam 97 = .ok (.getfield 133, 3) := by decide +kernel
theorem dX7_dam_100 : decode cX7_dam 100 = .ok (.if_icmp .ge 39, 3) := by decide +kernel
theorem dX7_dam_103 : decode cX7_dam 103 = .ok (.aload_n 0, 1) := by decide +kernel
theorem dX7_dam_104 : decode cX7_dam 104 = .ok (.getfield 7, 3) := by decide +kernel
theorem dX7_dam_107 : decode cX7_dam 107 = .ok (.bipush 28, 2) := by decide +kernel
theorem dX7_dam_109 : decode cX7_dam 109 = .ok (.iload_n 2, 1) := by decide +kernel
theorem dX7_dam_110 : decode cX7_dam 110 = .ok (.iadd, 1) := by decide +kernel
theorem dX7_dam_111 : decode cX7_dam 111 = .ok (.aload_n 0, 1) := by decide +kernel
theorem dX7_dam_112 : decode cX7_dam 112 = .ok (.getfield 47, 3) := by decide +kernel
theorem dX7_dam_115 : decode cX7_dam 115 = .ok (.iload_n 2, 1) := by decide +kernel
theorem dX7_dam_116 : decode cX7_dam 116 = .ok (.iaload, 1) := by decide +kernel
theorem dX7_dam_117 : decode cX7_dam 117 = .ok (.iastore, 1) := by decide +kernel
theorem dX7_dam_118 : decode cX7_dam 118 = .ok (.aload_n 0, 1) := by decide +kernel
theorem dX7_dam_119 : decode cX7_dam 119 = .ok (.getfield 7, 3) := by decide +kernel
theorem dX7_dam_122 : decode cX7_dam 122 = .ok (.bipush 53, 2) := by decide +kernel
theorem dX7_dam_124 : decode cX7_dam 124 = .ok (.iload_n 2, 1) := by decide +kernel
theorem dX7_dam_125 : decode cX7_dam 125 = .ok (.iadd, 1) := by decide +kernel
theorem dX7_dam_126 : decode cX7_dam 126 = .ok (.aload_n 0, 1) := by decide +kernel
theorem dX7_dam_127 : decode cX7_dam 127 = .ok (.getfield 35, 3) := by decide +kernel
theorem dX7_dam_130 : decode cX7_dam 130 = .ok (.iload_n 2, 1) := by decide +kernel
theorem dX7_dam_131 : decode cX7_dam 131 = .ok (.iaload, 1) := by decide +kernel
theorem dX7_dam_132 : decode cX7_dam 132 = .ok (.iastore, 1) := by decide +kernel
theorem dX7_dam_133 : decode cX7_dam 133 = .ok (.iinc 2 1, 3) := by decide +kernel
theorem dX7_dam_136 : decode cX7_dam 136 = .ok (.goto (-41), 3) := by decide +kernel
theorem dX7_dam_139 : decode cX7_dam 139 = .ok (.aload_n 0, 1) := by decide +kernel
theorem dX7_dam_140 : decode cX7_dam 140 = .ok (.getfield 136, 3) := by decide +kernel
theorem dX7_dam_143 : decode cX7_dam 143 = .ok (.ireturn, 1) := by decide +kernel
set_option maxRecDepth 20000 in
theorem ggX7_leastRiver_X7_plans : GoodIn wsX7_leastRiver wsX7_plans := goodIn_r _ [5, 6, 7, 8, 9, 10, 11, 12, 13, 14, 15, 16, 4, 17, 18, 19, 20, 21, 22, 23, 24, 25, 26, 27, 28, 29, 30, 31, 32, 33, 34, 35, 36, 37, 38, 39, 40, 41, 42, 43, 44, 45, 46, 47, 48, 49, 50, 51, 52, 53, 54, 55, 56, 57, 58, 59, 60, 61, 62, 63, 64, 65, 66, 67, 68, 69, 70, 71, 72, 73, 74, 75, 76, 77, 78, 79] (by decide +kernel) (by decide +kernel)
set_option maxRecDepth 20000 in
theorem gX7_leastRiver_X7_plans : GoodIn wsX7_leastRiver (wsV RX7 155 RX7 yX7_plans wsX7_plans) := goodIn_app (goodIn_of _ (by decide +kernel)) ggX7_leastRiver_X7_plans
theorem dX7_leastRiver_0 : decode cX7_leastRiver 0 = .ok (.iconst 1, 1) := by decide +kernel
theorem dX7_leastRiver_1 : decode cX7_leastRiver 1 = .ok (.istore_n 1, 1) := by decide +kernel
theorem dX7_leastRiver_2 : decode cX7_leastRiver 2 = .ok (.iload_n 1, 1) := by decide +kernel
theorem dX7_leastRiver_3 : decode cX7_leastRiver 3 = .ok (.bipush 24, 2) := by decide +kernel
theorem dX7_leastRiver_5 : decode cX7_leastRiver 5 = .ok (.if_icmp .gt 19, 3) := by decide +kernel
theorem dX7_leastRiver_8 : decode cX7_leastRiver 8 = .ok (.aload_n 0, 1) := by decide +kernel
theorem dX7_leastRiver_9 : decode cX7_leastRiver 9 = .ok (.iload_n 1, 1) := by decide +kernel
theorem dX7_leastRiver_10 : decode cX7_leastRiver 10 = .ok (.invokevirtual 155, 3) := by decide +kernel
theorem dX7_leastRiver_13 : decode cX7_leastRiver 13 = .ok (.ifCond .eq 5, 3) := by decide +kernel
theorem dX7_leastRiver_16 : decode cX7_leastRiver 16 = .ok (.iload_n 1, 1) := by decide +kernel
theorem dX7_leastRiver_17 : decode cX7_leastRiver 17 = .ok (.ireturn, 1) := by decide +kernel
theorem dX7_leastRiver_18 : decode cX7_leastRiver 18 = .ok (.iinc 1 1, 3) := by decide +kernel
theorem dX7_leastRiver_21 : decode cX7_leastRiver 21 = .ok (.goto (-19), 3) := by decide +kernel
theorem dX7_leastRiver_24 : decode cX7_leastRiver 24 = .ok (.bipush (-4), 2) := by decide +kernel
theorem dX7_leastRiver_26 : decode cX7_leastRiver 26 = .ok (.ireturn, 1) := by decide +kernel
set_option maxRecDepth 20000 in
theorem ggX7_type_X7_in : GoodIn wsX7_type wsX7_in := goodIn_r _ [6] (by decide +kernel) (by decide +kernel)
set_option maxRecDepth 20000 in
theorem gX7_type_X7_in : GoodIn wsX7_type (va_wsS RX7 50 yX7_in wsX7_in) := goodIn_app (goodIn_of _ (by decide +kernel)) ggX7_type_X7_in
theorem dX7_type_0 : decode cX7_type 0 = .ok (.iload_n 1, 1) := by decide +kernel
theorem dX7_type_1 : decode cX7_type 1 = .ok (.bipush 32, 2) := by decide +kernel
theorem dX7_type_3 : decode cX7_type 3 = .ok (.bipush 126, 2) := by decide +kernel
theorem dX7_type_5 : decode cX7_type 5 = .ok (.invokestatic 50, 3) := by decide +kernel
theorem dX7_type_8 : decode cX7_type 8 = .ok (.ifCond .ne 5, 3) := by decide +kernel
theorem dX7_type_11 : decode cX7_type 11 = .ok (.iconst (-1), 1) := by decide +kernel
theorem dX7_type_12 : decode cX7_type 12 = .ok (.ireturn, 1) := by decide +kernel
theorem dX7_type_13 : decode cX7_type 13 = .ok (.aload_n 0, 1) := by decide +kernel
theorem dX7_type_14 : decode cX7_type 14 = .ok (.getfield 118, 3) := by decide +kernel
theorem dX7_type_17 : decode cX7_type 17 = .ok (.bipush 100, 2) := by decide +kernel
theorem dX7_type_19 : decode cX7_type 19 = .ok (.if_icmp .ne 6, 3) := by decide +kernel
theorem dX7_type_22 : decode cX7_type 22 = .ok (.bipush (-3), 2) := by decide +kernel
theorem dX7_type_24 : decode cX7_type 24 = .ok (.ireturn, 1) := by decide +kernel
theorem dX7_type_25 : decode cX7_type 25 = .ok (.aload_n 0, 1) := by decide +kernel
theorem dX7_type_26 : decode cX7_type 26 = .ok (.getfield 16, 3) := by decide +kernel
theorem dX7_type_29 : decode cX7_type 29 = .ok (.aload_n 0, 1) := by decide +kernel
theorem dX7_type_30 : decode cX7_type 30 = .ok (.getfield 118, 3) := by decide +kernel
theorem dX7_type_33 : decode cX7_type 33 = .ok (.iload_n 1, 1) := by decide +kernel
theorem dX7_type_34 : decode cX7_type 34 = .ok (.i2c, 1) := by decide +kernel
theorem dX7_type_35 : decode cX7_type 35 = .ok (.castore, 1) := by decide +kernel
theorem dX7_type_36 : decode cX7_type 36 = .ok (.aload_n 0, 1) := by decide +kernel
theorem dX7_type_37 : decode cX7_type 37 = .ok (.dup, 1) := by decide +kernel
theorem dX7_type_38 : decode cX7_type 38 = .ok (.getfield 118, 3) := by decide +kernel
theorem dX7_type_41 : decode cX7_type 41 = .ok (.iconst 1, 1) := by decide +kernel
theorem dX7_type_42 : decode cX7_type 42 = .ok (.iadd, 1) := by decide +kernel
theorem dX7_type_43 : decode cX7_type 43 = .ok (.putfield 118, 3) := by decide +kernel
theorem dX7_type_46 : decode cX7_type 46 = .ok (.aload_n 0, 1) := by decide +kernel
theorem dX7_type_47 : decode cX7_type 47 = .ok (.getfield 118, 3) := by decide +kernel
theorem dX7_type_50 : decode cX7_type 50 = .ok (.ireturn, 1) := by decide +kernel
theorem dX7_clearText_0 : decode cX7_clearText 0 = .ok (.aload_n 0, 1) := by decide +kernel
theorem dX7_clearText_1 : decode cX7_clearText 1 = .ok (.getfield 118, 3) := by decide +kernel
theorem dX7_clearText_4 : decode cX7_clearText 4 = .ok (.istore_n 1, 1) := by decide +kernel
theorem dX7_clearText_5 : decode cX7_clearText 5 = .ok (.aload_n 0, 1) := by decide +kernel
theorem dX7_clearText_6 : decode cX7_clearText 6 = .ok (.iconst 0, 1) := by decide +kernel
theorem dX7_clearText_7 : decode cX7_clearText 7 = .ok (.putfield 118, 3) := by decide +kernel
theorem dX7_clearText_10 : decode cX7_clearText 10 = .ok (.iload_n 1, 1) := by decide +kernel
theorem dX7_clearText_11 : decode cX7_clearText 11 = .ok (.ireturn, 1) := by decide +kernel
theorem dX7_fault_0 : decode cX7_fault 0 = .ok (.iconst 0, 1) := by decide +kernel
theorem dX7_fault_1 : decode cX7_fault 1 = .ok (.istore_n 1, 1) := by decide +kernel
theorem dX7_fault_2 : decode cX7_fault 2 = .ok (.iconst 0, 1) := by decide +kernel
theorem dX7_fault_3 : decode cX7_fault 3 = .ok (.istore_n 2, 1) := by decide +kernel
theorem dX7_fault_4 : decode cX7_fault 4 = .ok (.iconst 0, 1) := by decide +kernel
theorem dX7_fault_5 : decode cX7_fault 5 = .ok (.istore_n 3, 1) := by decide +kernel
theorem dX7_fault_6 : decode cX7_fault 6 = .ok (.iload_n 3, 1) := by decide +kernel
theorem dX7_fault_7 : decode cX7_fault 7 = .ok (.aload_n 0, 1) := by decide +kernel
theorem dX7_fault_8 : decode cX7_fault 8 = .ok (.getfield 118, 3) := by decide +kernel
theorem dX7_fault_11 : decode cX7_fault 11 = .ok (.if_icmp .ge 92, 3) := by decide +kernel
theorem dX7_fault_14 : decode cX7_fault 14 = .ok (.aload_n 0, 1) := by decide +kernel
theorem dX7_fault_15 : decode cX7_fault 15 = .ok (.getfield 16, 3) := by decide +kernel
theorem dX7_fault_18 : decode cX7_fault 18 = .ok (.iload_n 3, 1) := by decide +kernel
theorem dX7_fault_19 : decode cX7_fault 19 = .ok (.caload, 1) := by decide +kernel
theorem dX7_fault_20 : decode cX7_fault 20 = .ok (.bipush 32, 2) := by decide +kernel
theorem dX7_fault_22 : decode cX7_fault 22 = .ok (.if_icmp .ne 7, 3) := by decide +kernel
theorem dX7_fault_25 : decode cX7_fault 25 = .ok (.iconst 1, 1) := by decide +kernel
theorem dX7_fault_26 : decode cX7_fault 26 = .ok (.goto 4, 3) := by decide +kernel
theorem dX7_fault_29 : decode cX7_fault 29 = .ok (.iconst 0, 1) := by decide +kernel
theorem dX7_fault_30 : decode cX7_fault 30 = .ok (.istore 4, 2) := by decide +kernel
theorem dX7_fault_32 : decode cX7_fault 32 = .ok (.iload 4, 2) := by decide +kernel
theorem dX7_fault_34 : decode cX7_fault 34 = .ok (.ifCond .eq 19, 3) := by decide +kernel
theorem dX7_fault_37 : decode cX7_fault 37 = .ok (.iload_n 2, 1) := by decide +kernel
theorem dX7_fault_38 : decode cX7_fault 38 = .ok (.ifCond .eq 13, 3) := by decide +kernel
theorem dX7_fault_41 : decode cX7_fault 41 = .ok (.iload_n 3, 1) := by decide +kernel
theorem dX7_fault_42 : decode cX7_fault 42 = .ok (.iconst 1, 1) := by decide +kernel
theorem dX7_fault_43 : decode cX7_fault 43 = .ok (.iadd, 1) := by decide +kernel
theorem dX7_fault_44 : decode cX7_fault 44 = .ok (.aload_n 0, 1) := by decide +kernel
theorem dX7_fault_45 : decode cX7_fault 45 = .ok (.getfield 118, 3) := by decide +kernel
theorem dX7_fault_48 : decode cX7_fault 48 = .ok (.if_icmp .ne 5, 3) := by decide +kernel
theorem dX7_fault_51 : decode cX7_fault 51 = .ok (.iload_n 3, 1) := by decide +kernel
theorem dX7_fault_52 : decode cX7_fault 52 = .ok (.ireturn, 1) := by decide +kernel
theorem dX7_fault_53 : decode cX7_fault 53 = .ok (.iload_n 1, 1) := by decide +kernel
theorem dX7_fault_54 : decode cX7_fault 54 = .ok (.iload 4, 2) := by decide +kernel
theorem dX7_fault_56 : decode cX7_fault 56 = .ok (.ifCond .ne 11, 3) := by decide +kernel
theorem dX7_fault_59 : decode cX7_fault 59 = .ok (.iload_n 2, 1) := by decide +kernel
theorem dX7_fault_60 : decode cX7_fault 60 = .ok (.ifCond .ne 7, 3) := by decide +kernel
theorem dX7_fault_63 : decode cX7_fault 63 = .ok (.iconst 1, 1) := by decide +kernel
theorem dX7_fault_64 : decode cX7_fault 64 = .ok (.goto 4, 3) := by decide +kernel
theorem dX7_fault_67 : decode cX7_fault 67 = .ok (.iconst 0, 1) := by decide +kernel
theorem dX7_fault_68 : decode cX7_fault 68 = .ok (.iadd, 1) := by decide +kernel
theorem dX7_fault_69 : decode cX7_fault 69 = .ok (.istore_n 1, 1) := by decide +kernel
theorem dX7_fault_70 : decode cX7_fault 70 = .ok (.iload 4, 2) := by decide +kernel
theorem dX7_fault_72 : decode cX7_fault 72 = .ok (.ifCond .eq 7, 3) := by decide +kernel
theorem dX7_fault_75 : decode cX7_fault 75 = .ok (.iconst 0, 1) := by decide +kernel
theorem dX7_fault_76 : decode cX7_fault 76 = .ok (.goto 6, 3) := by decide +kernel
theorem dX7_fault_79 : decode cX7_fault 79 = .ok (.iload_n 2, 1) := by decide +kernel
theorem dX7_fault_80 : decode cX7_fault 80 = .ok (.iconst 1, 1) := by decide +kernel
theorem dX7_fault_81 : decode cX7_fault 81 = .ok (.iadd, 1) := by decide +kernel
theorem dX7_fault_82 : decode cX7_fault 82 = .ok (.istore_n 2, 1) := by decide +kernel
theorem dX7_fault_83 : decode cX7_fault 83 = .ok (.iload_n 2, 1) := by decide +kernel
theorem dX7_fault_84 : decode cX7_fault 84 = .ok (.bipush 8, 2) := by decide +kernel
theorem dX7_fault_86 : decode cX7_fault 86 = .ok (.if_icmp .gt 9, 3) := by decide +kernel
theorem dX7_fault_89 : decode cX7_fault 89 = .ok (.iload_n 1, 1) := by decide +kernel
theorem dX7_fault_90 : decode cX7_fault 90 = .ok (.bipush 24, 2) := by decide +kernel
theorem dX7_fault_92 : decode cX7_fault 92 = .ok (.if_icmp .le 5, 3) := by decide +kernel
theorem dX7_fault_95 : decode cX7_fault 95 = .ok (.iload_n 3, 1) := by decide +kernel
theorem dX7_fault_96 : decode cX7_fault 96 = .ok (.ireturn, 1) := by decide +kernel
theorem dX7_fault_97 : decode cX7_fault 97 = .ok (.iinc 3 1, 3) := by decide +kernel
theorem dX7_fault_100 : decode cX7_fault 100 = .ok (.goto (-94), 3) := by decide +kernel
theorem dX7_fault_103 : decode cX7_fault 103 = .ok (.bipush (-4), 2) := by decide +kernel
theorem dX7_fault_105 : decode cX7_fault 105 = .ok (.ireturn, 1) := by decide +kernel
set_option maxRecDepth 20000 in
theorem ggX7_read_X7_fault : GoodIn wsX7_read wsX7_fault := goodIn_r _ [8, 2, 3, 31, 32, 33, 34, 35, 36, 37, 38, 39, 40, 41, 42, 43, 44, 45, 46, 47, 48, 49] (by decide +kernel) (by decide +kernel)
set_option maxRecDepth 20000 in
theorem gX7_read_X7_fault : GoodIn wsX7_read (wsV RX7 158 RX7 yX7_fault wsX7_fault) := goodIn_app (goodIn_of _ (by decide +kernel)) ggX7_read_X7_fault
set_option maxRecDepth 20000 in
theorem ggX7_read_X7_records : GoodIn wsX7_read wsX7_records := goodIn_r _ [12, 13, 14, 1, 31, 32, 33, 34, 35, 36, 37, 38, 39, 40, 41, 42, 43, 44, 45, 46, 47, 48, 49] (by decide +kernel) (by decide +kernel)
set_option maxRecDepth 20000 in
theorem gX7_read_X7_records : GoodIn wsX7_read (wsV RX7 90 RX7 yX7_records wsX7_records) := goodIn_app (goodIn_of _ (by decide +kernel)) ggX7_read_X7_records
set_option maxRecDepth 20000 in
theorem ggX7_read_X7_fills : GoodIn wsX7_read wsX7_fills := goodIn_r _ [18, 1, 19, 20, 21, 7, 22, 23, 24, 25, 26, 27, 28, 29, 30, 31, 32, 33, 34, 35, 36, 37, 38, 39, 40, 41, 42, 43, 44, 45, 46, 47, 48, 49] (by decide +kernel) (by decide +kernel)
set_option maxRecDepth 20000 in
theorem gX7_read_X7_fills : GoodIn wsX7_read (wsV RX7 93 RX7 yX7_fills wsX7_fills) := goodIn_app (goodIn_of _ (by decide +kernel)) ggX7_read_X7_fills
theorem dX7_read_0 : decode cX7_read 0 = .ok (.aload_n 0, 1) := by decide +kernel
theorem dX7_read_1 : decode cX7_read 1 = .ok (.invokevirtual 158, 3) := by decide +kernel
theorem dX7_read_4 : decode cX7_read 4 = .ok (.bipush (-4), 2) := by decide +kernel
theorem dX7_read_6 : decode cX7_read 6 = .ok (.if_icmp .eq 6, 3) := by decide +kernel
theorem dX7_read_9 : decode cX7_read 9 = .ok (.bipush (-2), 2) := by decide +kernel
theorem dX7_read_11 : decode cX7_read 11 = .ok (.ireturn, 1) := by decide +kernel
theorem dX7_read_12 : decode cX7_read 12 = .ok (.aload_n 0, 1) := by decide +kernel
theorem dX7_read_13 : decode cX7_read 13 = .ok (.invokevirtual 90, 3) := by decide +kernel
theorem dX7_read_16 : decode cX7_read 16 = .ok (.aload_n 0, 1) := by decide +kernel
theorem dX7_read_17 : decode cX7_read 17 = .ok (.getfield 7, 3) := by decide +kernel
theorem dX7_read_20 : decode cX7_read 20 = .ok (.iconst 0, 1) := by decide +kernel
theorem dX7_read_21 : decode cX7_read 21 = .ok (.iconst 0, 1) := by decide +kernel
theorem dX7_read_22 : decode cX7_read 22 = .ok (.iastore, 1) := by decide +kernel
theorem dX7_read_23 : decode cX7_read 23 = .ok (.iconst 0, 1) := by decide +kernel
theorem dX7_read_24 : decode cX7_read 24 = .ok (.istore_n 1, 1) := by decide +kernel
theorem dX7_read_25 : decode cX7_read 25 = .ok (.iconst 0, 1) := by decide +kernel
theorem dX7_read_26 : decode cX7_read 26 = .ok (.istore_n 2, 1) := by decide +kernel
theorem dX7_read_27 : decode cX7_read 27 = .ok (.iload_n 2, 1) := by decide +kernel
theorem dX7_read_28 : decode cX7_read 28 = .ok (.aload_n 0, 1) := by decide +kernel
theorem dX7_read_29 : decode cX7_read 29 = .ok (.getfield 118, 3) := by decide +kernel
theorem dX7_read_32 : decode cX7_read 32 = .ok (.if_icmp .ge 67, 3) := by decide +kernel
theorem dX7_read_35 : decode cX7_read 35 = .ok (.aload_n 0, 1) := by decide +kernel
theorem dX7_read_36 : decode cX7_read 36 = .ok (.getfield 16, 3) := by decide +kernel
theorem dX7_read_39 : decode cX7_read 39 = .ok (.iload_n 2, 1) := by decide +kernel
theorem dX7_read_40 : decode cX7_read 40 = .ok (.caload, 1) := by decide +kernel
theorem dX7_read_41 : decode cX7_read 41 = .ok (.bipush 32, 2) := by decide +kernel
theorem dX7_read_43 : decode cX7_read 43 = .ok (.if_icmp .ne 7, 3) := by decide +kernel
theorem dX7_read_46 : decode cX7_read 46 = .ok (.iconst 0, 1) := by decide +kernel
theorem dX7_read_47 : decode cX7_read 47 = .ok (.goto 6, 3) := by decide +kernel
theorem dX7_read_50 : decode cX7_read 50 = .ok (.iload_n 1, 1) := by decide +kernel
theorem dX7_read_51 : decode cX7_read 51 = .ok (.iconst 1, 1) := by decide +kernel
theorem dX7_read_52 : decode cX7_read 52 = .ok (.iadd, 1) := by decide +kernel
theorem dX7_read_53 : decode cX7_read 53 = .ok (.istore_n 1, 1) := by decide +kernel
theorem dX7_read_54 : decode cX7_read 54 = .ok (.aload_n 0, 1) := by decide +kernel
theorem dX7_read_55 : decode cX7_read 55 = .ok (.getfield 7, 3) := by decide +kernel
theorem dX7_read_58 : decode cX7_read 58 = .ok (.iconst 0, 1) := by decide +kernel
theorem dX7_read_59 : decode cX7_read 59 = .ok (.dup2, 1) := by decide +kernel
theorem dX7_read_60 : decode cX7_read 60 = .ok (.iaload, 1) := by decide +kernel
theorem dX7_read_61 : decode cX7_read 61 = .ok (.iload_n 1, 1) := by decide +kernel
theorem dX7_read_62 : decode cX7_read 62 = .ok (.iconst 1, 1) := by decide +kernel
theorem dX7_read_63 : decode cX7_read 63 = .ok (.if_icmp .ne 7, 3) := by decide +kernel
theorem dX7_read_66 : decode cX7_read 66 = .ok (.iconst 1, 1) := by decide +kernel
theorem dX7_read_67 : decode cX7_read 67 = .ok (.goto 4, 3) := by decide +kernel
theorem dX7_read_70 : decode cX7_read 70 = .ok (.iconst 0, 1) := by decide +kernel
theorem dX7_read_71 : decode cX7_read 71 = .ok (.iadd, 1) := by decide +kernel
theorem dX7_read_72 : decode cX7_read 72 = .ok (.iastore, 1) := by decide +kernel
theorem dX7_read_73 : decode cX7_read 73 = .ok (.iload_n 1, 1) := by decide +kernel
theorem dX7_read_74 : decode cX7_read 74 = .ok (.ifCond .le 19, 3) := by decide +kernel
theorem dX7_read_77 : decode cX7_read 77 = .ok (.aload_n 0, 1) := by decide +kernel
theorem dX7_read_78 : decode cX7_read 78 = .ok (.getfield 7, 3) := by decide +kernel
theorem dX7_read_81 : decode cX7_read 81 = .ok (.iconst 4, 1) := by decide +kernel
theorem dX7_read_82 : decode cX7_read 82 = .ok (.aload_n 0, 1) := by decide +kernel
theorem dX7_read_83 : decode cX7_read 83 = .ok (.getfield 7, 3) := by decide +kernel
theorem dX7_read_86 : decode cX7_read 86 = .ok (.iconst 0, 1) := by decide +kernel
theorem dX7_read_87 : decode cX7_read 87 = .ok (.iaload, 1) := by decide +kernel
theorem dX7_read_88 : decode cX7_read 88 = .ok (.iadd, 1) := by decide +kernel
theorem dX7_read_89 : decode cX7_read 89 = .ok (.iconst 1, 1) := by decide +kernel
theorem dX7_read_90 : decode cX7_read 90 = .ok (.isub, 1) := by decide +kernel
theorem dX7_read_91 : decode cX7_read 91 = .ok (.iload_n 1, 1) := by decide +kernel
theorem dX7_read_92 : decode cX7_read 92 = .ok (.iastore, 1) := by decide +kernel
theorem dX7_read_93 : decode cX7_read 93 = .ok (.iinc 2 1, 3) := by decide +kernel
theorem dX7_read_96 : decode cX7_read 96 = .ok (.goto (-69), 3) := by decide +kernel
theorem dX7_read_99 : decode cX7_read 99 = .ok (.aload_n 0, 1) := by decide +kernel
theorem dX7_read_100 : decode cX7_read 100 = .ok (.invokevirtual 93, 3) := by decide +kernel
theorem dX7_read_103 : decode cX7_read 103 = .ok (.aload_n 0, 1) := by decide +kernel
theorem dX7_read_104 : decode cX7_read 104 = .ok (.getfield 7, 3) := by decide +kernel
theorem dX7_read_107 : decode cX7_read 107 = .ok (.iconst 0, 1) := by decide +kernel
theorem dX7_read_108 : decode cX7_read 108 = .ok (.iaload, 1) := by decide +kernel
theorem dX7_read_109 : decode cX7_read 109 = .ok (.ireturn, 1) := by decide +kernel
end
section
/-! ===== one memory for all cells, and the judgement J over it ===== -/
abbrev vwCl : List vw_C := [(RX0, TX0, 2), (RX1, TX1, 6), (RX2, TX2, 1), (RX3, TX3, 10), (RX4, TX4, 4), (RX5, TX5, 2), (RX6, TX6, 5), (RX7, TX7, 19)]
abbrev Mem : Type := Nat → Int → Int
abbrev Sh : Type := Nat × Nat × List (Option Nat)
/-- addresses; classes; slots; the classes of the arrays of int, of char, of pages -/
abbrev Cx : Type := (Nat → Nat) × (Nat → ClassId) × (Nat → Nat → Nat) × ClassId × ClassId × ClassId
def shs : List Sh := [
  (9, 0, [some 1, some 8, some 45, some 54, some 79]),
  (4, 0, [none, none, none, some 2, some 4, some 6]),
  (5, 0, [some 3]),
  (0, 24, []),
  (5, 0, [some 5]),
  (0, 24, []),
  (5, 0, [some 7]),
  (0, 24, []),
  (3, 0, [none, some 9]),
  (2, 5, []),
  (4, 0, [none, none, none, some 11, some 13, some 15]),
  (5, 0, [some 12]),
  (0, 24, []),
  (5, 0, [some 14]),
  (0, 24, []),
  (5, 0, [some 16]),
  (0, 24, []),
  (4, 0, [none, none, none, some 18, some 20, some 22]),
  (5, 0, [some 19]),
  (0, 24, []),
  (5, 0, [some 21]),
  (0, 24, []),
  (5, 0, [some 23]),
  (0, 24, []),
  (4, 0, [none, none, none, some 25, some 27, some 29]),
  (5, 0, [some 26]),
  (0, 24, []),
  (5, 0, [some 28]),
  (0, 24, []),
  (5, 0, [some 30]),
  (0, 24, []),
  (4, 0, [none, none, none, some 32, some 34, some 36]),
  (5, 0, [some 33]),
  (0, 24, []),
  (5, 0, [some 35]),
  (0, 24, []),
  (5, 0, [some 37]),
  (0, 24, []),
  (4, 0, [none, none, none, some 39, some 41, some 43]),
  (5, 0, [some 40]),
  (0, 24, []),
  (5, 0, [some 42]),
  (0, 24, []),
  (5, 0, [some 44]),
  (0, 24, []),
  (7, 0, [some 46, some 48, some 50, some 52]),
  (5, 0, [some 47]),
  (0, 24, []),
  (5, 0, [some 49]),
  (0, 24, []),
  (5, 0, [some 51]),
  (0, 24, []),
  (5, 0, [some 53]),
  (0, 24, []),
  (6, 0, [none, none, none, none, some 55, some 62, some 71, some 73, some 75, some 77]),
  (4, 0, [none, none, none, some 56, some 58, some 60]),
  (5, 0, [some 57]),
  (0, 24, []),
  (5, 0, [some 59]),
  (0, 24, []),
  (5, 0, [some 61]),
  (0, 24, []),
  (7, 0, [some 63, some 65, some 67, some 69]),
  (5, 0, [some 64]),
  (0, 24, []),
  (5, 0, [some 66]),
  (0, 24, []),
  (5, 0, [some 68]),
  (0, 24, []),
  (5, 0, [some 70]),
  (0, 24, []),
  (5, 0, [some 72]),
  (0, 576, []),
  (5, 0, [some 74]),
  (0, 25, []),
  (5, 0, [some 76]),
  (0, 24, []),
  (5, 0, [some 78]),
  (0, 24, []),
  (8, 0, [none, some 80]),
  (5, 0, [some 81]),
  (0, 100, []),
  (10, 0, [some 83, some 84, none, some 85, none, some 86, some 87, some 88, some 89, some 90, some 91, some 92, some 93, some 94, some 95, none, none, none, none]),
  (0, 77, []),
  (0, 385, []),
  (1, 100, []),
  (0, 24, []),
  (0, 24, []),
  (0, 24, []),
  (0, 24, []),
  (0, 26, []),
  (0, 26, []),
  (0, 26, []),
  (0, 26, []),
  (0, 26, []),
  (0, 26, [])
  ]
theorem shs_len : shs.length = 96 := rfl
def oI (z : Int) : Int32 := Int32.ofInt z
def vI (z : Int) : Value := .int (oI z)
def vR (X : Cx) (c : Nat) : Value := .ref (X.1 c)
def fv1 (X : Cx) (M : Mem) (c : Nat) (i : Nat) (o : Option Nat) : Value := match o with
  | none => vI (M c i)
  | some d => vR X d
def fvs (X : Cx) (M : Mem) (c : Nat) (fs : List (Option Nat)) : List Value := fs.mapIdx (fv1 X M c)
def ent (X : Cx) (M : Mem) (c : Nat) (q : Sh) : va_E := match q with
  | (0, n, _) => .inl (X.2.2.2.1, n, .inl (fun j => oI (M c j)))
  | (1, n, _) => .inl (X.2.2.2.2.1, n, .inl (fun j => oI (M c j)))
  | (2, n, _) => .inl (X.2.2.2.2.2, n, .inr (.inr (.inr (.inr (fun j => some (X.1 (M c j).toNat))))))
  | (k + 3, _, fs) => .inr (k, fvs X M c fs)
def wl (X : Cx) (M : Mem) : va_W := shs.mapIdx (fun c q => (X.1 c, ent X M c q))
def mset (M : Mem) (c : Nat) (i v : Int) : Mem := fun c' j => if c' = c ∧ j = i then v else M c' j
theorem wl_at {X : Cx} {M : Mem} {c : Nat} {q : Sh} (h : shs[c]? = some q) : (wl X M)[c]? = some (X.1 c, ent X M c q) := by
  rw [wl, List.getElem?_mapIdx, h]; rfl
theorem wl_none {X : Cx} {M : Mem} {c : Nat} (h : shs[c]? = none) : (wl X M)[c]? = none := by
  rw [wl, List.getElem?_mapIdx, h]; rfl
theorem wl_of {X : Cx} {M : Mem} {c : Nat} {e : Nat × va_E} (h : (wl X M)[c]? = some e) : ∃ q, shs[c]? = some q ∧ e = (X.1 c, ent X M c q) := by
  rw [wl, List.getElem?_mapIdx] at h
  cases hs : shs[c]? with
  | none => rw [hs] at h; cases h
  | some q => rw [hs] at h; exact ⟨q, rfl, (Option.some.inj h).symm⟩
theorem ent_congr {X : Cx} {M M' : Mem} {c : Nat} (h : ∀ j : Int, M c j = M' c j) (q : Sh) : ent X M c q = ent X M' c q := by
  have hM : M c = M' c := funext h
  have hf : ∀ fs, fvs X M c fs = fvs X M' c fs := by
    intro fs
    have hg : fv1 X M c = fv1 X M' c := by
      funext i o
      cases o with
      | none => show vI (M c i) = vI (M' c i); rw [hM]
      | some d => rfl
    show fs.mapIdx _ = fs.mapIdx _
    rw [hg]
  obtain ⟨k, n, fs⟩ := q
  match k with
  | 0 => simp only [ent, hM]
  | 1 => simp only [ent, hM]
  | 2 => simp only [ent, hM]
  | k + 3 => simp only [ent, hf]
theorem mset_ne {M : Mem} {c d : Nat} {i v : Int} (h : d ≠ c) (j : Int) : mset M c i v d j = M d j := if_neg (fun z => h z.1)
theorem mset_at {M : Mem} {c : Nat} {i v : Int} : mset M c i v c i = v := if_pos ⟨rfl, rfl⟩
theorem mset_ne2 {M : Mem} {c : Nat} {i v j : Int} (h : j ≠ i) : mset M c i v c j = M c j := if_neg (fun z => h z.2)
theorem wl_set {X : Cx} {M : Mem} {c : Nat} {i v : Int} {q : Sh} {e : va_E} (hc : shs[c]? = some q) (he : ent X (mset M c i v) c q = e) : (wl X M).set c (X.1 c, e) = wl X (mset M c i v) := by
  apply List.ext_getElem?
  intro k
  have hl : c < (wl X M).length := (List.getElem?_eq_some_iff.mp (wl_at (X := X) (M := M) hc)).1
  by_cases hk : k = c
  · subst hk
    rw [List.getElem?_set_self hl, wl_at hc, he]
  · rw [List.getElem?_set_ne (Ne.symm hk)]
    cases hs : shs[k]? with
    | none => rw [wl_none hs, wl_none hs]
    | some q2 => rw [wl_at hs, wl_at hs, ent_congr (fun j => (mset_ne hk j).symm)]
theorem fvs_at {X : Cx} {M : Mem} {c k : Nat} {fs : List (Option Nat)} {o : Option Nat} (h : fs[k]? = some o) : (fvs X M c fs)[k]? = some (fv1 X M c k o) := by
  rw [fvs, List.getElem?_mapIdx, h]; rfl
theorem fvs_set {X : Cx} {M : Mem} {c k : Nat} {v : Int} {fs : List (Option Nat)} (h : fs[k]? = some none) : fvs X (mset M c k v) c fs = (fvs X M c fs).set k (vI v) := by
  apply List.ext_getElem?
  intro j
  have hl : k < (fvs X M c fs).length := (List.getElem?_eq_some_iff.mp (fvs_at (X := X) (M := M) (c := c) h)).1
  by_cases hj : j = k
  · subst hj
    rw [List.getElem?_set_self hl, fvs_at h]
    show some (vI (mset M c j v c j)) = _
    rw [mset_at]
  · rw [List.getElem?_set_ne (Ne.symm hj)]
    cases ho : fs[j]? with
    | none => rw [fvs, fvs, List.getElem?_mapIdx, List.getElem?_mapIdx, ho]; rfl
    | some o =>
      rw [fvs_at ho, fvs_at ho]
      cases o with
      | none =>
        show some (vI (mset M c k v c j)) = some (vI (M c j))
        rw [mset_ne2 (by omega)]
      | some d => rfl
def Inj (X : Cx) : Prop := ∀ i j : Nat, i < 96 → j < 96 → X.1 i = X.1 j → i = j
def Aw (X : Cx) : Nat → Prop := fun q => ∃ c, c < 96 ∧ q = X.1 c
theorem shs_lt {c : Nat} {q : Sh} (h : shs[c]? = some q) : c < 96 := (List.getElem?_eq_some_iff.mp h).1
theorem wl_D {X : Cx} (h : Inj X) (M : Mem) : va_D (Aw X) (wl X M) := by
  refine ⟨fun i j x y hi hj hxy => ?_, fun k q hk => ?_⟩
  · obtain ⟨a, h1, rfl⟩ := wl_of hi
    obtain ⟨b, h2, rfl⟩ := wl_of hj
    exact h i j (shs_lt h1) (shs_lt h2) hxy
  · obtain ⟨a, h1, rfl⟩ := wl_of hk
    exact ⟨k, shs_lt h1, rfl⟩
def tyl (X : Cx) : List (ClassId × FieldType) := [(X.2.2.2.1, .int), (X.2.2.2.2.1, .char), (X.2.2.2.2.2, .object "WhiteRivers$Page")]
/-- the world at a memory -/
def Wd (X : Cx) (M : Mem) (H : Heap) : Prop := va_P (X.2.1, X.2.2.1) vwCl (wl X M) H
def KK (X : Cx) (s : State) : Prop := va_K (X.2.1, X.2.2.1) vwCl (tyl X) s
/-- what stays the same through a method: the machine, its code, its words, the tables -/
def Fx (p : Program) (s : State) (m : MethodId) (args : Array Value) (c : Code) (cc : ByteArray) (own : String) (Ts : List Cond) (nL : Nat) (X : Cx) : Prop := p.tables.exec = Jvm.exec ∧ c.code = cc ∧ c.maxLocals = nL ∧ s.vm.findClass own = some m.cls ∧ (∀ w ∈ Ts, w.before args s = true) ∧ KK X s ∧ Inj X
def rm (k : Nat) : Room := { frames := k, cells := 0, slots := 0, locals := 40 * k }
def J (p : Program) (l : Launch) (e : Env) (R : Room) (s : State) (m : MethodId) (args : Array Value) (below : List Frame) (meth : Method) (c : Code) (cells slots : Nat) (Q : State → Prop) (H0 : Heap) (X : Cx) (nL : Nat) (M : Mem) (pc : Nat) (lv : List (Nat × Value)) (st : List Value) : Prop :=
  ∀ (H : Heap) (locs : List Loc) (ls : Array Slot), Wd X M H → va_S (Aw X) H0 H locs → lv_has ls nL lv → W p l e R s m args below meth c H locs cells slots Q (F0 m pc ls st)
def lvset : List (Nat × Value) → Nat → Value → List (Nat × Value)
  | [], i, v => [(i, v)]
  | (j, w) :: r, i, v => if j = i then (i, v) :: r.filter (fun q => !(q.1 == i)) else (j, w) :: lvset r i v
theorem lvset_mem : ∀ (lv : List (Nat × Value)) (i : Nat) (v : Value) (q : Nat × Value), q ∈ lvset lv i v → q = (i, v) ∨ (q ∈ lv ∧ q.1 ≠ i)
  | [], i, v, q, h => by
    left; simpa [lvset] using h
  | (j, w) :: r, i, v, q, h => by
    unfold lvset at h
    split at h
    · rcases List.mem_cons.mp h with h | h
      · exact Or.inl h
      · obtain ⟨h1, h2⟩ := List.mem_filter.mp h
        refine Or.inr ⟨List.mem_cons_of_mem _ h1, fun z => ?_⟩
        simp [z] at h2
    · rename_i hne
      rcases List.mem_cons.mp h with h | h
      · subst h
        exact Or.inr ⟨List.mem_cons_self, hne⟩
      · rcases lvset_mem r i v q h with h | ⟨h, h'⟩
        · exact Or.inl h
        · exact Or.inr ⟨List.mem_cons_of_mem _ h, h'⟩
theorem lvset_has {ls : Array Slot} {nL i : Nat} {lv : List (Nat × Value)} {v : Value} (h : lv_has ls nL ((i, v) :: lv.filter (fun q => !(q.1 == i) && !(q.1 + 1 == i && q.2.category == 2)))) (hc : ∀ q ∈ lv, q.2.category = 1) : lv_has ls nL (lvset lv i v) := by
  refine ⟨h.1, h.2.1, fun q hq => h.2.2 q ?_⟩
  rcases lvset_mem lv i v q hq with rfl | ⟨h1, h2⟩
  · exact List.mem_cons_self
  · refine List.mem_cons_of_mem _ (List.mem_filter.mpr ⟨h1, ?_⟩)
    simp [h2, hc q h1]
def inR (z : Int) : Prop := -2147483648 ≤ z ∧ z < 2147483648
theorem oI_toInt {z : Int} (h : inR z) : (oI z).toInt = z := Int32.toInt_ofInt_of_le (by have := h.1; omega) (by have := h.2; omega)
theorem oI_lt {a b : Int} (ha : inR a) (hb : inR b) : oI a < oI b ↔ a < b := by rw [Int32.lt_iff_toInt_lt, oI_toInt ha, oI_toInt hb]
theorem oI_le {a b : Int} (ha : inR a) (hb : inR b) : oI a ≤ oI b ↔ a ≤ b := by rw [Int32.le_iff_toInt_le, oI_toInt ha, oI_toInt hb]
theorem oI_eq {a b : Int} (ha : inR a) (hb : inR b) : oI a = oI b ↔ a = b := by rw [← Int32.toInt_inj, oI_toInt ha, oI_toInt hb]
theorem oI_add (a b : Int) : oI a + oI b = oI (a + b) := (Int32.ofInt_add a b).symm
theorem oI_sub (a b : Int) : oI a - oI b = oI (a - b) := (Int32.ofInt_sub a b).symm
theorem oI_mul (a b : Int) : oI a * oI b = oI (a * b) := (Int32.ofInt_mul a b).symm
theorem oI_nat (n : Nat) : oI (n : Int) = nI n := Int32.ofInt_eq_ofNat
theorem oI_div {a b : Int} (ha : 0 ≤ a ∧ a < 2147483648) (hb : 0 < b ∧ b < 2147483648) : oI a / oI b = oI (a / b) := by
  obtain ⟨x, rfl⟩ := Int.eq_ofNat_of_zero_le ha.1
  obtain ⟨y, rfl⟩ := Int.eq_ofNat_of_zero_le (Int.le_of_lt hb.1)
  rw [oI_nat, oI_nat, pk_div (by omega) (by omega) (by omega), ← oI_nat]
  rfl
theorem oI_rem {a b : Int} (ha : 0 ≤ a ∧ a < 2147483648) (hb : 0 < b ∧ b < 2147483648) : oI a - oI a / oI b * oI b = oI (a % b) := by
  obtain ⟨x, rfl⟩ := Int.eq_ofNat_of_zero_le ha.1
  obtain ⟨y, rfl⟩ := Int.eq_ofNat_of_zero_le (Int.le_of_lt hb.1)
  rw [oI_nat, oI_nat, pk_rem (by omega) (by omega) (by omega), ← oI_nat]
  rfl
theorem oI_self (x : Int32) : oI x.toInt = x := Int32.ofInt_toInt x
theorem inR_self (x : Int32) : inR x.toInt := ⟨Int32.le_toInt x, Int32.toInt_lt x⟩
theorem oI_clamp {i : Int} (h0 : 0 ≤ i) (h : i < 2147483648) : (oI i).toNatClampNeg = i.toNat := by
  obtain ⟨x, rfl⟩ := Int.eq_ofNat_of_zero_le h0
  rw [oI_nat, nI_clamp (by omega)]
  rfl
theorem oI_in {i : Int} {n : Nat} (h0 : 0 ≤ i) (h : i < n) (hn : n < 2147483648) : vp_in (oI i) n := by
  obtain ⟨x, rfl⟩ := Int.eq_ofNat_of_zero_le h0
  rw [oI_nat]
  exact vp_in_nI (by omega) (by omega)
theorem oI_i2c {a : Int} (ha : 0 ≤ a ∧ a < 65536) : ((oI a).toUInt32 % 65536).toInt32 = oI a := by
  obtain ⟨x, rfl⟩ := Int.eq_ofNat_of_zero_le ha.1
  rw [oI_nat, pk_char, pk_tn (by omega), Nat.mod_eq_of_lt (by omega)]
theorem oI_char {a : Int} (ha : 0 ≤ a ∧ a < 65536) : vp_nar .char (oI a) = oI a := by
  obtain ⟨x, rfl⟩ := Int.eq_ofNat_of_zero_le ha.1
  rw [oI_nat]
  have h := (pk_charN (q := x) (by omega)).1
  show (match narrow .char (.int (nI x)) with | .int y => y | _ => 0) = nI x
  rw [h]
end
section
/-! ===== a row of J for each instruction ===== -/
section JR
variable {p : Program} {l : Launch} {e : Env} {R : Room} {s : State} {m : MethodId} {args : Array Value} {below : List Frame} {meth : Method} {c : Code} {cells slots : Nat} {Q : State → Prop} {H0 : Heap} {X : Cx} {nL : Nat} {M : Mem} {pc q : Nat} {lv : List (Nat × Value)} {st : List Value} {cc : ByteArray} {own : String} {Ts : List Cond}
theorem j_iconst (F : Fx p s m args c cc own Ts nL X) {n : Int} (hdg : decode cc pc = .ok (.iconst n, 1)) (hq : pc + 1 = q)  (kk : J p l e R s m args below meth c cells slots Q H0 X nL M q lv (vI n :: st)) : J p l e R s m args below meth c cells slots Q H0 X nL M pc lv (st) := by
  subst hq
  intro H locs ls h1 h2 h3
  have K := kk H locs ls h1 h2 h3
  exact lv_iconst F.1 F.2.1 hdg rfl K
theorem j_bipush (F : Fx p s m args c cc own Ts nL X) {n : Int} (hdg : decode cc pc = .ok (.bipush n, 2)) (hq : pc + 2 = q) (hv : (Int8.ofInt n).toInt32 = oI n) (kk : J p l e R s m args below meth c cells slots Q H0 X nL M q lv (vI n :: st)) : J p l e R s m args below meth c cells slots Q H0 X nL M pc lv (st) := by
  subst hq
  intro H locs ls h1 h2 h3
  have K := kk H locs ls h1 h2 h3
  exact lv_bipush F.1 F.2.1 hdg hv K
theorem j_sipush (F : Fx p s m args c cc own Ts nL X) {n : Int} (hdg : decode cc pc = .ok (.sipush n, 3)) (hq : pc + 3 = q) (hv : (Int16.ofInt n).toInt32 = oI n) (kk : J p l e R s m args below meth c cells slots Q H0 X nL M q lv (vI n :: st)) : J p l e R s m args below meth c cells slots Q H0 X nL M pc lv (st) := by
  subst hq
  intro H locs ls h1 h2 h3
  have K := kk H locs ls h1 h2 h3
  exact lv_sipush F.1 F.2.1 hdg hv K
theorem j_ldc (F : Fx p s m args c cc own Ts nL X) {index : Nat} {v : Int32} {n : Int} (hdg : decode cc pc = .ok (.ldc index, 2)) (hq : pc + 2 = q) (hcon : Cond.constant own index v ∈ Ts) (hv : v = oI n) (kk : J p l e R s m args below meth c cells slots Q H0 X nL M q lv (vI n :: st)) : J p l e R s m args below meth c cells slots Q H0 X nL M pc lv (st) := by
  subst hq
  intro H locs ls h1 h2 h3
  have K := kk H locs ls h1 h2 h3
  subst hv; exact lv_ldc F.1 F.2.1 F.2.2.2.1 (F.2.2.2.2.1 _ hcon) hdg K
theorem j_iload_n (F : Fx p s m args c cc own Ts nL X) {k : Fin 4} {i : Nat} {z : Int} (hdg : decode cc pc = .ok (.iload_n k, 1)) (hq : pc + 1 = q) (hi : (k : Nat) = i) (j : Nat) (hk : lv[j]? = some (i, vI z)) (kk : J p l e R s m args below meth c cells slots Q H0 X nL M q lv (vI z :: st)) : J p l e R s m args below meth c cells slots Q H0 X nL M pc lv (st) := by
  subst hq
  intro H locs ls h1 h2 h3
  have K := kk H locs ls h1 h2 h3
  exact lv_iload_n F.1 F.2.1 hdg hi (lv_at h3 j hk) K
theorem j_iload (F : Fx p s m args c cc own Ts nL X) {i : Nat} {z : Int} (hdg : decode cc pc = .ok (.iload i, 2)) (hq : pc + 2 = q) (j : Nat) (hk : lv[j]? = some (i, vI z)) (kk : J p l e R s m args below meth c cells slots Q H0 X nL M q lv (vI z :: st)) : J p l e R s m args below meth c cells slots Q H0 X nL M pc lv (st) := by
  subst hq
  intro H locs ls h1 h2 h3
  have K := kk H locs ls h1 h2 h3
  exact lv_iload F.1 F.2.1 hdg (lv_at h3 j hk) K
theorem j_aload_n (F : Fx p s m args c cc own Ts nL X) {k : Fin 4} {i : Nat} {z : Nat} (hdg : decode cc pc = .ok (.aload_n k, 1)) (hq : pc + 1 = q) (hi : (k : Nat) = i) (j : Nat) (hk : lv[j]? = some (i, vR X z)) (kk : J p l e R s m args below meth c cells slots Q H0 X nL M q lv (vR X z :: st)) : J p l e R s m args below meth c cells slots Q H0 X nL M pc lv (st) := by
  subst hq
  intro H locs ls h1 h2 h3
  have K := kk H locs ls h1 h2 h3
  exact lv_aload_n F.1 F.2.1 hdg hi (lv_at h3 j hk) K
theorem j_aload (F : Fx p s m args c cc own Ts nL X) {i : Nat} {z : Nat} (hdg : decode cc pc = .ok (.aload i, 2)) (hq : pc + 2 = q) (j : Nat) (hk : lv[j]? = some (i, vR X z)) (kk : J p l e R s m args below meth c cells slots Q H0 X nL M q lv (vR X z :: st)) : J p l e R s m args below meth c cells slots Q H0 X nL M pc lv (st) := by
  subst hq
  intro H locs ls h1 h2 h3
  have K := kk H locs ls h1 h2 h3
  exact lv_aload F.1 F.2.1 hdg (lv_at h3 j hk) K
theorem j_istore_n (F : Fx p s m args c cc own Ts nL X) {k : Fin 4} {i : Nat} {z : Int} {lv' : List (Nat × Value)} (hdg : decode cc pc = .ok (.istore_n k, 1)) (hq : pc + 1 = q) (hi : (k : Nat) = i) (hn : i < nL) (hc : lv.all (fun q => q.2.category == 1) = true) (hl : lvset lv i (vI z) = lv') (kk : J p l e R s m args below meth c cells slots Q H0 X nL M q lv' st) : J p l e R s m args below meth c cells slots Q H0 X nL M pc lv (vI z :: st) := by
  subst hq; subst hl
  intro H locs ls h1 h2 h3
  have hc1 : ∀ q ∈ lv, q.2.category = 1 := fun q hq => by simpa using List.all_eq_true.mp hc q hq
  exact lv_istore_n F.1 F.2.1 hdg hi h3 hn rfl (fun ls' h' => kk H locs ls' h1 h2 (lvset_has h' hc1))
theorem j_istore (F : Fx p s m args c cc own Ts nL X) {i : Nat} {z : Int} {lv' : List (Nat × Value)} (hdg : decode cc pc = .ok (.istore i, 2)) (hq : pc + 2 = q)  (hn : i < nL) (hc : lv.all (fun q => q.2.category == 1) = true) (hl : lvset lv i (vI z) = lv') (kk : J p l e R s m args below meth c cells slots Q H0 X nL M q lv' st) : J p l e R s m args below meth c cells slots Q H0 X nL M pc lv (vI z :: st) := by
  subst hq; subst hl
  intro H locs ls h1 h2 h3
  have hc1 : ∀ q ∈ lv, q.2.category = 1 := fun q hq => by simpa using List.all_eq_true.mp hc q hq
  exact lv_istore F.1 F.2.1 hdg  h3 hn rfl (fun ls' h' => kk H locs ls' h1 h2 (lvset_has h' hc1))
theorem j_astore_n (F : Fx p s m args c cc own Ts nL X) {k : Fin 4} {i : Nat} {z : Nat} {lv' : List (Nat × Value)} (hdg : decode cc pc = .ok (.astore_n k, 1)) (hq : pc + 1 = q) (hi : (k : Nat) = i) (hn : i < nL) (hc : lv.all (fun q => q.2.category == 1) = true) (hl : lvset lv i (vR X z) = lv') (kk : J p l e R s m args below meth c cells slots Q H0 X nL M q lv' st) : J p l e R s m args below meth c cells slots Q H0 X nL M pc lv (vR X z :: st) := by
  subst hq; subst hl
  intro H locs ls h1 h2 h3
  have hc1 : ∀ q ∈ lv, q.2.category = 1 := fun q hq => by simpa using List.all_eq_true.mp hc q hq
  exact lv_astore_n F.1 F.2.1 hdg hi h3 hn rfl (fun ls' h' => kk H locs ls' h1 h2 (lvset_has h' hc1))
theorem j_astore (F : Fx p s m args c cc own Ts nL X) {i : Nat} {z : Nat} {lv' : List (Nat × Value)} (hdg : decode cc pc = .ok (.astore i, 2)) (hq : pc + 2 = q)  (hn : i < nL) (hc : lv.all (fun q => q.2.category == 1) = true) (hl : lvset lv i (vR X z) = lv') (kk : J p l e R s m args below meth c cells slots Q H0 X nL M q lv' st) : J p l e R s m args below meth c cells slots Q H0 X nL M pc lv (vR X z :: st) := by
  subst hq; subst hl
  intro H locs ls h1 h2 h3
  have hc1 : ∀ q ∈ lv, q.2.category = 1 := fun q hq => by simpa using List.all_eq_true.mp hc q hq
  exact lv_astore F.1 F.2.1 hdg  h3 hn rfl (fun ls' h' => kk H locs ls' h1 h2 (lvset_has h' hc1))
theorem j_iinc (F : Fx p s m args c cc own Ts nL X) {i : Nat} {n z : Int} {lv' : List (Nat × Value)} (hdg : decode cc pc = .ok (.iinc i n, 3)) (hq : pc + 3 = q) (j : Nat) (hk : lv[j]? = some (i, vI z)) (hn : i < nL) (hc : lv.all (fun q => q.2.category == 1) = true) (hl : lvset lv i (vI (z + n)) = lv') (kk : J p l e R s m args below meth c cells slots Q H0 X nL M q lv' st) : J p l e R s m args below meth c cells slots Q H0 X nL M pc lv st := by
  subst hq; subst hl
  intro H locs ls h1 h2 h3
  have hc1 : ∀ q ∈ lv, q.2.category = 1 := fun q hq => by simpa using List.all_eq_true.mp hc q hq
  exact lv_iinc F.1 F.2.1 hdg h3 hk (oI_add z n) hn rfl (fun ls' h' => kk H locs ls' h1 h2 (lvset_has h' hc1))
theorem j_iadd (F : Fx p s m args c cc own Ts nL X) {a b z : Int} (hdg : decode cc pc = .ok (.iadd, 1)) (hq : pc + 1 = q) (hz : a + b = z) (kk : J p l e R s m args below meth c cells slots Q H0 X nL M q lv (vI z :: st)) : J p l e R s m args below meth c cells slots Q H0 X nL M pc lv (vI b :: vI a :: st) := by
  subst hq
  intro H locs ls h1 h2 h3
  have K := kk H locs ls h1 h2 h3
  subst hz; exact lv_iadd F.1 F.2.1 hdg (by rw [oI_add]; exact K)
theorem j_isub (F : Fx p s m args c cc own Ts nL X) {a b z : Int} (hdg : decode cc pc = .ok (.isub, 1)) (hq : pc + 1 = q) (hz : a - b = z) (kk : J p l e R s m args below meth c cells slots Q H0 X nL M q lv (vI z :: st)) : J p l e R s m args below meth c cells slots Q H0 X nL M pc lv (vI b :: vI a :: st) := by
  subst hq
  intro H locs ls h1 h2 h3
  have K := kk H locs ls h1 h2 h3
  subst hz; exact lv_isub F.1 F.2.1 hdg (by rw [oI_sub]; exact K)
theorem j_imul (F : Fx p s m args c cc own Ts nL X) {a b z : Int} (hdg : decode cc pc = .ok (.imul, 1)) (hq : pc + 1 = q) (hz : a * b = z) (kk : J p l e R s m args below meth c cells slots Q H0 X nL M q lv (vI z :: st)) : J p l e R s m args below meth c cells slots Q H0 X nL M pc lv (vI b :: vI a :: st) := by
  subst hq
  intro H locs ls h1 h2 h3
  have K := kk H locs ls h1 h2 h3
  subst hz; exact lv_imul F.1 F.2.1 hdg (by rw [oI_mul]; exact K)
theorem j_idiv (F : Fx p s m args c cc own Ts nL X) {a b : Int} (hdg : decode cc pc = .ok (.idiv, 1)) (hq : pc + 1 = q) (ha : 0 ≤ a ∧ a < 2147483648) (hb : 0 < b ∧ b < 2147483648) (kk : J p l e R s m args below meth c cells slots Q H0 X nL M q lv (vI (a / b) :: st)) : J p l e R s m args below meth c cells slots Q H0 X nL M pc lv (vI b :: vI a :: st) := by
  subst hq
  intro H locs ls h1 h2 h3
  have K := kk H locs ls h1 h2 h3
  exact lv_idiv F.1 F.2.1 hdg (fun h => by have h0 := (oI_eq (a := b) (b := 0) ⟨by omega, by omega⟩ ⟨by omega, by omega⟩).mp h; omega) (by rw [oI_div ha hb]; exact K)
theorem j_irem (F : Fx p s m args c cc own Ts nL X) {a b : Int} (hdg : decode cc pc = .ok (.irem, 1)) (hq : pc + 1 = q) (ha : 0 ≤ a ∧ a < 2147483648) (hb : 0 < b ∧ b < 2147483648) (kk : J p l e R s m args below meth c cells slots Q H0 X nL M q lv (vI (a % b) :: st)) : J p l e R s m args below meth c cells slots Q H0 X nL M pc lv (vI b :: vI a :: st) := by
  subst hq
  intro H locs ls h1 h2 h3
  have K := kk H locs ls h1 h2 h3
  exact lv_irem F.1 F.2.1 hdg (fun h => by have h0 := (oI_eq (a := b) (b := 0) ⟨by omega, by omega⟩ ⟨by omega, by omega⟩).mp h; omega) (by rw [oI_rem ha hb]; exact K)
theorem j_dup (F : Fx p s m args c cc own Ts nL X) {v : Value} (hdg : decode cc pc = .ok (.dup, 1)) (hq : pc + 1 = q) (hv : v.category = 1) (kk : J p l e R s m args below meth c cells slots Q H0 X nL M q lv (v :: v :: st)) : J p l e R s m args below meth c cells slots Q H0 X nL M pc lv (v :: st) := by
  subst hq
  intro H locs ls h1 h2 h3
  have K := kk H locs ls h1 h2 h3
  exact lv_dup F.1 F.2.1 hdg hv K
theorem j_pop (F : Fx p s m args c cc own Ts nL X) {v : Value} (hdg : decode cc pc = .ok (.pop, 1)) (hq : pc + 1 = q) (hv : v.category = 1) (kk : J p l e R s m args below meth c cells slots Q H0 X nL M q lv (st)) : J p l e R s m args below meth c cells slots Q H0 X nL M pc lv (v :: st) := by
  subst hq
  intro H locs ls h1 h2 h3
  have K := kk H locs ls h1 h2 h3
  exact lv_pop F.1 F.2.1 hdg hv K
theorem j_dup_x1 (F : Fx p s m args c cc own Ts nL X) {v u : Value} (hdg : decode cc pc = .ok (.dup_x1, 1)) (hq : pc + 1 = q) (hv : v.category = 1) (hu : u.category = 1) (kk : J p l e R s m args below meth c cells slots Q H0 X nL M q lv (v :: u :: v :: st)) : J p l e R s m args below meth c cells slots Q H0 X nL M pc lv (v :: u :: st) := by
  subst hq
  intro H locs ls h1 h2 h3
  have K := kk H locs ls h1 h2 h3
  exact lv_dup_x1 F.1 F.2.1 hdg hv hu K
theorem j_dup2 (F : Fx p s m args c cc own Ts nL X) {v u : Value} (hdg : decode cc pc = .ok (.dup2, 1)) (hq : pc + 1 = q) (hv : v.category = 1) (hu : u.category = 1) (kk : J p l e R s m args below meth c cells slots Q H0 X nL M q lv (v :: u :: v :: u :: st)) : J p l e R s m args below meth c cells slots Q H0 X nL M pc lv (v :: u :: st) := by
  subst hq
  intro H locs ls h1 h2 h3
  have K := kk H locs ls h1 h2 h3
  exact lv_dup2_11 F.1 F.2.1 hdg hv hu K
theorem j_goto (F : Fx p s m args c cc own Ts nL X) {off : Int} (hdg : decode cc pc = .ok (.goto off, 3)) (ht : (pc : Int) + off = (q : Int)) (kk : J p l e R s m args below meth c cells slots Q H0 X nL M q lv st) : J p l e R s m args below meth c cells slots Q H0 X nL M pc lv st := by
  intro H locs ls h1 h2 h3
  exact lv_goto F.1 F.2.1 hdg ht (kk H locs ls h1 h2 h3)
theorem j_icmp_lt (F : Fx p s m args c cc own Ts nL X) {a b off : Int} {tgt : Nat} (hdg : decode cc pc = .ok (.if_icmp .lt off, 3)) (ht : (pc : Int) + off = (tgt : Int)) (hq : pc + 3 = q) (ha : inR a) (hb : inR b) (kt : a < b → J p l e R s m args below meth c cells slots Q H0 X nL M tgt lv st) (kf : b ≤ a → J p l e R s m args below meth c cells slots Q H0 X nL M q lv st) : J p l e R s m args below meth c cells slots Q H0 X nL M pc lv (vI b :: vI a :: st) := by
  subst hq
  intro H locs ls h1 h2 h3
  exact lv_icmp_lt F.1 F.2.1 hdg ht (fun h => kt ((oI_lt ha hb).mp h) H locs ls h1 h2 h3) (fun h => kf (Int.not_lt.mp (fun z => h ((oI_lt ha hb).mpr z))) H locs ls h1 h2 h3)
theorem j_if_lt (F : Fx p s m args c cc own Ts nL X) {a off : Int} {tgt : Nat} (hdg : decode cc pc = .ok (.ifCond .lt off, 3)) (ht : (pc : Int) + off = (tgt : Int)) (hq : pc + 3 = q) (ha : inR a) (kt : a < 0 → J p l e R s m args below meth c cells slots Q H0 X nL M tgt lv st) (kf : 0 ≤ a → J p l e R s m args below meth c cells slots Q H0 X nL M q lv st) : J p l e R s m args below meth c cells slots Q H0 X nL M pc lv (vI a :: st) := by
  subst hq
  have hb : inR 0 := ⟨by decide, by decide⟩
  intro H locs ls h1 h2 h3
  exact lv_if_lt F.1 F.2.1 hdg ht (fun h => kt ((oI_lt ha hb).mp h) H locs ls h1 h2 h3) (fun h => kf (Int.not_lt.mp (fun z => h ((oI_lt ha hb).mpr z))) H locs ls h1 h2 h3)
theorem j_icmp_ge (F : Fx p s m args c cc own Ts nL X) {a b off : Int} {tgt : Nat} (hdg : decode cc pc = .ok (.if_icmp .ge off, 3)) (ht : (pc : Int) + off = (tgt : Int)) (hq : pc + 3 = q) (ha : inR a) (hb : inR b) (kt : b ≤ a → J p l e R s m args below meth c cells slots Q H0 X nL M tgt lv st) (kf : a < b → J p l e R s m args below meth c cells slots Q H0 X nL M q lv st) : J p l e R s m args below meth c cells slots Q H0 X nL M pc lv (vI b :: vI a :: st) := by
  subst hq
  intro H locs ls h1 h2 h3
  exact lv_icmp_ge F.1 F.2.1 hdg ht (fun h => kt ((oI_le hb ha).mp h) H locs ls h1 h2 h3) (fun h => kf (Int.not_le.mp (fun z => h ((oI_le hb ha).mpr z))) H locs ls h1 h2 h3)
theorem j_if_ge (F : Fx p s m args c cc own Ts nL X) {a off : Int} {tgt : Nat} (hdg : decode cc pc = .ok (.ifCond .ge off, 3)) (ht : (pc : Int) + off = (tgt : Int)) (hq : pc + 3 = q) (ha : inR a) (kt : 0 ≤ a → J p l e R s m args below meth c cells slots Q H0 X nL M tgt lv st) (kf : a < 0 → J p l e R s m args below meth c cells slots Q H0 X nL M q lv st) : J p l e R s m args below meth c cells slots Q H0 X nL M pc lv (vI a :: st) := by
  subst hq
  have hb : inR 0 := ⟨by decide, by decide⟩
  intro H locs ls h1 h2 h3
  exact lv_if_ge F.1 F.2.1 hdg ht (fun h => kt ((oI_le hb ha).mp h) H locs ls h1 h2 h3) (fun h => kf (Int.not_le.mp (fun z => h ((oI_le hb ha).mpr z))) H locs ls h1 h2 h3)
theorem j_icmp_gt (F : Fx p s m args c cc own Ts nL X) {a b off : Int} {tgt : Nat} (hdg : decode cc pc = .ok (.if_icmp .gt off, 3)) (ht : (pc : Int) + off = (tgt : Int)) (hq : pc + 3 = q) (ha : inR a) (hb : inR b) (kt : b < a → J p l e R s m args below meth c cells slots Q H0 X nL M tgt lv st) (kf : a ≤ b → J p l e R s m args below meth c cells slots Q H0 X nL M q lv st) : J p l e R s m args below meth c cells slots Q H0 X nL M pc lv (vI b :: vI a :: st) := by
  subst hq
  intro H locs ls h1 h2 h3
  exact lv_icmp_gt F.1 F.2.1 hdg ht (fun h => kt ((oI_lt hb ha).mp h) H locs ls h1 h2 h3) (fun h => kf (Int.not_lt.mp (fun z => h ((oI_lt hb ha).mpr z))) H locs ls h1 h2 h3)
theorem j_if_gt (F : Fx p s m args c cc own Ts nL X) {a off : Int} {tgt : Nat} (hdg : decode cc pc = .ok (.ifCond .gt off, 3)) (ht : (pc : Int) + off = (tgt : Int)) (hq : pc + 3 = q) (ha : inR a) (kt : 0 < a → J p l e R s m args below meth c cells slots Q H0 X nL M tgt lv st) (kf : a ≤ 0 → J p l e R s m args below meth c cells slots Q H0 X nL M q lv st) : J p l e R s m args below meth c cells slots Q H0 X nL M pc lv (vI a :: st) := by
  subst hq
  have hb : inR 0 := ⟨by decide, by decide⟩
  intro H locs ls h1 h2 h3
  exact lv_if_gt F.1 F.2.1 hdg ht (fun h => kt ((oI_lt hb ha).mp h) H locs ls h1 h2 h3) (fun h => kf (Int.not_lt.mp (fun z => h ((oI_lt hb ha).mpr z))) H locs ls h1 h2 h3)
theorem j_icmp_le (F : Fx p s m args c cc own Ts nL X) {a b off : Int} {tgt : Nat} (hdg : decode cc pc = .ok (.if_icmp .le off, 3)) (ht : (pc : Int) + off = (tgt : Int)) (hq : pc + 3 = q) (ha : inR a) (hb : inR b) (kt : a ≤ b → J p l e R s m args below meth c cells slots Q H0 X nL M tgt lv st) (kf : b < a → J p l e R s m args below meth c cells slots Q H0 X nL M q lv st) : J p l e R s m args below meth c cells slots Q H0 X nL M pc lv (vI b :: vI a :: st) := by
  subst hq
  intro H locs ls h1 h2 h3
  exact lv_icmp_le F.1 F.2.1 hdg ht (fun h => kt ((oI_le ha hb).mp h) H locs ls h1 h2 h3) (fun h => kf (Int.not_le.mp (fun z => h ((oI_le ha hb).mpr z))) H locs ls h1 h2 h3)
theorem j_if_le (F : Fx p s m args c cc own Ts nL X) {a off : Int} {tgt : Nat} (hdg : decode cc pc = .ok (.ifCond .le off, 3)) (ht : (pc : Int) + off = (tgt : Int)) (hq : pc + 3 = q) (ha : inR a) (kt : a ≤ 0 → J p l e R s m args below meth c cells slots Q H0 X nL M tgt lv st) (kf : 0 < a → J p l e R s m args below meth c cells slots Q H0 X nL M q lv st) : J p l e R s m args below meth c cells slots Q H0 X nL M pc lv (vI a :: st) := by
  subst hq
  have hb : inR 0 := ⟨by decide, by decide⟩
  intro H locs ls h1 h2 h3
  exact lv_if_le F.1 F.2.1 hdg ht (fun h => kt ((oI_le ha hb).mp h) H locs ls h1 h2 h3) (fun h => kf (Int.not_le.mp (fun z => h ((oI_le ha hb).mpr z))) H locs ls h1 h2 h3)
theorem j_icmp_eq (F : Fx p s m args c cc own Ts nL X) {a b off : Int} {tgt : Nat} (hdg : decode cc pc = .ok (.if_icmp .eq off, 3)) (ht : (pc : Int) + off = (tgt : Int)) (hq : pc + 3 = q) (ha : inR a) (hb : inR b) (kt : a = b → J p l e R s m args below meth c cells slots Q H0 X nL M tgt lv st) (kf : a ≠ b → J p l e R s m args below meth c cells slots Q H0 X nL M q lv st) : J p l e R s m args below meth c cells slots Q H0 X nL M pc lv (vI b :: vI a :: st) := by
  subst hq
  intro H locs ls h1 h2 h3
  exact lv_icmp_eq F.1 F.2.1 hdg ht (fun h => kt ((oI_eq ha hb).mp h) H locs ls h1 h2 h3) (fun h => kf (fun z => h ((oI_eq ha hb).mpr z)) H locs ls h1 h2 h3)
theorem j_if_eq (F : Fx p s m args c cc own Ts nL X) {a off : Int} {tgt : Nat} (hdg : decode cc pc = .ok (.ifCond .eq off, 3)) (ht : (pc : Int) + off = (tgt : Int)) (hq : pc + 3 = q) (ha : inR a) (kt : a = 0 → J p l e R s m args below meth c cells slots Q H0 X nL M tgt lv st) (kf : a ≠ 0 → J p l e R s m args below meth c cells slots Q H0 X nL M q lv st) : J p l e R s m args below meth c cells slots Q H0 X nL M pc lv (vI a :: st) := by
  subst hq
  have hb : inR 0 := ⟨by decide, by decide⟩
  intro H locs ls h1 h2 h3
  exact lv_if_eq F.1 F.2.1 hdg ht (fun h => kt ((oI_eq ha hb).mp h) H locs ls h1 h2 h3) (fun h => kf (fun z => h ((oI_eq ha hb).mpr z)) H locs ls h1 h2 h3)
theorem j_icmp_ne (F : Fx p s m args c cc own Ts nL X) {a b off : Int} {tgt : Nat} (hdg : decode cc pc = .ok (.if_icmp .ne off, 3)) (ht : (pc : Int) + off = (tgt : Int)) (hq : pc + 3 = q) (ha : inR a) (hb : inR b) (kt : a ≠ b → J p l e R s m args below meth c cells slots Q H0 X nL M tgt lv st) (kf : a = b → J p l e R s m args below meth c cells slots Q H0 X nL M q lv st) : J p l e R s m args below meth c cells slots Q H0 X nL M pc lv (vI b :: vI a :: st) := by
  subst hq
  intro H locs ls h1 h2 h3
  exact lv_icmp_ne F.1 F.2.1 hdg ht (fun h => kt (fun z => h ((oI_eq ha hb).mpr z)) H locs ls h1 h2 h3) (fun h => kf ((oI_eq ha hb).mp h) H locs ls h1 h2 h3)
theorem j_if_ne (F : Fx p s m args c cc own Ts nL X) {a off : Int} {tgt : Nat} (hdg : decode cc pc = .ok (.ifCond .ne off, 3)) (ht : (pc : Int) + off = (tgt : Int)) (hq : pc + 3 = q) (ha : inR a) (kt : a ≠ 0 → J p l e R s m args below meth c cells slots Q H0 X nL M tgt lv st) (kf : a = 0 → J p l e R s m args below meth c cells slots Q H0 X nL M q lv st) : J p l e R s m args below meth c cells slots Q H0 X nL M pc lv (vI a :: st) := by
  subst hq
  have hb : inR 0 := ⟨by decide, by decide⟩
  intro H locs ls h1 h2 h3
  exact lv_if_ne F.1 F.2.1 hdg ht (fun h => kt (fun z => h ((oI_eq ha hb).mpr z)) H locs ls h1 h2 h3) (fun h => kf ((oI_eq ha hb).mp h) H locs ls h1 h2 h3)
theorem j_ifnull (F : Fx p s m args c cc own Ts nL X) {z : Nat} {off : Int} (hdg : decode cc pc = .ok (.ifnull off, 3)) (hq : pc + 3 = q) (kk : J p l e R s m args below meth c cells slots Q H0 X nL M q lv st) : J p l e R s m args below meth c cells slots Q H0 X nL M pc lv (vR X z :: st) := by
  subst hq
  intro H locs ls h1 h2 h3
  exact lv_ifnull F.1 F.2.1 hdg (kk H locs ls h1 h2 h3)
theorem j_tableIn (F : Fx p s m args c cc own Ts nL X) {dflt lo hi : Int} {offs : Array Int} {len : Nat} {a off : Int} {tgt : Nat} (hdg : decode cc pc = .ok (.tableswitch dflt lo hi offs, len)) (ha : inR a) (h1 : lo ≤ a ∧ a ≤ hi) (ho : offs[(a - lo).toNat]? = some off) (ht : (pc : Int) + off = (tgt : Int)) (kk : J p l e R s m args below meth c cells slots Q H0 X nL M tgt lv st) : J p l e R s m args below meth c cells slots Q H0 X nL M pc lv (vI a :: st) := by
  intro H locs ls g1 g2 g3
  exact lv_tableIn F.1 F.2.1 hdg (by rw [oI_toInt ha]; omega) (by rw [oI_toInt ha]; omega) (by rw [oI_toInt ha]; exact ho) ht (kk H locs ls g1 g2 g3)
theorem j_tableOut (F : Fx p s m args c cc own Ts nL X) {dflt lo hi : Int} {offs : Array Int} {len : Nat} {a : Int} {tgt : Nat} (hdg : decode cc pc = .ok (.tableswitch dflt lo hi offs, len)) (ha : inR a) (h1 : a < lo ∨ hi < a) (ht : (pc : Int) + dflt = (tgt : Int)) (kk : J p l e R s m args below meth c cells slots Q H0 X nL M tgt lv st) : J p l e R s m args below meth c cells slots Q H0 X nL M pc lv (vI a :: st) := by
  intro H locs ls g1 g2 g3
  exact lv_tableOut F.1 F.2.1 hdg (by rw [oI_toInt ha]; exact h1) ht (kk H locs ls g1 g2 g3)
theorem j_getI (F : Fx p s m args c cc own Ts nL X) {ci N index d n0 : Nat} {C : String} {T : u_T} {fs : List (Option Nat)} (hsh : shs[d]? = some (ci + 3, n0, fs)) (hcl : vwCl[ci]? = some (C, T, N)) (hin : ∀ w ∈ u_ws C T N, w ∈ Ts) (k : Nat) (hk : k < N) {i : Int} (hi : ((k : Nat) : Int) = i) (hf : fs[k]? = some none) (hlink : Cond.fieldLink own index (T k).1 (T k).2.1 (T k).2.2.1 ∈ Ts) (hdg : decode cc pc = .ok (.getfield index, 3)) (hq : pc + 3 = q) (kk : J p l e R s m args below meth c cells slots Q H0 X nL M q lv (vI (M d i) :: st)) : J p l e R s m args below meth c cells slots Q H0 X nL M pc lv (vR X d :: st) := by
  subst hq; subst hi
  intro H locs ls h1 h2 h3
  exact va_get (ci := ci) F.1 F.2.1 F.2.2.2.2.1 hin F.2.2.2.1 F.2.2.2.2.2.1 h1 d (wl_at hsh) hcl k hk (F.2.2.2.2.1 _ hlink) (fun _ h => h) (fvs_at hf) hdg (kk H locs ls h1 h2 h3)
theorem j_getR (F : Fx p s m args c cc own Ts nL X) {ci N index d n0 : Nat} {C : String} {T : u_T} {fs : List (Option Nat)} (hsh : shs[d]? = some (ci + 3, n0, fs)) (hcl : vwCl[ci]? = some (C, T, N)) (hin : ∀ w ∈ u_ws C T N, w ∈ Ts) (k : Nat) (hk : k < N) {z : Nat} (hf : fs[k]? = some (some z)) (hlink : Cond.fieldLink own index (T k).1 (T k).2.1 (T k).2.2.1 ∈ Ts) (hdg : decode cc pc = .ok (.getfield index, 3)) (hq : pc + 3 = q) (kk : J p l e R s m args below meth c cells slots Q H0 X nL M q lv (vR X z :: st)) : J p l e R s m args below meth c cells slots Q H0 X nL M pc lv (vR X d :: st) := by
  subst hq
  intro H locs ls h1 h2 h3
  exact va_get (ci := ci) F.1 F.2.1 F.2.2.2.2.1 hin F.2.2.2.1 F.2.2.2.2.2.1 h1 d (wl_at hsh) hcl k hk (F.2.2.2.2.1 _ hlink) (fun _ h => h) (fvs_at hf) hdg (kk H locs ls h1 h2 h3)
theorem j_putI (F : Fx p s m args c cc own Ts nL X) {ci N index d n0 : Nat} {C : String} {T : u_T} {fs : List (Option Nat)} (hsh : shs[d]? = some (ci + 3, n0, fs)) (hcl : vwCl[ci]? = some (C, T, N)) (hin : ∀ w ∈ u_ws C T N, w ∈ Ts) (k : Nat) (hk : k < N) {i a : Int} {ty0 : Nat → FieldType} (hty : ∀ k, k < N → parseFieldDescriptor (T k).2.2.1 = some (ty0 k)) (hnm : ∀ a, a < N → ∀ b, b < N → a ≠ b → (T a).2.1 ≠ (T b).2.1) (hi : ((k : Nat) : Int) = i) (hf : fs[k]? = some none) (hI : (T k).2.2.1 = "I") (hfin : (T k).2.2.2 = false) (hlink : Cond.fieldLink own index (T k).1 (T k).2.1 (T k).2.2.1 ∈ Ts) (hdg : decode cc pc = .ok (.putfield index, 3)) (hq : pc + 3 = q) (kk : J p l e R s m args below meth c cells slots Q H0 X nL (mset M d i a) q lv st) : J p l e R s m args below meth c cells slots Q H0 X nL M pc lv (vI a :: vR X d :: st) := by
  subst hq; subst hi
  intro H locs ls h1 h2 h3
  have hl : k < (fvs X M d fs).length := (List.getElem?_eq_some_iff.mp (fvs_at (X := X) (M := M) (c := d) hf)).1
  have hd : parseFieldDescriptor (T k).2.2.1 = some .int := by rw [hI]; decide +kernel
  refine va_put (ci := ci) F.1 F.2.1 F.2.2.2.2.1 hin ty0 hty hnm F.2.2.2.1 F.2.2.2.2.2.1 h1 (wl_D F.2.2.2.2.2.2 M) h2 d (wl_at hsh) hcl k hk (F.2.2.2.2.1 _ hlink) (fun _ h => h) hfin hd (v := vI a) rfl rfl hl hdg (fun H1 locs1 hP _ hS => kk H1 locs1 ls ?_ hS h3)
  rw [wl_set (i := (k : Int)) (v := a) hsh (by show Sum.inr (ci, fvs X (mset M d k a) d fs) = _; rw [fvs_set hf])] at hP
  exact hP
theorem j_iald (F : Fx p s m args c cc own Ts nL X) {d n : Nat} {fs : List (Option Nat)} (hsh : shs[d]? = some (0, n, fs)) {i : Int} (h0 : 0 ≤ i) (hi : i < (n : Int)) (hn : n < 2147483648) (hdg : decode cc pc = .ok (.iaload, 1)) (hq : pc + 1 = q) (kk : J p l e R s m args below meth c cells slots Q H0 X nL M q lv (vI (M d i) :: st)) : J p l e R s m args below meth c cells slots Q H0 X nL M pc lv (vI i :: vR X d :: st) := by
  subst hq
  intro H locs ls h1 h2 h3
  refine va_iald F.1 F.2.1 F.2.2.2.2.2.1 h1 d 0 (wl_at hsh) rfl (oI_in h0 hi hn) hdg ?_
  have K := kk H locs ls h1 h2 h3
  show W p l e R s m args below meth c H locs cells slots Q (F0 m (pc + 1) ls (vI (M d ((oI i).toNatClampNeg : Int)) :: st))
  rw [oI_clamp h0 (by omega), show ((i.toNat : Nat) : Int) = i from Int.toNat_of_nonneg h0]
  exact K
theorem j_cald (F : Fx p s m args c cc own Ts nL X) {d n : Nat} {fs : List (Option Nat)} (hsh : shs[d]? = some (1, n, fs)) {i : Int} (h0 : 0 ≤ i) (hi : i < (n : Int)) (hn : n < 2147483648) (hdg : decode cc pc = .ok (.caload, 1)) (hq : pc + 1 = q) (kk : J p l e R s m args below meth c cells slots Q H0 X nL M q lv (vI (M d i) :: st)) : J p l e R s m args below meth c cells slots Q H0 X nL M pc lv (vI i :: vR X d :: st) := by
  subst hq
  intro H locs ls h1 h2 h3
  refine va_cald F.1 F.2.1 F.2.2.2.2.2.1 h1 d 1 (wl_at hsh) rfl (oI_in h0 hi hn) hdg ?_
  have K := kk H locs ls h1 h2 h3
  show W p l e R s m args below meth c H locs cells slots Q (F0 m (pc + 1) ls (vI (M d ((oI i).toNatClampNeg : Int)) :: st))
  rw [oI_clamp h0 (by omega), show ((i.toNat : Nat) : Int) = i from Int.toNat_of_nonneg h0]
  exact K
theorem j_iast (F : Fx p s m args c cc own Ts nL X) {d n : Nat} {fs : List (Option Nat)} (hsh : shs[d]? = some (0, n, fs)) {i a : Int} (h0 : 0 ≤ i) (hi : i < (n : Int)) (hn : n < 2147483648) (hdg : decode cc pc = .ok (.iastore, 1)) (hq : pc + 1 = q) (kk : J p l e R s m args below meth c cells slots Q H0 X nL (mset M d i a) q lv st) : J p l e R s m args below meth c cells slots Q H0 X nL M pc lv (vI a :: vI i :: vR X d :: st) := by
  subst hq
  intro H locs ls h1 h2 h3
  refine va_iast F.1 F.2.1 F.2.2.2.2.2.1 h1 (wl_D F.2.2.2.2.2.2 M) h2 d 0 (wl_at hsh) rfl (oI_in h0 hi hn) hdg (fun H1 locs1 hP _ hS => kk H1 locs1 ls ?_ hS h3)
  rw [wl_set (i := i) (v := a) hsh (by
    show Sum.inl (X.2.2.2.1, n, Sum.inl (fun j : Nat => oI (mset M d i a d j))) = Sum.inl (X.2.2.2.1, n, Sum.inl (upd (fun j : Nat => oI (M d j)) (oI i).toNatClampNeg (oI a)))
    rw [oI_clamp h0 (by omega)]
    refine congrArg (fun g : Nat → Int32 => (Sum.inl (X.2.2.2.1, n, Sum.inl g) : va_E)) (funext fun j => ?_)
    by_cases hj : j = i.toNat
    · have hj2 : ((j : Nat) : Int) = i := by omega
      rw [hj2, mset_at]
      simp [upd, hj]
    · rw [mset_ne2 (by omega)]
      simp [upd, hj])] at hP
  exact hP
theorem j_cast (F : Fx p s m args c cc own Ts nL X) {d n : Nat} {fs : List (Option Nat)} (hsh : shs[d]? = some (1, n, fs)) {i a : Int} (h0 : 0 ≤ i) (hi : i < (n : Int)) (hn : n < 2147483648) (ha : 0 ≤ a ∧ a < 65536) (hdg : decode cc pc = .ok (.castore, 1)) (hq : pc + 1 = q) (kk : J p l e R s m args below meth c cells slots Q H0 X nL (mset M d i a) q lv st) : J p l e R s m args below meth c cells slots Q H0 X nL M pc lv (vI a :: vI i :: vR X d :: st) := by
  subst hq
  intro H locs ls h1 h2 h3
  refine va_cast F.1 F.2.1 F.2.2.2.2.2.1 h1 (wl_D F.2.2.2.2.2.2 M) h2 d 1 (wl_at hsh) rfl (oI_in h0 hi hn) hdg (fun H1 locs1 hP _ hS => kk H1 locs1 ls ?_ hS h3)
  rw [wl_set (i := i) (v := a) hsh (by
    show Sum.inl (X.2.2.2.2.1, n, Sum.inl (fun j : Nat => oI (mset M d i a d j))) = Sum.inl (X.2.2.2.2.1, n, Sum.inl (upd (fun j : Nat => oI (M d j)) (oI i).toNatClampNeg (vp_nar .char (oI a))))
    rw [oI_clamp h0 (by omega), oI_char ha]
    refine congrArg (fun g : Nat → Int32 => (Sum.inl (X.2.2.2.2.1, n, Sum.inl g) : va_E)) (funext fun j => ?_)
    by_cases hj : j = i.toNat
    · have hj2 : ((j : Nat) : Int) = i := by omega
      rw [hj2, mset_at]
      simp [upd, hj]
    · rw [mset_ne2 (by omega)]
      simp [upd, hj])] at hP
  exact hP
theorem j_i2c (F : Fx p s m args c cc own Ts nL X) {a : Int} (hdg : decode cc pc = .ok (.i2c, 1)) (hq : pc + 1 = q) (ha : 0 ≤ a ∧ a < 65536) (kk : J p l e R s m args below meth c cells slots Q H0 X nL M q lv (vI a :: st)) : J p l e R s m args below meth c cells slots Q H0 X nL M pc lv (vI a :: st) := by
  subst hq
  intro H locs ls h1 h2 h3
  have K := kk H locs ls h1 h2 h3
  exact lv_i2c F.1 F.2.1 hdg (oI_i2c ha) K
theorem j_alen (F : Fx p s m args c cc own Ts nL X) {d n kk0 : Nat} {fs : List (Option Nat)} (hsh : shs[d]? = some (kk0, n, fs)) (hkk : kk0 < 3) (hdg : decode cc pc = .ok (.arraylength, 1)) (hq : pc + 1 = q) {z : Int} (hz : ((n : Nat) : Int) = z) (kk : J p l e R s m args below meth c cells slots Q H0 X nL M q lv (vI z :: st)) : J p l e R s m args below meth c cells slots Q H0 X nL M pc lv (vR X d :: st) := by
  subst hq; subst hz
  intro H locs ls h1 h2 h3
  have K := kk H locs ls h1 h2 h3
  match kk0, hkk with
  | 0, _ => exact va_alen F.1 F.2.1 F.2.2.2.2.2.1 h1 d 0 (wl_at hsh) rfl (oI_nat n).symm hdg K
  | 1, _ => exact va_alen F.1 F.2.1 F.2.2.2.2.2.1 h1 d 1 (wl_at hsh) rfl (oI_nat n).symm hdg K
  | 2, _ => exact va_alen F.1 F.2.1 F.2.2.2.2.2.1 h1 d 2 (wl_at hsh) rfl (oI_nat n).symm hdg K
theorem j_aald (F : Fx p s m args c cc own Ts nL X) {d n : Nat} {fs : List (Option Nat)} (hsh : shs[d]? = some (2, n, fs)) {i : Int} {z : Nat} (h0 : 0 ≤ i) (hi : i < (n : Int)) (hn : n < 2147483648) (hz : M d i = (z : Int)) (hdg : decode cc pc = .ok (.aaload, 1)) (hq : pc + 1 = q) (kk : J p l e R s m args below meth c cells slots Q H0 X nL M q lv (vR X z :: st)) : J p l e R s m args below meth c cells slots Q H0 X nL M pc lv (vI i :: vR X d :: st) := by
  subst hq
  intro H locs ls h1 h2 h3
  refine va_aldq F.1 F.2.1 F.2.2.2.2.2.1 h1 d 2 (wl_at hsh) rfl (oI_in h0 hi hn) hdg ?_
  have K := kk H locs ls h1 h2 h3
  show W p l e R s m args below meth c H locs cells slots Q (F0 m (pc + 1) ls (Value.ref (X.1 (M d ((oI i).toNatClampNeg : Int)).toNat) :: st))
  rw [oI_clamp h0 (by omega), show ((i.toNat : Nat) : Int) = i from Int.toNat_of_nonneg h0, hz]
  exact K
theorem j_aast (F : Fx p s m args c cc own Ts nL X) {d n : Nat} {fs : List (Option Nat)} (hsh : shs[d]? = some (2, n, fs)) {i : Int} {z n1 : Nat} {fs1 : List (Option Nat)} (h0 : 0 ≤ i) (hi : i < (n : Int)) (hn : n < 2147483648) (hz : shs[z]? = some (4, n1, fs1)) (hdg : decode cc pc = .ok (.aastore, 1)) (hq : pc + 1 = q) (kk : J p l e R s m args below meth c cells slots Q H0 X nL (mset M d i z) q lv st) : J p l e R s m args below meth c cells slots Q H0 X nL M pc lv (vR X z :: vI i :: vR X d :: st) := by
  subst hq
  intro H locs ls h1 h2 h3
  refine va_astq (ci := 1) (r := (RX1, TX1, 6)) F.1 F.2.1 F.2.2.2.2.2.1 h1 (wl_D F.2.2.2.2.2.2 M) h2 d 2 z (wl_at hsh) rfl (wl_at hz) rfl (oI_in h0 hi hn) hdg (fun H1 locs1 hP _ hS => kk H1 locs1 ls ?_ hS h3)
  rw [wl_set (i := i) (v := (z : Int)) hsh (by
    show Sum.inl (X.2.2.2.2.2, n, Sum.inr (Sum.inr (Sum.inr (Sum.inr (fun j : Nat => some (X.1 (mset M d i z d j).toNat)))))) = Sum.inl (X.2.2.2.2.2, n, Sum.inr (Sum.inr (Sum.inr (Sum.inr (va_up (fun j : Nat => some (X.1 (M d j).toNat)) (oI i).toNatClampNeg (some (X.1 z)))))))
    rw [oI_clamp h0 (by omega)]
    refine congrArg (fun g : Nat → Option Nat => (Sum.inl (X.2.2.2.2.2, n, Sum.inr (Sum.inr (Sum.inr (Sum.inr g)))) : va_E)) (funext fun j => ?_)
    by_cases hj : j = i.toNat
    · have hj2 : ((j : Nat) : Int) = i := by omega
      rw [hj2, mset_at]
      simp [va_up, hj]
    · rw [mset_ne2 (by omega)]
      simp [va_up, hj])] at hP
  exact hP
theorem j_max (F : Fx p s m args c cc own Ts nL X) {index : Nat} {a b : Int} (hw1 : Cond.methodLink own index Lib.Math.max.name ∈ Ts) (hw2 : Cond.static Lib.Math.max.name ∈ Ts) (hw3 : Cond.initialized "java/lang/Math" ∈ Ts) (hw4 : Cond.code Lib.Math.max.name Lib.Math.max.code 2 (some .int) ∈ Ts) (hR : 1 ≤ R.frames ∧ (st.map fun v => v.category).sum + 13 ≤ R.locals ∧ cells ≤ R.cells ∧ slots ≤ R.slots) (ha : inR a) (hb : inR b) (hdg : decode cc pc = .ok (.invokestatic index, 3)) (hq : pc + 3 = q) (kk : J p l e R s m args below meth c cells slots Q H0 X nL M q lv (vI (max a b) :: st)) : J p l e R s m args below meth c cells slots Q H0 X nL M pc lv (vI b :: vI a :: st) := by
  subst hq
  intro H locs ls h1 h2 h3
  have K := kk H locs ls h1 h2 h3
  refine va_mmax F.1 F.2.1 (F.2.2.1.trans h3.1.symm) F.2.2.2.1 (F.2.2.2.2.1 _ hw1) (F.2.2.2.2.1 _ hw2) (F.2.2.2.2.1 _ hw3) (F.2.2.2.2.1 _ hw4) hR.1 hR.2.1 hR.2.2.1 hR.2.2.2 hdg ?_
  rw [show (if oI a < oI b then oI b else oI a) = oI (max a b) from ?_]
  · exact K
  · by_cases h : a < b
    · rw [if_pos ((oI_lt ha hb).mpr h)]; congr 1; omega
    · rw [if_neg (fun z => h ((oI_lt ha hb).mp z))]; congr 1; omega
theorem j_min (F : Fx p s m args c cc own Ts nL X) {index : Nat} {a b : Int} (hw1 : Cond.methodLink own index Lib.Math.min.name ∈ Ts) (hw2 : Cond.static Lib.Math.min.name ∈ Ts) (hw3 : Cond.initialized "java/lang/Math" ∈ Ts) (hw4 : Cond.code Lib.Math.min.name Lib.Math.min.code 2 (some .int) ∈ Ts) (hR : 1 ≤ R.frames ∧ (st.map fun v => v.category).sum + 13 ≤ R.locals ∧ cells ≤ R.cells ∧ slots ≤ R.slots) (ha : inR a) (hb : inR b) (hdg : decode cc pc = .ok (.invokestatic index, 3)) (hq : pc + 3 = q) (kk : J p l e R s m args below meth c cells slots Q H0 X nL M q lv (vI (min a b) :: st)) : J p l e R s m args below meth c cells slots Q H0 X nL M pc lv (vI b :: vI a :: st) := by
  subst hq
  intro H locs ls h1 h2 h3
  have K := kk H locs ls h1 h2 h3
  refine va_mmin F.1 F.2.1 (F.2.2.1.trans h3.1.symm) F.2.2.2.1 (F.2.2.2.2.1 _ hw1) (F.2.2.2.2.1 _ hw2) (F.2.2.2.2.1 _ hw3) (F.2.2.2.2.1 _ hw4) hR.1 hR.2.1 hR.2.2.1 hR.2.2.2 hdg ?_
  rw [show (if oI b < oI a then oI b else oI a) = oI (min a b) from ?_]
  · exact K
  · by_cases h : b < a
    · rw [if_pos ((oI_lt hb ha).mpr h)]; congr 1; omega
    · rw [if_neg (fun z => h ((oI_lt hb ha).mp z))]; congr 1; omega
theorem j_sub {lv' : List (Nat × Value)} (ks : List Nat) (hl : lv_pick lv ks = lv') (kk : J p l e R s m args below meth c cells slots Q H0 X nL M pc lv' st) : J p l e R s m args below meth c cells slots Q H0 X nL M pc lv st := fun H locs ls h1 h2 h3 => kk H locs ls h1 h2 (lv_sub h3 ks hl)
theorem j_mem {M' : Mem} (h : M = M') (kk : J p l e R s m args below meth c cells slots Q H0 X nL M' pc lv st) : J p l e R s m args below meth c cells slots Q H0 X nL M pc lv st := h ▸ kk
end JR
/-! ===== contracts over the memory ===== -/
/-- from memory M, with the arguments as: an int comes back, and a memory, of which post holds; nothing else changes -/
def CtI (l : Launch) (X : Cx) (y : MethodName) (ws : List Cond) (k : Nat) (as : List Value) (M : Mem) (post : Int → Mem → Prop) : Prop :=
  Met l y ws (rm k) (va_Pc as (fun U => Wd X M U.heap ∧ KK X U)) (va_Qi (S := Int × Mem) (fun r u => r = oI u.1 ∧ post u.1 u.2) (fun u t => Wd X u.2 t.heap) (Aw X)) 0 0 (Aw X)
def CtV (l : Launch) (X : Cx) (y : MethodName) (ws : List Cond) (k : Nat) (as : List Value) (M : Mem) (post : Mem → Prop) : Prop :=
  Met l y ws (rm k) (va_Pc as (fun U => Wd X M U.heap ∧ KK X U)) (va_Qv (S := Mem) post (fun u t => Wd X u t.heap) (Aw X)) 0 0 (Aw X)
def CtR (l : Launch) (X : Cx) (y : MethodName) (ws : List Cond) (k : Nat) (as : List Value) (M : Mem) (post : Nat → Mem → Prop) : Prop :=
  Met l y ws (rm k) (va_Pc as (fun U => Wd X M U.heap ∧ KK X U)) (va_Qr (S := Nat × Mem) (fun u => post u.1 u.2) (fun u a t => a = X.1 u.1 ∧ Wd X u.2 t.heap) (Aw X)) 0 0 (Aw X)
theorem ct_blind {X : Cx} {M : Mem} {as : List Value} : FrameBlind (va_Pc as (fun U => Wd X M U.heap ∧ KK X U)) := fun a U g mk q => by
  obtain ⟨q0, qP, qK⟩ := q
  exact ⟨q0, qP, va_K.moved (u := U) (U := U.calling g mk a) (Vm.Alike.refl U.vm) qK⟩
theorem CtI_ex {l : Launch} {X : Cx} {y : MethodName} {ws : List Cond} {k : Nat} {as : List Value} {M : Mem} {post post' : Int → Mem → Prop} (h : CtI l X y ws k as M post) (hp : post = post') : CtI l X y ws k as M post' := hp ▸ h
theorem CtI_of {l : Launch} {X : Cx} {y : MethodName} {ws ws' : List Cond} {k : Nat} {as : List Value} {M : Mem} {post : Int → Mem → Prop} {cc : ByteArray} {maxL : Nat} (hX : Inj X) (hy : plainName y.cls = true) (hw : ws = Cond.code y cc maxL (some .int) :: ws') (hlen : (lg_sl as).length ≤ maxL) (body : ∀ (p : Program) (e : Env) (s : State) (m : MethodId) (args : Array Value) (below : List Frame) (meth : Method) (c : Code) (Q : State → Prop), Fx p s m args c cc y.cls ws maxL X → (∀ (M' : Mem) (pc : Nat) (lv : List (Nat × Value)) (r : Int), decode cc pc = .ok (.ireturn, 1) → post r M' → J p l e (rm k) s m args below meth c 0 0 Q s.heap X maxL M' pc lv [vI r]) → J p l e (rm k) s m args below meth c 0 0 Q s.heap X maxL M 0 (lv_args 0 as) []) : CtI l X y ws k as M post := by
  refine Met.ofW hy hw ?_
  intro p e s m args below meth c s₁ B hml hv
  obtain ⟨rfl, hP, hK⟩ := hv
  have hr := B.returns
  have hlocks := B.notSynchronized
  rw [lg_entry_eq]
  exact body p e s m as.toArray below meth c _ ⟨B.exec, B.bytes, hml, findClass_of_methodNamed B.named, atoms_spec (ws := ws) B.pre, hK, hX⟩ (fun M' pc lv r hd hp H locs ls hW hS hl => W.iret B.exec B.bytes hr (fun t ht hWm => ⟨⟨oI r, (r, M'), rfl, ⟨rfl, hp⟩, by show Wd X M' t.heap; rw [ht]; exact hW⟩, hS.F ht⟩) hS.2.2 hd) s.heap [] _ hP va_S.rf (lv_entry as hlen)
theorem CtI_ofZ {l : Launch} {X : Cx} {y : MethodName} {ws ws' : List Cond} {k : Nat} {as : List Value} {M : Mem} {post : Int → Mem → Prop} {cc : ByteArray} {maxL : Nat} (hX : Inj X) (hy : plainName y.cls = true) (hw : ws = Cond.code y cc maxL (some .boolean) :: ws') (hlen : (lg_sl as).length ≤ maxL) (body : ∀ (p : Program) (e : Env) (s : State) (m : MethodId) (args : Array Value) (below : List Frame) (meth : Method) (c : Code) (Q : State → Prop), Fx p s m args c cc y.cls ws maxL X → (∀ (M' : Mem) (pc : Nat) (lv : List (Nat × Value)) (r : Int), decode cc pc = .ok (.ireturn, 1) → r = 0 ∨ r = 1 → post r M' → J p l e (rm k) s m args below meth c 0 0 Q s.heap X maxL M' pc lv [vI r]) → J p l e (rm k) s m args below meth c 0 0 Q s.heap X maxL M 0 (lv_args 0 as) []) : CtI l X y ws k as M post := by
  refine Met.ofW hy hw ?_
  intro p e s m args below meth c s₁ B hml hv
  obtain ⟨rfl, hP, hK⟩ := hv
  have hr := B.returns
  have hlocks := B.notSynchronized
  rw [lg_entry_eq]
  exact body p e s m as.toArray below meth c _ ⟨B.exec, B.bytes, hml, findClass_of_methodNamed B.named, atoms_spec (ws := ws) B.pre, hK, hX⟩ (fun M' pc lv r hd h01 hp H locs ls hW hS hl => W.zret B.exec B.bytes hr (by rcases h01 with rfl | rfl <;> decide) (fun t ht hWm => ⟨⟨oI r, (r, M'), rfl, ⟨rfl, hp⟩, by show Wd X M' t.heap; rw [ht]; exact hW⟩, hS.F ht⟩) hS.2.2 hd) s.heap [] _ hP va_S.rf (lv_entry as hlen)
theorem CtV_of {l : Launch} {X : Cx} {y : MethodName} {ws ws' : List Cond} {k : Nat} {as : List Value} {M : Mem} {post : Mem → Prop} {cc : ByteArray} {maxL : Nat} (hX : Inj X) (hy : plainName y.cls = true) (hw : ws = Cond.code y cc maxL none :: ws') (hlen : (lg_sl as).length ≤ maxL) (body : ∀ (p : Program) (e : Env) (s : State) (m : MethodId) (args : Array Value) (below : List Frame) (meth : Method) (c : Code) (Q : State → Prop), Fx p s m args c cc y.cls ws maxL X → (∀ (M' : Mem) (pc : Nat) (lv : List (Nat × Value)), decode cc pc = .ok (.return_, 1) → post M' → J p l e (rm k) s m args below meth c 0 0 Q s.heap X maxL M' pc lv []) → J p l e (rm k) s m args below meth c 0 0 Q s.heap X maxL M 0 (lv_args 0 as) []) : CtV l X y ws k as M post := by
  refine Met.ofW hy hw ?_
  intro p e s m args below meth c s₁ B hml hv
  obtain ⟨rfl, hP, hK⟩ := hv
  have hr := B.returns
  have hlocks := B.notSynchronized
  rw [lg_entry_eq]
  exact body p e s m as.toArray below meth c _ ⟨B.exec, B.bytes, hml, findClass_of_methodNamed B.named, atoms_spec (ws := ws) B.pre, hK, hX⟩ (fun M' pc lv hd hp H locs ls hW hS hl => W.vret B.exec B.bytes hr (fun t ht hWm => ⟨⟨M', rfl, hp, by show Wd X M' t.heap; rw [ht]; exact hW⟩, hS.F ht⟩) hS.2.2 hd) s.heap [] _ hP va_S.rf (lv_entry as hlen)
theorem CtR_of {l : Launch} {X : Cx} {y : MethodName} {ws ws' : List Cond} {k : Nat} {as : List Value} {M : Mem} {post : Nat → Mem → Prop} {cc : ByteArray} {maxL : Nat} {rc : String} (hX : Inj X) (hy : plainName y.cls = true) (hw : ws = Cond.code y cc maxL (some (.object rc)) :: ws') (hlen : (lg_sl as).length ≤ maxL) (body : ∀ (p : Program) (e : Env) (s : State) (m : MethodId) (args : Array Value) (below : List Frame) (meth : Method) (c : Code) (Q : State → Prop), Fx p s m args c cc y.cls ws maxL X → (∀ (M' : Mem) (pc : Nat) (lv : List (Nat × Value)) (r : Nat), decode cc pc = .ok (.areturn, 1) → post r M' → J p l e (rm k) s m args below meth c 0 0 Q s.heap X maxL M' pc lv [vR X r]) → J p l e (rm k) s m args below meth c 0 0 Q s.heap X maxL M 0 (lv_args 0 as) []) : CtR l X y ws k as M post := by
  refine Met.ofW hy hw ?_
  intro p e s m args below meth c s₁ B hml hv
  obtain ⟨rfl, hP, hK⟩ := hv
  have hr := B.returns
  have hlocks := B.notSynchronized
  rw [lg_entry_eq]
  exact body p e s m as.toArray below meth c _ ⟨B.exec, B.bytes, hml, findClass_of_methodNamed B.named, atoms_spec (ws := ws) B.pre, hK, hX⟩ (fun M' pc lv r hd hp H locs ls hW hS hl => W.aret B.exec B.bytes hr (Or.inl ⟨_, rfl⟩) (Or.inr ⟨_, rfl⟩) (fun t ht hWm => ⟨⟨(r, M'), X.1 r, rfl, hp, rfl, by show Wd X M' t.heap; rw [ht]; exact hW⟩, hS.F ht⟩) hS.2.2 hd) s.heap [] _ hP va_S.rf (lv_entry as hlen)
section JC
variable {p : Program} {l : Launch} {e : Env} {R : Room} {s : State} {m : MethodId} {args : Array Value} {below : List Frame} {meth : Method} {c : Code} {cells slots : Nat} {Q : State → Prop} {H0 : Heap} {X : Cx} {nL : Nat} {M : Mem} {pc q : Nat} {lv : List (Nat × Value)} {st : List Value} {cc : ByteArray} {own : String} {Ts : List Cond}
theorem j_callVI (F : Fx p s m args c cc own Ts nL X) {y : MethodName} {ws ws' : List Cond} {bytes : ByteArray} {maxL k index n : Nat} {ret : Option FieldType} {post : Int → Mem → Prop} (As : List Value) {stk : List Value} {b ci n0 N : Nat} {C : String} {T : u_T} {fs : List (Option Nat)} (hM : CtI l X y ws k (vR X b :: As) M post) (hG : GoodIn Ts (wsV own index C y ws)) (hw : ws = Cond.code y bytes maxL ret :: ws') (hd : y.cls = C ∧ y.cls ≠ "java/lang/invoke/MethodHandle" ∧ y.cls ≠ "java/lang/invoke/VarHandle" ∧ (parseMethodDescriptor y.desc).map (fun d => d.parameters.length) = some n) (hR : k + 1 ≤ R.frames ∧ 8 + (maxL + 11) + 40 * k ≤ R.locals ∧ cells ≤ R.cells ∧ slots ≤ R.slots) (hsh : shs[b]? = some (ci + 3, n0, fs)) (hcl : vwCl[ci]? = some (C, T, N)) (hlen : As.length = n) (hstk : As.reverse ++ vR X b :: st = stk) (hst : (st.map fun v => v.category).sum ≤ 8) (hdg : decode cc pc = .ok (.invokevirtual index, 3)) (hq : pc + 3 = q) (kk : ∀ (r : Int) (M' : Mem), post r M' → J p l e R s m args below meth c cells slots Q H0 X nL M' q lv (vI r :: st)) : J p l e R s m args below meth c cells slots Q H0 X nL M pc lv stk := by
  subst hq; subst hstk
  intro H locs ls h1 h2 h3
  refine va_calli (A0 := Aw X) (va_runV (As := As) (rest := st) ⟨F.1, F.2.1, F.2.2.1, F.2.2.2.1, F.2.2.2.2.1⟩ hM (cwV n F.2.2.2.2.1 hG hw rfl rfl hd ⟨hR.1, hR.2.1⟩) ⟨ct_blind, va_recv F.2.2.2.2.2.1 h1 hcl (wl_at hsh), fun U hU hWm => ⟨rfl, by rw [hU]; exact h1, va_K.moved hWm.alike F.2.2.2.2.2.1⟩⟩ rfl hlen h3.1 rfl (lv_room hst) hdg ⟨hR.2.2.1, hR.2.2.2⟩) h2 (fun q _ h => h) (fun q h => h) (fun r u t H1 locs1 ht hvm hp hB hz hk1 hS1 => by
    obtain ⟨rfl, hp⟩ := hp
    exact kk u.1 u.2 hp H1 locs1 ls (by rw [← ht]; exact hB) hS1 h3)
theorem j_callSI (F : Fx p s m args c cc own Ts nL X) {y : MethodName} {ws ws' : List Cond} {bytes : ByteArray} {maxL k index n : Nat} {ret : Option FieldType} {post : Int → Mem → Prop} (As : List Value) {stk : List Value} (hM : CtI l X y ws k As M post) (hG : GoodIn Ts (va_wsS own index y ws)) (hw : ws = Cond.code y bytes maxL ret :: ws') (hd : y.cls ≠ "java/lang/invoke/MethodHandle" ∧ y.cls ≠ "java/lang/invoke/VarHandle" ∧ (parseMethodDescriptor y.desc).map (fun d => d.parameters.length) = some n) (hR : k + 1 ≤ R.frames ∧ 8 + (maxL + 11) + 40 * k ≤ R.locals ∧ cells ≤ R.cells ∧ slots ≤ R.slots) (hlen : As.length = n) (hstk : As.reverse ++ st = stk) (hst : (st.map fun v => v.category).sum ≤ 8) (hdg : decode cc pc = .ok (.invokestatic index, 3)) (hq : pc + 3 = q) (kk : ∀ (r : Int) (M' : Mem), post r M' → J p l e R s m args below meth c cells slots Q H0 X nL M' q lv (vI r :: st)) : J p l e R s m args below meth c cells slots Q H0 X nL M pc lv stk := by
  subst hq; subst hstk
  intro H locs ls h1 h2 h3
  refine va_calli (A0 := Aw X) (va_runS (As := As) (rest := st) ⟨F.1, F.2.1, F.2.2.1, F.2.2.2.1, F.2.2.2.2.1⟩ hM (va_cwS n F.2.2.2.2.1 hG hw rfl rfl hd ⟨hR.1, hR.2.1⟩) ⟨ct_blind, fun U hU hWm => ⟨rfl, by rw [hU]; exact h1, va_K.moved hWm.alike F.2.2.2.2.2.1⟩⟩ rfl hlen h3.1 rfl (lv_room hst) hdg ⟨hR.2.2.1, hR.2.2.2⟩) h2 (fun q _ h => h) (fun q h => h) (fun r u t H1 locs1 ht hvm hp hB hz hk1 hS1 => by
    obtain ⟨rfl, hp⟩ := hp
    exact kk u.1 u.2 hp H1 locs1 ls (by rw [← ht]; exact hB) hS1 h3)
theorem j_callVV (F : Fx p s m args c cc own Ts nL X) {y : MethodName} {ws ws' : List Cond} {bytes : ByteArray} {maxL k index n : Nat} {ret : Option FieldType} {post : Mem → Prop} (As : List Value) {stk : List Value} {b ci n0 N : Nat} {C : String} {T : u_T} {fs : List (Option Nat)} (hM : CtV l X y ws k (vR X b :: As) M post) (hG : GoodIn Ts (wsV own index C y ws)) (hw : ws = Cond.code y bytes maxL ret :: ws') (hd : y.cls = C ∧ y.cls ≠ "java/lang/invoke/MethodHandle" ∧ y.cls ≠ "java/lang/invoke/VarHandle" ∧ (parseMethodDescriptor y.desc).map (fun d => d.parameters.length) = some n) (hR : k + 1 ≤ R.frames ∧ 8 + (maxL + 11) + 40 * k ≤ R.locals ∧ cells ≤ R.cells ∧ slots ≤ R.slots) (hsh : shs[b]? = some (ci + 3, n0, fs)) (hcl : vwCl[ci]? = some (C, T, N)) (hlen : As.length = n) (hstk : As.reverse ++ vR X b :: st = stk) (hst : (st.map fun v => v.category).sum ≤ 8) (hdg : decode cc pc = .ok (.invokevirtual index, 3)) (hq : pc + 3 = q) (kk : ∀ (M' : Mem), post M' → J p l e R s m args below meth c cells slots Q H0 X nL M' q lv st) : J p l e R s m args below meth c cells slots Q H0 X nL M pc lv stk := by
  subst hq; subst hstk
  intro H locs ls h1 h2 h3
  refine va_callv (A0 := Aw X) (va_runV (As := As) (rest := st) ⟨F.1, F.2.1, F.2.2.1, F.2.2.2.1, F.2.2.2.2.1⟩ hM (cwV n F.2.2.2.2.1 hG hw rfl rfl hd ⟨hR.1, hR.2.1⟩) ⟨ct_blind, va_recv F.2.2.2.2.2.1 h1 hcl (wl_at hsh), fun U hU hWm => ⟨rfl, by rw [hU]; exact h1, va_K.moved hWm.alike F.2.2.2.2.2.1⟩⟩ rfl hlen h3.1 rfl (lv_room hst) hdg ⟨hR.2.2.1, hR.2.2.2⟩) h2 (fun q _ h => h) (fun q h => h) (fun u t H1 locs1 ht hvm hp hB hz hk1 hS1 => kk u hp H1 locs1 ls (by rw [← ht]; exact hB) hS1 h3)
theorem j_callSV (F : Fx p s m args c cc own Ts nL X) {y : MethodName} {ws ws' : List Cond} {bytes : ByteArray} {maxL k index n : Nat} {ret : Option FieldType} {post : Mem → Prop} (As : List Value) {stk : List Value} (hM : CtV l X y ws k As M post) (hG : GoodIn Ts (va_wsS own index y ws)) (hw : ws = Cond.code y bytes maxL ret :: ws') (hd : y.cls ≠ "java/lang/invoke/MethodHandle" ∧ y.cls ≠ "java/lang/invoke/VarHandle" ∧ (parseMethodDescriptor y.desc).map (fun d => d.parameters.length) = some n) (hR : k + 1 ≤ R.frames ∧ 8 + (maxL + 11) + 40 * k ≤ R.locals ∧ cells ≤ R.cells ∧ slots ≤ R.slots) (hlen : As.length = n) (hstk : As.reverse ++ st = stk) (hst : (st.map fun v => v.category).sum ≤ 8) (hdg : decode cc pc = .ok (.invokestatic index, 3)) (hq : pc + 3 = q) (kk : ∀ (M' : Mem), post M' → J p l e R s m args below meth c cells slots Q H0 X nL M' q lv st) : J p l e R s m args below meth c cells slots Q H0 X nL M pc lv stk := by
  subst hq; subst hstk
  intro H locs ls h1 h2 h3
  refine va_callv (A0 := Aw X) (va_runS (As := As) (rest := st) ⟨F.1, F.2.1, F.2.2.1, F.2.2.2.1, F.2.2.2.2.1⟩ hM (va_cwS n F.2.2.2.2.1 hG hw rfl rfl hd ⟨hR.1, hR.2.1⟩) ⟨ct_blind, fun U hU hWm => ⟨rfl, by rw [hU]; exact h1, va_K.moved hWm.alike F.2.2.2.2.2.1⟩⟩ rfl hlen h3.1 rfl (lv_room hst) hdg ⟨hR.2.2.1, hR.2.2.2⟩) h2 (fun q _ h => h) (fun q h => h) (fun u t H1 locs1 ht hvm hp hB hz hk1 hS1 => kk u hp H1 locs1 ls (by rw [← ht]; exact hB) hS1 h3)
theorem j_callVR (F : Fx p s m args c cc own Ts nL X) {y : MethodName} {ws ws' : List Cond} {bytes : ByteArray} {maxL k index n : Nat} {ret : Option FieldType} {post : Nat → Mem → Prop} (As : List Value) {stk : List Value} {b ci n0 N : Nat} {C : String} {T : u_T} {fs : List (Option Nat)} (hM : CtR l X y ws k (vR X b :: As) M post) (hG : GoodIn Ts (wsV own index C y ws)) (hw : ws = Cond.code y bytes maxL ret :: ws') (hd : y.cls = C ∧ y.cls ≠ "java/lang/invoke/MethodHandle" ∧ y.cls ≠ "java/lang/invoke/VarHandle" ∧ (parseMethodDescriptor y.desc).map (fun d => d.parameters.length) = some n) (hR : k + 1 ≤ R.frames ∧ 8 + (maxL + 11) + 40 * k ≤ R.locals ∧ cells ≤ R.cells ∧ slots ≤ R.slots) (hsh : shs[b]? = some (ci + 3, n0, fs)) (hcl : vwCl[ci]? = some (C, T, N)) (hlen : As.length = n) (hstk : As.reverse ++ vR X b :: st = stk) (hst : (st.map fun v => v.category).sum ≤ 8) (hdg : decode cc pc = .ok (.invokevirtual index, 3)) (hq : pc + 3 = q) (kk : ∀ (r : Nat) (M' : Mem), post r M' → J p l e R s m args below meth c cells slots Q H0 X nL M' q lv (vR X r :: st)) : J p l e R s m args below meth c cells slots Q H0 X nL M pc lv stk := by
  subst hq; subst hstk
  intro H locs ls h1 h2 h3
  refine va_callr (A0 := Aw X) (va_runV (As := As) (rest := st) ⟨F.1, F.2.1, F.2.2.1, F.2.2.2.1, F.2.2.2.2.1⟩ hM (cwV n F.2.2.2.2.1 hG hw rfl rfl hd ⟨hR.1, hR.2.1⟩) ⟨ct_blind, va_recv F.2.2.2.2.2.1 h1 hcl (wl_at hsh), fun U hU hWm => ⟨rfl, by rw [hU]; exact h1, va_K.moved hWm.alike F.2.2.2.2.2.1⟩⟩ rfl hlen h3.1 rfl (lv_room hst) hdg ⟨hR.2.2.1, hR.2.2.2⟩) h2 (fun q _ h => h) (fun q h => h) (fun u ra t H1 locs1 ht hvm hp hB hz hk1 hS1 => by
    obtain ⟨rfl, hB⟩ := hB
    exact kk u.1 u.2 hp H1 locs1 ls (by rw [← ht]; exact hB) hS1 h3)
theorem j_callSR (F : Fx p s m args c cc own Ts nL X) {y : MethodName} {ws ws' : List Cond} {bytes : ByteArray} {maxL k index n : Nat} {ret : Option FieldType} {post : Nat → Mem → Prop} (As : List Value) {stk : List Value} (hM : CtR l X y ws k As M post) (hG : GoodIn Ts (va_wsS own index y ws)) (hw : ws = Cond.code y bytes maxL ret :: ws') (hd : y.cls ≠ "java/lang/invoke/MethodHandle" ∧ y.cls ≠ "java/lang/invoke/VarHandle" ∧ (parseMethodDescriptor y.desc).map (fun d => d.parameters.length) = some n) (hR : k + 1 ≤ R.frames ∧ 8 + (maxL + 11) + 40 * k ≤ R.locals ∧ cells ≤ R.cells ∧ slots ≤ R.slots) (hlen : As.length = n) (hstk : As.reverse ++ st = stk) (hst : (st.map fun v => v.category).sum ≤ 8) (hdg : decode cc pc = .ok (.invokestatic index, 3)) (hq : pc + 3 = q) (kk : ∀ (r : Nat) (M' : Mem), post r M' → J p l e R s m args below meth c cells slots Q H0 X nL M' q lv (vR X r :: st)) : J p l e R s m args below meth c cells slots Q H0 X nL M pc lv stk := by
  subst hq; subst hstk
  intro H locs ls h1 h2 h3
  refine va_callr (A0 := Aw X) (va_runS (As := As) (rest := st) ⟨F.1, F.2.1, F.2.2.1, F.2.2.2.1, F.2.2.2.2.1⟩ hM (va_cwS n F.2.2.2.2.1 hG hw rfl rfl hd ⟨hR.1, hR.2.1⟩) ⟨ct_blind, fun U hU hWm => ⟨rfl, by rw [hU]; exact h1, va_K.moved hWm.alike F.2.2.2.2.2.1⟩⟩ rfl hlen h3.1 rfl (lv_room hst) hdg ⟨hR.2.2.1, hR.2.2.2⟩) h2 (fun q _ h => h) (fun q h => h) (fun u ra t H1 locs1 ht hvm hp hB hz hk1 hS1 => by
    obtain ⟨rfl, hB⟩ := hB
    exact kk u.1 u.2 hp H1 locs1 ls (by rw [← ht]; exact hB) hS1 h3)
theorem j_callVE (F : Fx p s m args c cc own Ts nL X) {y : MethodName} {ws ws' : List Cond} {bytes : ByteArray} {maxL k index n : Nat} {ret : Option FieldType} (As : List Value) {stk : List Value} {v : Int} {b ci n0 N : Nat} {C : String} {T : u_T} {fs : List (Option Nat)} (hM : CtI l X y ws k (vR X b :: As) M (fun x M' => M' = M ∧ x = v)) (hG : GoodIn Ts (wsV own index C y ws)) (hw : ws = Cond.code y bytes maxL ret :: ws') (hd : y.cls = C ∧ y.cls ≠ "java/lang/invoke/MethodHandle" ∧ y.cls ≠ "java/lang/invoke/VarHandle" ∧ (parseMethodDescriptor y.desc).map (fun d => d.parameters.length) = some n) (hR : k + 1 ≤ R.frames ∧ 8 + (maxL + 11) + 40 * k ≤ R.locals ∧ cells ≤ R.cells ∧ slots ≤ R.slots) (hsh : shs[b]? = some (ci + 3, n0, fs)) (hcl : vwCl[ci]? = some (C, T, N)) (hlen : As.length = n) (hstk : As.reverse ++ vR X b :: st = stk) (hst : (st.map fun v => v.category).sum ≤ 8) (hdg : decode cc pc = .ok (.invokevirtual index, 3)) (hq : pc + 3 = q) (kk : J p l e R s m args below meth c cells slots Q H0 X nL M q lv (vI v :: st)) : J p l e R s m args below meth c cells slots Q H0 X nL M pc lv stk := by
  exact j_callVI F As hM hG hw hd hR hsh hcl hlen hstk hst hdg hq (fun r M' h => by rw [h.1, h.2]; exact kk)
theorem j_callVZ (F : Fx p s m args c cc own Ts nL X) {y : MethodName} {ws ws' : List Cond} {bytes : ByteArray} {maxL k index n : Nat} {ret : Option FieldType} (As : List Value) {stk : List Value} {P N1 : Prop} {b ci n0 N : Nat} {C : String} {T : u_T} {fs : List (Option Nat)} (hM : CtI l X y ws k (vR X b :: As) M (fun x M' => M' = M ∧ (x = 1 ∧ P ∨ x = 0 ∧ N1))) (hG : GoodIn Ts (wsV own index C y ws)) (hw : ws = Cond.code y bytes maxL ret :: ws') (hd : y.cls = C ∧ y.cls ≠ "java/lang/invoke/MethodHandle" ∧ y.cls ≠ "java/lang/invoke/VarHandle" ∧ (parseMethodDescriptor y.desc).map (fun d => d.parameters.length) = some n) (hR : k + 1 ≤ R.frames ∧ 8 + (maxL + 11) + 40 * k ≤ R.locals ∧ cells ≤ R.cells ∧ slots ≤ R.slots) (hsh : shs[b]? = some (ci + 3, n0, fs)) (hcl : vwCl[ci]? = some (C, T, N)) (hlen : As.length = n) (hstk : As.reverse ++ vR X b :: st = stk) (hst : (st.map fun v => v.category).sum ≤ 8) (hdg : decode cc pc = .ok (.invokevirtual index, 3)) (hq : pc + 3 = q) (k1 : P → J p l e R s m args below meth c cells slots Q H0 X nL M q lv (vI 1 :: st)) (k0 : N1 → J p l e R s m args below meth c cells slots Q H0 X nL M q lv (vI 0 :: st)) : J p l e R s m args below meth c cells slots Q H0 X nL M pc lv stk := by
  refine j_callVI F As hM hG hw hd hR hsh hcl hlen hstk hst hdg hq (fun r M' h => ?_)
  obtain ⟨h1, h2⟩ := h
  rw [h1]
  rcases h2 with ⟨e, h2⟩ | ⟨e, h2⟩
  · rw [e]; exact k1 h2
  · rw [e]; exact k0 h2
theorem j_callVP (F : Fx p s m args c cc own Ts nL X) {y : MethodName} {ws ws' : List Cond} {bytes : ByteArray} {maxL k index n : Nat} {ret : Option FieldType} (As : List Value) {stk : List Value} {P : Int → Prop} {b ci n0 N : Nat} {C : String} {T : u_T} {fs : List (Option Nat)} (hM : CtI l X y ws k (vR X b :: As) M (fun x M' => M' = M ∧ P x)) (hG : GoodIn Ts (wsV own index C y ws)) (hw : ws = Cond.code y bytes maxL ret :: ws') (hd : y.cls = C ∧ y.cls ≠ "java/lang/invoke/MethodHandle" ∧ y.cls ≠ "java/lang/invoke/VarHandle" ∧ (parseMethodDescriptor y.desc).map (fun d => d.parameters.length) = some n) (hR : k + 1 ≤ R.frames ∧ 8 + (maxL + 11) + 40 * k ≤ R.locals ∧ cells ≤ R.cells ∧ slots ≤ R.slots) (hsh : shs[b]? = some (ci + 3, n0, fs)) (hcl : vwCl[ci]? = some (C, T, N)) (hlen : As.length = n) (hstk : As.reverse ++ vR X b :: st = stk) (hst : (st.map fun v => v.category).sum ≤ 8) (hdg : decode cc pc = .ok (.invokevirtual index, 3)) (hq : pc + 3 = q) (kk : ∀ r, P r → J p l e R s m args below meth c cells slots Q H0 X nL M q lv (vI r :: st)) : J p l e R s m args below meth c cells slots Q H0 X nL M pc lv stk := by
  exact j_callVI F As hM hG hw hd hR hsh hcl hlen hstk hst hdg hq (fun r M' h => by rw [h.1]; exact kk r h.2)
theorem j_callVM (F : Fx p s m args c cc own Ts nL X) {y : MethodName} {ws ws' : List Cond} {bytes : ByteArray} {maxL k index n : Nat} {ret : Option FieldType} (As : List Value) {stk : List Value} {M1 : Mem} {b ci n0 N : Nat} {C : String} {T : u_T} {fs : List (Option Nat)} (hM : CtV l X y ws k (vR X b :: As) M (fun M' => M' = M1)) (hG : GoodIn Ts (wsV own index C y ws)) (hw : ws = Cond.code y bytes maxL ret :: ws') (hd : y.cls = C ∧ y.cls ≠ "java/lang/invoke/MethodHandle" ∧ y.cls ≠ "java/lang/invoke/VarHandle" ∧ (parseMethodDescriptor y.desc).map (fun d => d.parameters.length) = some n) (hR : k + 1 ≤ R.frames ∧ 8 + (maxL + 11) + 40 * k ≤ R.locals ∧ cells ≤ R.cells ∧ slots ≤ R.slots) (hsh : shs[b]? = some (ci + 3, n0, fs)) (hcl : vwCl[ci]? = some (C, T, N)) (hlen : As.length = n) (hstk : As.reverse ++ vR X b :: st = stk) (hst : (st.map fun v => v.category).sum ≤ 8) (hdg : decode cc pc = .ok (.invokevirtual index, 3)) (hq : pc + 3 = q) (kk : J p l e R s m args below meth c cells slots Q H0 X nL M1 q lv st) : J p l e R s m args below meth c cells slots Q H0 X nL M pc lv stk := by
  exact j_callVV F As hM hG hw hd hR hsh hcl hlen hstk hst hdg hq (fun M' h => by rw [h]; exact kk)
theorem j_callSE (F : Fx p s m args c cc own Ts nL X) {y : MethodName} {ws ws' : List Cond} {bytes : ByteArray} {maxL k index n : Nat} {ret : Option FieldType} (As : List Value) {stk : List Value} {v : Int} (hM : CtI l X y ws k As M (fun x M' => M' = M ∧ x = v)) (hG : GoodIn Ts (va_wsS own index y ws)) (hw : ws = Cond.code y bytes maxL ret :: ws') (hd : y.cls ≠ "java/lang/invoke/MethodHandle" ∧ y.cls ≠ "java/lang/invoke/VarHandle" ∧ (parseMethodDescriptor y.desc).map (fun d => d.parameters.length) = some n) (hR : k + 1 ≤ R.frames ∧ 8 + (maxL + 11) + 40 * k ≤ R.locals ∧ cells ≤ R.cells ∧ slots ≤ R.slots) (hlen : As.length = n) (hstk : As.reverse ++ st = stk) (hst : (st.map fun v => v.category).sum ≤ 8) (hdg : decode cc pc = .ok (.invokestatic index, 3)) (hq : pc + 3 = q) (kk : J p l e R s m args below meth c cells slots Q H0 X nL M q lv (vI v :: st)) : J p l e R s m args below meth c cells slots Q H0 X nL M pc lv stk := by
  exact j_callSI F As hM hG hw hd hR hlen hstk hst hdg hq (fun r M' h => by rw [h.1, h.2]; exact kk)
theorem j_callSZ (F : Fx p s m args c cc own Ts nL X) {y : MethodName} {ws ws' : List Cond} {bytes : ByteArray} {maxL k index n : Nat} {ret : Option FieldType} (As : List Value) {stk : List Value} {P N1 : Prop} (hM : CtI l X y ws k As M (fun x M' => M' = M ∧ (x = 1 ∧ P ∨ x = 0 ∧ N1))) (hG : GoodIn Ts (va_wsS own index y ws)) (hw : ws = Cond.code y bytes maxL ret :: ws') (hd : y.cls ≠ "java/lang/invoke/MethodHandle" ∧ y.cls ≠ "java/lang/invoke/VarHandle" ∧ (parseMethodDescriptor y.desc).map (fun d => d.parameters.length) = some n) (hR : k + 1 ≤ R.frames ∧ 8 + (maxL + 11) + 40 * k ≤ R.locals ∧ cells ≤ R.cells ∧ slots ≤ R.slots) (hlen : As.length = n) (hstk : As.reverse ++ st = stk) (hst : (st.map fun v => v.category).sum ≤ 8) (hdg : decode cc pc = .ok (.invokestatic index, 3)) (hq : pc + 3 = q) (k1 : P → J p l e R s m args below meth c cells slots Q H0 X nL M q lv (vI 1 :: st)) (k0 : N1 → J p l e R s m args below meth c cells slots Q H0 X nL M q lv (vI 0 :: st)) : J p l e R s m args below meth c cells slots Q H0 X nL M pc lv stk := by
  refine j_callSI F As hM hG hw hd hR hlen hstk hst hdg hq (fun r M' h => ?_)
  obtain ⟨h1, h2⟩ := h
  rw [h1]
  rcases h2 with ⟨e, h2⟩ | ⟨e, h2⟩
  · rw [e]; exact k1 h2
  · rw [e]; exact k0 h2
theorem j_callSP (F : Fx p s m args c cc own Ts nL X) {y : MethodName} {ws ws' : List Cond} {bytes : ByteArray} {maxL k index n : Nat} {ret : Option FieldType} (As : List Value) {stk : List Value} {P : Int → Prop} (hM : CtI l X y ws k As M (fun x M' => M' = M ∧ P x)) (hG : GoodIn Ts (va_wsS own index y ws)) (hw : ws = Cond.code y bytes maxL ret :: ws') (hd : y.cls ≠ "java/lang/invoke/MethodHandle" ∧ y.cls ≠ "java/lang/invoke/VarHandle" ∧ (parseMethodDescriptor y.desc).map (fun d => d.parameters.length) = some n) (hR : k + 1 ≤ R.frames ∧ 8 + (maxL + 11) + 40 * k ≤ R.locals ∧ cells ≤ R.cells ∧ slots ≤ R.slots) (hlen : As.length = n) (hstk : As.reverse ++ st = stk) (hst : (st.map fun v => v.category).sum ≤ 8) (hdg : decode cc pc = .ok (.invokestatic index, 3)) (hq : pc + 3 = q) (kk : ∀ r, P r → J p l e R s m args below meth c cells slots Q H0 X nL M q lv (vI r :: st)) : J p l e R s m args below meth c cells slots Q H0 X nL M pc lv stk := by
  exact j_callSI F As hM hG hw hd hR hlen hstk hst hdg hq (fun r M' h => by rw [h.1]; exact kk r h.2)
theorem j_callSM (F : Fx p s m args c cc own Ts nL X) {y : MethodName} {ws ws' : List Cond} {bytes : ByteArray} {maxL k index n : Nat} {ret : Option FieldType} (As : List Value) {stk : List Value} {M1 : Mem} (hM : CtV l X y ws k As M (fun M' => M' = M1)) (hG : GoodIn Ts (va_wsS own index y ws)) (hw : ws = Cond.code y bytes maxL ret :: ws') (hd : y.cls ≠ "java/lang/invoke/MethodHandle" ∧ y.cls ≠ "java/lang/invoke/VarHandle" ∧ (parseMethodDescriptor y.desc).map (fun d => d.parameters.length) = some n) (hR : k + 1 ≤ R.frames ∧ 8 + (maxL + 11) + 40 * k ≤ R.locals ∧ cells ≤ R.cells ∧ slots ≤ R.slots) (hlen : As.length = n) (hstk : As.reverse ++ st = stk) (hst : (st.map fun v => v.category).sum ≤ 8) (hdg : decode cc pc = .ok (.invokestatic index, 3)) (hq : pc + 3 = q) (kk : J p l e R s m args below meth c cells slots Q H0 X nL M1 q lv st) : J p l e R s m args below meth c cells slots Q H0 X nL M pc lv stk := by
  exact j_callSV F As hM hG hw hd hR hlen hstk hst hdg hq (fun M' h => by rw [h]; exact kk)
end JC
end
section
/-! ===== sums over a row, rows and pages among the cells ===== -/
def sumN (f : Int → Int) : Nat → Int
  | 0 => 0
  | k + 1 => sumN f k + f k
def cnt (f : Int → Int) (k : Int) : Int := sumN f k.toNat
theorem cnt_0 (f : Int → Int) : cnt f 0 = 0 := rfl
theorem cnt_s (f : Int → Int) {k : Int} (h : 0 ≤ k) : cnt f (k + 1) = cnt f k + f k := by
  obtain ⟨n, rfl⟩ := Int.eq_ofNat_of_zero_le h
  show sumN f ((n : Int) + 1).toNat = sumN f ((n : Int)).toNat + f n
  rw [show ((n : Int) + 1).toNat = n + 1 by omega, show ((n : Int)).toNat = n by omega]
  rfl
theorem sumN_congr {f g : Int → Int} : ∀ (k : Nat), (∀ j : Int, 0 ≤ j → j < k → f j = g j) → sumN f k = sumN g k
  | 0, _ => rfl
  | k + 1, h => by
    show sumN f k + f k = sumN g k + g k
    rw [sumN_congr k (fun j h0 h1 => h j h0 (by omega)), h k (by omega) (by omega)]
theorem cnt_congr {f g : Int → Int} {k : Int} (h : ∀ j : Int, 0 ≤ j → j < k → f j = g j) : cnt f k = cnt g k :=
  sumN_congr k.toNat (fun j h0 h1 => h j h0 (by omega))
def isRow (r n : Nat) : Prop := shs[r]? = some (5, 0, [some (r + 1)]) ∧ shs[r + 1]? = some (0, n, [])
def isPage (c : Nat) : Prop := shs[c]? = some (4, 0, [none, none, none, some (c + 1), some (c + 3), some (c + 5)]) ∧ isRow (c + 1) 24 ∧ isRow (c + 3) 24 ∧ isRow (c + 5) 24
def isSheet (c : Nat) : Prop := shs[c]? = some (7, 0, [some (c + 1), some (c + 3), some (c + 5), some (c + 7)]) ∧ isRow (c + 1) 24 ∧ isRow (c + 3) 24 ∧ isRow (c + 5) 24 ∧ isRow (c + 7) 24
def gt (M : Mem) (a n : Nat) (i : Int) : Int := if 0 ≤ i ∧ i < (n : Int) then M a i else 0
def stt (M : Mem) (a n : Nat) (i v : Int) : Mem := if 0 ≤ i ∧ i < (n : Int) then mset M a i v else M
def mclr (M : Mem) (a : Nat) (n : Int) : Mem := fun c j => if c = a ∧ 0 ≤ j ∧ j < n then 0 else M c j
def mcpy (M : Mem) (a b : Nat) (n : Int) : Mem := fun c j => if c = a ∧ 0 ≤ j ∧ j < n then M b j else M c j
theorem mclr_0 (M : Mem) (a : Nat) : mclr M a 0 = M := by
  funext c j
  exact if_neg (fun h => by omega)
theorem mcpy_0 (M : Mem) (a b : Nat) : mcpy M a b 0 = M := by
  funext c j
  exact if_neg (fun h => by omega)
theorem mclr_s (M : Mem) (a : Nat) {k : Int} (h : 0 ≤ k) : mset (mclr M a k) a k 0 = mclr M a (k + 1) := by
  funext c j
  unfold mset mclr
  by_cases h1 : c = a ∧ j = k
  · rw [if_pos h1, if_pos ⟨h1.1, by omega, by omega⟩]
  · rw [if_neg h1]
    by_cases h2 : c = a ∧ 0 ≤ j ∧ j < k
    · rw [if_pos h2, if_pos ⟨h2.1, by omega, by omega⟩]
    · rw [if_neg h2, if_neg (fun h3 => by
        by_cases hj : j = k
        · exact h1 ⟨h3.1, hj⟩
        · exact h2 ⟨h3.1, h3.2.1, by omega⟩)]
theorem mcpy_at (M : Mem) {a b : Nat} (hab : b ≠ a) (k j : Int) : mcpy M a b k b j = M b j := if_neg (fun h => hab h.1)
theorem mcpy_s (M : Mem) {a b : Nat} {k : Int} (h : 0 ≤ k) : mset (mcpy M a b k) a k (M b k) = mcpy M a b (k + 1) := by
  funext c j
  unfold mset mcpy
  by_cases h1 : c = a ∧ j = k
  · rw [if_pos h1, if_pos ⟨h1.1, by omega, by omega⟩, h1.2]
  · rw [if_neg h1]
    by_cases h2 : c = a ∧ 0 ≤ j ∧ j < k
    · rw [if_pos h2, if_pos ⟨h2.1, by omega, by omega⟩]
    · rw [if_neg h2, if_neg (fun h3 => by
        by_cases hj : j = k
        · exact h1 ⟨h3.1, hj⟩
        · exact h2 ⟨h3.1, h3.2.1, by omega⟩)]
theorem gt_in {M : Mem} {a n : Nat} {i : Int} (h0 : 0 ≤ i) (h1 : i < (n : Int)) : gt M a n i = M a i := if_pos ⟨h0, h1⟩
theorem gt_out {M : Mem} {a n : Nat} {i : Int} (h : i < 0 ∨ (n : Int) ≤ i) : gt M a n i = 0 := if_neg (fun z => by omega)
theorem stt_in {M : Mem} {a n : Nat} {i v : Int} (h0 : 0 ≤ i) (h1 : i < (n : Int)) : stt M a n i v = mset M a i v := if_pos ⟨h0, h1⟩
theorem stt_out {M : Mem} {a n : Nat} {i v : Int} (h : i < 0 ∨ (n : Int) ≤ i) : stt M a n i v = M := if_neg (fun z => by omega)
/-- where the next line begins, or the number of words -/
def EndP (b : Int → Int) (n f r : Int) : Prop := (∀ j, f < j → j < r → b j ≠ 1) ∧ (r < n → b r = 1 ∧ f < r) ∧ (r ≤ n) ∧ (f < n → f < r)
/-- the first word of the line of a number -/
def FstP (b : Int → Int) (n l r : Int) : Prop := (∀ j, 0 ≤ j → j < r → cnt b (j + 1) ≤ l) ∧ (r < n → l < cnt b (r + 1)) ∧ 0 ≤ r ∧ r ≤ n
theorem EndP_uniq {b : Int → Int} {n f x y : Int} (hx : EndP b n f x) (hy : EndP b n f y) : x = y := by
  have key : ∀ {x y : Int}, EndP b n f x → EndP b n f y → ¬ x < y := by
    intro x y hx hy h
    have h1 := hx.2.1 (by have := hy.2.2.1; omega)
    exact hy.1 x h1.2 h h1.1
  have h1 := key hx hy
  have h2 := key hy hx
  omega
theorem cnt_mono {f : Int → Int} {lo hi a : Int} (ha : 0 ≤ a) : ∀ (k : Nat), (∀ j, a ≤ j → j < a + k → lo ≤ f j ∧ f j ≤ hi) → lo * k ≤ cnt f (a + k) - cnt f a ∧ cnt f (a + k) - cnt f a ≤ hi * k
  | 0, _ => by simp
  | k + 1, h => by
    have ih := cnt_mono (lo := lo) (hi := hi) ha k (fun j h0 h1 => h j h0 (by omega))
    have h2 := h (a + k) (by omega) (by omega)
    have e : cnt f (a + ((k + 1 : Nat) : Int)) = cnt f (a + k) + f (a + k) := by
      rw [show a + ((k + 1 : Nat) : Int) = (a + k) + 1 by omega]
      exact cnt_s f (by omega)
    rw [e]
    have e1 : lo * ((k + 1 : Nat) : Int) = lo * k + lo := by rw [show ((k + 1 : Nat) : Int) = (k : Int) + 1 by omega, Int.mul_add, Int.mul_one]
    have e2 : hi * ((k + 1 : Nat) : Int) = hi * k + hi := by rw [show ((k + 1 : Nat) : Int) = (k : Int) + 1 by omega, Int.mul_add, Int.mul_one]
    rw [e1, e2]
    omega
theorem cnt_bd {f : Int → Int} {a b : Int} (ha : 0 ≤ a) (hab : a ≤ b) (h : ∀ j, a ≤ j → j < b → 0 ≤ f j ∧ f j ≤ 8) : 0 ≤ cnt f b - cnt f a ∧ cnt f b - cnt f a ≤ 8 * (b - a) := by
  have h1 := cnt_mono (f := f) (lo := 0) (hi := 8) ha (b - a).toNat (fun j h0 h1 => h j h0 (by omega))
  rw [show a + ((b - a).toNat : Int) = b by omega, show ((b - a).toNat : Int) = b - a by omega] at h1
  omega
def exF (L : Int → Int) (W f t : Int) : Int := W - (t - f - 1) - (cnt L t - cnt L f)
theorem exF_bd {L : Int → Int} {W f t : Int} (hL : ∀ j, 0 ≤ j → j < 24 → 0 ≤ L j ∧ L j ≤ 8) (hW : 0 ≤ W ∧ W ≤ 40) (hf : 0 ≤ f) (hft : f ≤ t) (ht : t ≤ 24) : -300 ≤ exF L W f t ∧ exF L W f t ≤ 41 := by
  have h := cnt_bd (f := L) hf hft (fun j h0 h1 => hL j (by omega) (by omega))
  unfold exF
  omega
theorem exF_inR {L : Int → Int} {W f t : Int} (hL : ∀ j, 0 ≤ j → j < 24 → 0 ≤ L j ∧ L j ≤ 8) (hW : 0 ≤ W ∧ W ≤ 40) (hf : 0 ≤ f) (hft : f ≤ t) (ht : t ≤ 24) : inR (exF L W f t) := by
  have h := exF_bd hL hW hf hft ht
  exact ⟨by omega, by omega⟩
/-- where the line begins that word k - 1 is in, when lines are filled greedily -/
def ffN (L : Int → Int) (W : Int) : Nat → Int
  | 0 => 0
  | k + 1 => if exF L W (ffN L W k) ((k : Int) + 1) < 0 then (k : Int) else ffN L W k
def ffst (L : Int → Int) (W k : Int) : Int := ffN L W k.toNat
theorem ffst_0 (L : Int → Int) (W : Int) : ffst L W 0 = 0 := rfl
theorem ffst_s (L : Int → Int) (W : Int) {k : Int} (h : 0 ≤ k) : ffst L W (k + 1) = if exF L W (ffst L W k) (k + 1) < 0 then k else ffst L W k := by
  obtain ⟨n, rfl⟩ := Int.eq_ofNat_of_zero_le h
  show ffN L W ((n : Int) + 1).toNat = _
  rw [show ((n : Int) + 1).toNat = n + 1 by omega, ffst, show ((n : Int)).toNat = n by omega]
  rfl
theorem ffst_bd (L : Int → Int) (W : Int) {k : Int} (h : 0 ≤ k) : 0 ≤ ffst L W k ∧ (ffst L W k < k ∨ k = 0 ∧ ffst L W k = 0) := by
  obtain ⟨n, rfl⟩ := Int.eq_ofNat_of_zero_le h
  clear h
  induction n with
  | zero => exact ⟨Int.le_refl _, Or.inr ⟨rfl, rfl⟩⟩
  | succ n ih =>
    rw [show ((n + 1 : Nat) : Int) = (n : Int) + 1 by omega, ffst_s L W (by omega)]
    split <;> omega
theorem ffst_fix (L : Int → Int) (W : Int) {k : Int} (h : 0 ≤ k) : ffst L W (ffst L W k + 1) = ffst L W k := by
  obtain ⟨n, rfl⟩ := Int.eq_ofNat_of_zero_le h
  clear h
  induction n with
  | zero =>
    show ffst L W (0 + 1) = 0
    rw [ffst_s L W (by omega), ffst_0]
    split <;> rfl
  | succ n ih =>
    rw [show ((n + 1 : Nat) : Int) = (n : Int) + 1 by omega]
    have hs := ffst_s L W (k := (n : Int)) (by omega)
    by_cases hc : exF L W (ffst L W n) ((n : Int) + 1) < 0
    · rw [if_pos hc] at hs
      rw [hs, hs]
    · rw [if_neg hc] at hs
      rw [hs]
      exact ih
/-! lines: where each begins -/
def Lines (b : Int → Int) (n L : Int) (s : Int → Int) : Prop := 0 ≤ L ∧ s 0 = 0 ∧ s L = n ∧ ∀ l, 0 ≤ l → l < L → s l < s (l + 1) ∧ b (s l) = 1 ∧ ∀ w, s l < w → w < s (l + 1) → b w = 0
theorem Lines.mono {b : Int → Int} {n L : Int} {s : Int → Int} (h : Lines b n L s) {x : Int} (hx : 0 ≤ x) : ∀ (k : Nat), x + k ≤ L → s x + k ≤ s (x + k)
  | 0, _ => by simp
  | k + 1, hk => by
    have ih := h.mono hx k (by omega)
    have h1 := (h.2.2.2 (x + k) (by omega) (by omega)).1
    rw [show x + ((k + 1 : Nat) : Int) = x + k + 1 by omega]
    omega
theorem Lines.le {b : Int → Int} {n L : Int} {s : Int → Int} (h : Lines b n L s) {x y : Int} (hx : 0 ≤ x) (hxy : x ≤ y) (hy : y ≤ L) : s x + (y - x) ≤ s y := by
  have h1 := h.mono hx (y - x).toNat (by omega)
  rw [show x + ((y - x).toNat : Int) = y by omega, show ((y - x).toNat : Int) = y - x by omega] at h1
  exact h1
theorem Lines.bd {b : Int → Int} {n L : Int} {s : Int → Int} (h : Lines b n L s) {l : Int} (h0 : 0 ≤ l) (h1 : l ≤ L) : l ≤ s l ∧ s l ≤ n - (L - l) := by
  have h2 := h.le (x := 0) (y := l) (by omega) h0 h1
  have h3 := h.le (x := l) (y := L) h0 h1 (by omega)
  rw [h.2.1] at h2
  rw [h.2.2.1] at h3
  omega
theorem Lines.cntw {b : Int → Int} {n L : Int} {s : Int → Int} (h : Lines b n L s) {l : Int} (h0 : 0 ≤ l) (h1 : l < L) (hc : cnt b (s l) = l) : ∀ (k : Nat), s l + k < s (l + 1) → cnt b (s l + k + 1) = l + 1
  | 0, hk => by
    have hb := h.bd h0 (by omega)
    rw [show s l + ((0 : Nat) : Int) + 1 = s l + 1 by omega, cnt_s _ (by omega), hc, (h.2.2.2 l h0 h1).2.1]
  | k + 1, hk => by
    have hb := h.bd h0 (by omega)
    have ih := h.cntw h0 h1 hc k (by omega)
    rw [show s l + ((k + 1 : Nat) : Int) + 1 = (s l + k + 1) + 1 by omega, cnt_s _ (by omega), ih, (h.2.2.2 l h0 h1).2.2 _ (by omega) (by omega)]
    omega
theorem Lines.cntN {b : Int → Int} {n L : Int} {s : Int → Int} (h : Lines b n L s) : ∀ (k : Nat), (k : Int) ≤ L → cnt b (s k) = k
  | 0, _ => by
    show cnt b (s 0) = 0
    rw [h.2.1, cnt_0]
  | k + 1, hk => by
    have ih := h.cntN k (by omega)
    have h1 := (h.2.2.2 k (by omega) (by omega)).1
    have h2 := h.cntw (l := k) (by omega) (by omega) ih (s (k + 1) - s k - 1).toNat (by omega)
    rw [show s k + ((s (k + 1) - s k - 1).toNat : Int) + 1 = s (k + 1) by omega] at h2
    rw [show ((k + 1 : Nat) : Int) = (k : Int) + 1 by omega]
    exact h2
theorem Lines.num {b : Int → Int} {n L : Int} {s : Int → Int} (h : Lines b n L s) {l : Int} (h0 : 0 ≤ l) (h1 : l ≤ L) : cnt b (s l) = l := by
  obtain ⟨k, rfl⟩ := Int.eq_ofNat_of_zero_le h0
  exact h.cntN k h1
theorem Lines.cnt1 {b : Int → Int} {n L : Int} {s : Int → Int} (h : Lines b n L s) {l w : Int} (h0 : 0 ≤ l) (h1 : l < L) (h2 : s l ≤ w) (h3 : w < s (l + 1)) : cnt b (w + 1) = l + 1 := by
  have hc := h.cntw h0 h1 (h.num h0 (by omega)) (w - s l).toNat (by omega)
  rw [show s l + ((w - s l).toNat : Int) + 1 = w + 1 by omega] at hc
  exact hc
theorem Lines.segN {b : Int → Int} {n L : Int} {s : Int → Int} (h : Lines b n L s) {w : Int} (hw : 0 ≤ w) : ∀ (k : Nat), (k : Int) ≤ L → w < s k → ∃ l : Int, 0 ≤ l ∧ l < k ∧ s l ≤ w ∧ w < s (l + 1)
  | 0, _, h1 => by
    have h2 : w < s 0 := h1
    rw [h.2.1] at h2
    omega
  | k + 1, hk, h1 => by
    by_cases h2 : w < s k
    · obtain ⟨l, a1, a2, a3, a4⟩ := h.segN hw k (by omega) h2
      exact ⟨l, a1, by omega, a3, a4⟩
    · exact ⟨k, by omega, by omega, by omega, by rw [show (k : Int) + 1 = ((k + 1 : Nat) : Int) by omega]; exact h1⟩
theorem Lines.seg {b : Int → Int} {n L : Int} {s : Int → Int} (h : Lines b n L s) {w : Int} (hw : 0 ≤ w) (h1 : w < n) : ∃ l, 0 ≤ l ∧ l < L ∧ s l ≤ w ∧ w < s (l + 1) := by
  have h0 := h.1
  obtain ⟨l, a1, a2, a3, a4⟩ := h.segN hw L.toNat (by omega) (by rw [show (L.toNat : Int) = L by omega, h.2.2.1]; exact h1)
  exact ⟨l, a1, by omega, a3, a4⟩
theorem Lines.bin {b : Int → Int} {n L : Int} {s : Int → Int} (h : Lines b n L s) {w : Int} (hw : 0 ≤ w) (h1 : w < n) : b w = 0 ∨ b w = 1 := by
  obtain ⟨l, a1, a2, a3, a4⟩ := h.seg hw h1
  have h2 := h.2.2.2 l a1 a2
  by_cases e : w = s l
  · rw [e]; exact Or.inr h2.2.1
  · exact Or.inl (h2.2.2 w (by omega) a4)
theorem Lines.at {b : Int → Int} {n L : Int} {s : Int → Int} (h : Lines b n L s) {w : Int} (hw : 0 ≤ w) (h1 : w < n) (hb : b w = 1) : ∃ l, 0 ≤ l ∧ l < L ∧ w = s l := by
  obtain ⟨l, a1, a2, a3, a4⟩ := h.seg hw h1
  have h2 := h.2.2.2 l a1 a2
  by_cases e : w = s l
  · exact ⟨l, a1, a2, e⟩
  · have := h2.2.2 w (by omega) a4
    omega
theorem Lines.total {b : Int → Int} {n L : Int} {s : Int → Int} (h : Lines b n L s) : cnt b n = L := by
  have h1 := h.num h.1 (Int.le_refl L)
  rw [h.2.2.1] at h1
  exact h1
theorem Lines.cntbd {b : Int → Int} {n L : Int} {s : Int → Int} (h : Lines b n L s) {w : Int} (hw : 0 ≤ w) (h1 : w < n) : 1 ≤ cnt b (w + 1) ∧ cnt b (w + 1) ≤ L := by
  obtain ⟨l, a1, a2, a3, a4⟩ := h.seg hw h1
  rw [h.cnt1 a1 a2 a3 a4]
  omega
theorem Lines.Lle {b : Int → Int} {n L : Int} {s : Int → Int} (h : Lines b n L s) : L ≤ n := by
  have h1 := h.bd h.1 (Int.le_refl L)
  rw [h.2.2.1] at h1
  omega
theorem Lines.fst {b : Int → Int} {n L : Int} {s : Int → Int} (h : Lines b n L s) {l r : Int} (h0 : 0 ≤ l) (h1 : l < L) (hr : FstP b n l r) : r = s l := by
  have hb := h.bd h0 (by omega)
  have h2 := (h.2.2.2 l h0 h1).1
  have hb1 := h.bd (l := l + 1) (by omega) (by omega)
  have e := h.cnt1 h0 h1 (Int.le_refl _) h2
  by_cases hlt : s l < r
  · have := hr.1 (s l) (by omega) hlt
    omega
  · by_cases hgt : r < s l
    · have h3 := hr.2.1 (by omega)
      obtain ⟨m, a1, a2, a3, a4⟩ := h.seg hr.2.2.1 (show r < n by omega)
      rw [h.cnt1 a1 a2 a3 a4] at h3
      have := h.le (x := l) (y := m) h0 (by omega) (by omega)
      omega
    · omega
theorem Lines.fstneg {b : Int → Int} {n L : Int} {s : Int → Int} (h : Lines b n L s) {l r : Int} (h0 : l < 0) (hr : FstP b n l r) : r = 0 := by
  by_cases hz : 0 < r
  · have h1 := hr.1 0 (by omega) hz
    have h2 := h.cntbd (w := 0) (by omega) (by have := hr.2.2.2; omega)
    omega
  · have := hr.2.2.1
    omega
theorem Lines.fstbig {b : Int → Int} {n L : Int} {s : Int → Int} (h : Lines b n L s) {l r : Int} (h0 : L ≤ l) (hr : FstP b n l r) : r = n := by
  by_cases hz : r < n
  · have h1 := hr.2.1 hz
    have h2 := h.cntbd hr.2.2.1 hz
    omega
  · have := hr.2.2.2
    omega
theorem Lines.end {b : Int → Int} {n L : Int} {s : Int → Int} (h : Lines b n L s) {l r : Int} (h0 : 0 ≤ l) (h1 : l < L) (hr : EndP b n (s l) r) : r = s (l + 1) := by
  have h2 := h.2.2.2 l h0 h1
  have hb := h.bd (l := l) h0 (by omega)
  have hb1 := h.bd (l := l + 1) (by omega) (by omega)
  have hf := hr.2.2.2 (by omega)
  by_cases hlt : r < s (l + 1)
  · have h3 := hr.2.1 (by omega)
    have := h2.2.2 r h3.2 hlt
    omega
  · by_cases hgt : s (l + 1) < r
    · by_cases hL : l + 1 < L
      · exact absurd (h.2.2.2 (l + 1) (by omega) hL).2.1 (hr.1 _ (by omega) hgt)
      · have e : l + 1 = L := by omega
        rw [e, h.2.2.1] at hgt
        have := hr.2.2.1
        omega
    · omega
theorem EndP_n {b : Int → Int} {n r : Int} (hr : EndP b n n r) : r = n := by
  by_cases h : r < n
  · have := (hr.2.1 h).2
    omega
  · have := hr.2.2.1
    omega
theorem Lines.endP {b : Int → Int} {n L : Int} {s : Int → Int} (h : Lines b n L s) {l : Int} (h0 : 0 ≤ l) (h1 : l < L) : EndP b n (s l) (s (l + 1)) := by
  have h2 := h.2.2.2 l h0 h1
  have hb := h.bd (l := l) h0 (by omega)
  have hb1 := h.bd (l := l + 1) (by omega) (by omega)
  refine ⟨fun j g0 g1 => by have := h2.2.2 j g0 g1; omega, fun hlt => ⟨?_, h2.1⟩, by omega, fun _ => h2.1⟩
  by_cases hL : l + 1 < L
  · exact (h.2.2.2 (l + 1) (by omega) hL).2.1
  · rw [show l + 1 = L by omega, h.2.2.1] at hlt
    omega
theorem fill_row {L : Int → Int} {W k f g : Int} {M1 : Mem} {a : Nat} (h0 : 0 ≤ k) (hrow : ∀ j, 0 ≤ j → j < 24 → M1 a j = if j < k ∧ ffst L W (j + 1) = j then 1 else 0) (hs : ffst L W (k + 1) = g) (hbd : 0 ≤ f ∧ (f < k ∨ k = 0 ∧ f = 0)) (hfix : ffst L W (f + 1) = f) (hg : g = f ∨ g = k) : ∀ j, 0 ≤ j → j < 24 → mset M1 a g 1 a j = if j < k + 1 ∧ ffst L W (j + 1) = j then 1 else 0 := by
  intro j g0 g1
  by_cases hj : j = g
  · subst hj
    rw [mset_at, if_pos]
    refine ⟨by omega, ?_⟩
    rcases hg with h | h
    · rw [h]; exact hfix
    · rw [← h] at hs; exact hs
  · rw [mset_ne2 hj, hrow j g0 g1]
    by_cases hjk : j = k
    · subst hjk
      rw [if_neg (fun z => by omega), if_neg (fun z => hj (by rw [← hs]; exact z.2.symm))]
    · by_cases z : j < k ∧ ffst L W (j + 1) = j
      · rw [if_pos z, if_pos ⟨by omega, z.2⟩]
      · rw [if_neg z, if_neg (fun y => z ⟨by omega, y.2⟩)]
def PgCopy (M M' : Mem) (c o : Nat) : Prop := (M' c 0 = M o 0 ∧ M' c 1 = M o 1 ∧ M' c 2 = M o 2) ∧ (∀ j, 0 ≤ j → j < 24 → M' (c + 2) j = M (o + 2) j ∧ M' (c + 4) j = M (o + 4) j ∧ M' (c + 6) j = M (o + 6) j) ∧ ∀ d, d ≠ c → d ≠ c + 2 → d ≠ c + 4 → d ≠ c + 6 → M' d = M d
theorem mcpy_ne {M : Mem} {a b d : Nat} {n : Int} (h : d ≠ a) : mcpy M a b n d = M d := by
  funext j
  exact if_neg (fun z => h z.1)
theorem mset_nef {M : Mem} {c d : Nat} {i v : Int} (h : d ≠ c) : mset M c i v d = M d := by
  funext j
  exact if_neg (fun z => h z.1)
theorem mcpy_in {M : Mem} {a b : Nat} {n j : Int} (h0 : 0 ≤ j) (h1 : j < n) : mcpy M a b n a j = M b j := if_pos ⟨rfl, h0, h1⟩
theorem mclr_ne {M : Mem} {a d : Nat} {n : Int} (h : d ≠ a) : mclr M a n d = M d := by
  funext j
  exact if_neg (fun z => h z.1)
theorem mclr_in {M : Mem} {a : Nat} {n j : Int} (h0 : 0 ≤ j) (h1 : j < n) : mclr M a n a j = 0 := if_pos ⟨rfl, h0, h1⟩
theorem pgcopy_ok (M : Mem) {c o : Nat} (hd : c + 7 ≤ o ∨ o + 7 ≤ c) : PgCopy M (mcpy (mcpy (mcpy (mset (mset (mset M c 0 (M o 0)) c 1 (M o 1)) c 2 (M o 2)) (c + 2) (o + 2) 24) (c + 4) (o + 4) 24) (c + 6) (o + 6) 24) c o := by
  have n1 : c ≠ c + 6 := by omega
  have n2 : c ≠ c + 4 := by omega
  have n3 : c ≠ c + 2 := by omega
  refine ⟨⟨?_, ?_, ?_⟩, fun j h0 h1 => ⟨?_, ?_, ?_⟩, fun d h1 h2 h3 h4 => ?_⟩
  · rw [mcpy_ne n1, mcpy_ne n2, mcpy_ne n3, mset_ne2 (by decide), mset_ne2 (by decide), mset_at]
  · rw [mcpy_ne n1, mcpy_ne n2, mcpy_ne n3, mset_ne2 (by decide), mset_at]
  · rw [mcpy_ne n1, mcpy_ne n2, mcpy_ne n3, mset_at]
  · rw [mcpy_ne (by omega), mcpy_ne (by omega), mcpy_in h0 h1, mset_nef (by omega), mset_nef (by omega), mset_nef (by omega)]
  · rw [mcpy_ne (by omega), mcpy_in h0 h1, mcpy_ne (by omega), mset_nef (by omega), mset_nef (by omega), mset_nef (by omega)]
  · rw [mcpy_in h0 h1, mcpy_ne (by omega), mcpy_ne (by omega), mset_nef (by omega), mset_nef (by omega), mset_nef (by omega)]
  · rw [mcpy_ne h4, mcpy_ne h3, mcpy_ne h2, mset_nef h1, mset_nef h1, mset_nef h1]
end
section
theorem fl_X2_get_13 : Cond.fieldLink RX2 13 "WhiteRivers$Row" "cells" "[I" ∈ wsX2_get := by decide +kernel
theorem in_X2_get_2 : ∀ w ∈ u_ws RX2 TX2 1, w ∈ wsX2_get := by decide +kernel
set_option maxRecDepth 100000 in
set_option maxHeartbeats 400000 in
theorem ct_X2_get (l : Launch) (X : Cx) (hX : Inj X) (M : Mem) (r n : Nat) (hr : isRow r n) (hn : n < 2147483648) (i : Int) (hi : inR i) : CtI l X yX2_get wsX2_get 0 [vR X r, vI i] M (fun x M' => M' = M ∧ x = gt M (r + 1) n i) := by
  refine CtI_of (cc := cX2_get) (maxL := 2) hX (by decide +kernel) rfl (Nat.le_of_ble_eq_true rfl) ?_
  intro p e s m args below meth c Q F hret
  show J p l e (rm 0) s m args below meth c 0 0 Q s.heap X 2 M 0 [(0, vR X r), (1, vI i)] []
  obtain ⟨hi1, hi2⟩ := hi
  refine j_iload_n (q := 1) F dX2_get_0 rfl rfl 1 rfl ?_
  refine j_if_lt (q := 4) (tgt := 22) F dX2_get_1 (by decide) rfl ⟨by omega, by omega⟩ (fun h1_1 => ?_) (fun h1_1 => ?_)
  · skip
    refine j_iconst (q := 23) F dX2_get_22 rfl ?_
    exact hret _ _ _ _ dX2_get_23 (by refine ⟨rfl, ?_⟩; unfold gt; split <;> omega)
  · skip
    refine j_iload_n (q := 5) F dX2_get_4 rfl rfl 1 rfl ?_
    refine j_aload_n (q := 6) F dX2_get_5 rfl rfl 0 rfl ?_
    refine j_getR (q := 9) (z := r + 1) (index := 13) F (hr).1 rfl in_X2_get_2 0 (by decide) rfl fl_X2_get_13 dX2_get_6 rfl ?_
    refine j_alen (q := 10) F (hr).2 (by decide) dX2_get_9 rfl rfl ?_
    refine j_icmp_ge (q := 13) (tgt := 22) F dX2_get_10 (by decide) rfl ⟨by omega, by omega⟩ ⟨by omega, by omega⟩ (fun h10_2 => ?_) (fun h10_2 => ?_)
    · skip
      refine j_iconst (q := 23) F dX2_get_22 rfl ?_
      exact hret _ _ _ _ dX2_get_23 (by refine ⟨rfl, ?_⟩; unfold gt; split <;> omega)
    · skip
      refine j_aload_n (q := 14) F dX2_get_13 rfl rfl 0 rfl ?_
      refine j_getR (q := 17) (z := r + 1) (index := 13) F (hr).1 rfl in_X2_get_2 0 (by decide) rfl fl_X2_get_13 dX2_get_14 rfl ?_
      refine j_iload_n (q := 18) F dX2_get_17 rfl rfl 1 rfl ?_
      refine j_iald (q := 19) F (hr).2 (by omega) (by omega) hn dX2_get_18 rfl ?_
      refine j_goto (q := 23) F dX2_get_19 (by decide) ?_
      exact hret _ _ _ _ dX2_get_23 (by refine ⟨rfl, ?_⟩; unfold gt; split <;> omega)
theorem fl_X2_set_13 : Cond.fieldLink RX2 13 "WhiteRivers$Row" "cells" "[I" ∈ wsX2_set := by decide +kernel
theorem in_X2_set_2 : ∀ w ∈ u_ws RX2 TX2 1, w ∈ wsX2_set := by decide +kernel
set_option maxRecDepth 100000 in
set_option maxHeartbeats 400000 in
theorem ct_X2_set (l : Launch) (X : Cx) (hX : Inj X) (M : Mem) (r n : Nat) (hr : isRow r n) (hn : n < 2147483648) (i v : Int) (hi : inR i) : CtV l X yX2_set wsX2_set 0 [vR X r, vI i, vI v] M (fun M' => M' = stt M (r + 1) n i v) := by
  refine CtV_of (cc := cX2_set) (maxL := 3) hX (by decide +kernel) rfl (Nat.le_of_ble_eq_true rfl) ?_
  intro p e s m args below meth c Q F hret
  show J p l e (rm 0) s m args below meth c 0 0 Q s.heap X 3 M 0 [(0, vR X r), (1, vI i), (2, vI v)] []
  obtain ⟨hi1, hi2⟩ := hi
  refine j_iload_n (q := 1) F dX2_set_0 rfl rfl 1 rfl ?_
  refine j_if_lt (q := 4) (tgt := 20) F dX2_set_1 (by decide) rfl ⟨by omega, by omega⟩ (fun h1_1 => ?_) (fun h1_1 => ?_)
  · skip
    exact hret _ _ _ dX2_set_20 (by rw [stt_out (by omega)])
  · skip
    refine j_iload_n (q := 5) F dX2_set_4 rfl rfl 1 rfl ?_
    refine j_aload_n (q := 6) F dX2_set_5 rfl rfl 0 rfl ?_
    refine j_getR (q := 9) (z := r + 1) (index := 13) F (hr).1 rfl in_X2_set_2 0 (by decide) rfl fl_X2_set_13 dX2_set_6 rfl ?_
    refine j_alen (q := 10) F (hr).2 (by decide) dX2_set_9 rfl rfl ?_
    refine j_icmp_ge (q := 13) (tgt := 20) F dX2_set_10 (by decide) rfl ⟨by omega, by omega⟩ ⟨by omega, by omega⟩ (fun h10_2 => ?_) (fun h10_2 => ?_)
    · skip
      exact hret _ _ _ dX2_set_20 (by rw [stt_out (by omega)])
    · skip
      refine j_aload_n (q := 14) F dX2_set_13 rfl rfl 0 rfl ?_
      refine j_getR (q := 17) (z := r + 1) (index := 13) F (hr).1 rfl in_X2_set_2 0 (by decide) rfl fl_X2_set_13 dX2_set_14 rfl ?_
      refine j_iload_n (q := 18) F dX2_set_17 rfl rfl 1 rfl ?_
      refine j_iload_n (q := 19) F dX2_set_18 rfl rfl 2 rfl ?_
      refine j_iast (q := 20) F (hr).2 (by omega) (by omega) hn dX2_set_19 rfl ?_
      exact hret _ _ _ dX2_set_20 (by rw [stt_in (by omega) (by omega)])
theorem ct_X2_get_in (l : Launch) (X : Cx) (hX : Inj X) (M : Mem) (r n a : Nat) (hr : isRow r n) (hn : n < 2147483648) (ha : a = r + 1) (i : Int) (h0 : 0 ≤ i) (h1 : i < (n : Int)) : CtI l X yX2_get wsX2_get 0 [vR X r, vI i] M (fun x M' => M' = M ∧ x = M a i) := by
  subst ha
  have h := ct_X2_get l X hX M r n hr hn i ⟨by omega, by omega⟩
  rw [gt_in h0 h1] at h
  exact h
theorem ct_X2_get_out (l : Launch) (X : Cx) (hX : Inj X) (M : Mem) (r n : Nat) (hr : isRow r n) (hn : n < 2147483648) (i : Int) (hi : inR i) (h : i < 0 ∨ (n : Int) ≤ i) : CtI l X yX2_get wsX2_get 0 [vR X r, vI i] M (fun x M' => M' = M ∧ x = 0) := by
  have h2 := ct_X2_get l X hX M r n hr hn i hi
  rw [gt_out h] at h2
  exact h2
theorem ct_X2_set_in (l : Launch) (X : Cx) (hX : Inj X) (M : Mem) (r n a : Nat) (hr : isRow r n) (hn : n < 2147483648) (ha : a = r + 1) (i v : Int) (h0 : 0 ≤ i) (h1 : i < (n : Int)) : CtV l X yX2_set wsX2_set 0 [vR X r, vI i, vI v] M (fun M' => M' = mset M a i v) := by
  subst ha
  have h := ct_X2_set l X hX M r n hr hn i v ⟨by omega, by omega⟩
  rw [stt_in h0 h1] at h
  exact h
theorem fl_X2_clear_13 : Cond.fieldLink RX2 13 "WhiteRivers$Row" "cells" "[I" ∈ wsX2_clear := by decide +kernel
theorem in_X2_clear_2 : ∀ w ∈ u_ws RX2 TX2 1, w ∈ wsX2_clear := by decide +kernel
set_option maxRecDepth 100000 in
set_option maxHeartbeats 400000 in
theorem ct_X2_clear (l : Launch) (X : Cx) (hX : Inj X) (M : Mem) (r n : Nat) (hr : isRow r n) (hn : n < 2147483648) : CtV l X yX2_clear wsX2_clear 0 [vR X r] M (fun M' => M' = mclr M (r + 1) n) := by
  refine CtV_of (cc := cX2_clear) (maxL := 2) hX (by decide +kernel) rfl (Nat.le_of_ble_eq_true rfl) ?_
  intro p e s m args below meth c Q F hret
  show J p l e (rm 0) s m args below meth c 0 0 Q s.heap X 2 M 0 [(0, vR X r)] []
  refine j_iconst (q := 1) F dX2_clear_0 rfl ?_
  refine j_istore_n (q := 2) (lv' := [(0, vR X r), (1, vI 0)]) F dX2_clear_1 rfl rfl (by decide) rfl rfl ?_
  have LP2 : ∀ (nn : Nat) (k : Int) (M1 : Mem), (0 ≤ k) → (k ≤ (n : Int)) → (M1 = mclr M (r + 1) k) → ((n : Int) - k).toNat < nn → J p l e (rm 0) s m args below meth c 0 0 Q s.heap X 2 M1 2 [(0, vR X r), (1, vI k)] [] := by
    intro nn
    induction nn with
    | zero => intro k M1 h0 h1 h2 hm2; exact absurd hm2 (Nat.not_lt_zero _)
    | succ nn ih2 =>
      intro k M1 h0 h1 h2 hm2
      refine j_iload_n (q := 3) F dX2_clear_2 rfl rfl 1 rfl ?_
      refine j_aload_n (q := 4) F dX2_clear_3 rfl rfl 0 rfl ?_
      refine j_getR (q := 7) (z := r + 1) (index := 13) F (hr).1 rfl in_X2_clear_2 0 (by decide) rfl fl_X2_clear_13 dX2_clear_4 rfl ?_
      refine j_alen (q := 8) F (hr).2 (by decide) dX2_clear_7 rfl rfl ?_
      refine j_icmp_ge (q := 11) (tgt := 24) F dX2_clear_8 (by decide) rfl ⟨by omega, by omega⟩ ⟨by omega, by omega⟩ (fun h8_1 => ?_) (fun h8_1 => ?_)
      · skip
        exact hret _ _ _ dX2_clear_24 (by rw [h2, show k = (n : Int) by omega])
      · skip
        refine j_aload_n (q := 12) F dX2_clear_11 rfl rfl 0 rfl ?_
        refine j_getR (q := 15) (z := r + 1) (index := 13) F (hr).1 rfl in_X2_clear_2 0 (by decide) rfl fl_X2_clear_13 dX2_clear_12 rfl ?_
        refine j_iload_n (q := 16) F dX2_clear_15 rfl rfl 1 rfl ?_
        refine j_iconst (q := 17) F dX2_clear_16 rfl ?_
        refine j_iast (q := 18) F (hr).2 (by omega) (by omega) hn dX2_clear_17 rfl ?_
        refine j_iinc (q := 21) (lv' := [(0, vR X r), (1, vI (k + 1))]) F dX2_clear_18 rfl 1 rfl (by decide) rfl rfl ?_
        refine j_goto (q := 2) F dX2_clear_21 (by decide) ?_
        exact ih2 (k + 1) (mset M1 (r + 1) k 0) (by omega) (by omega) (by rw [h2]; exact mclr_s M _ h0) (by omega)
  exact LP2 _ 0 M (by omega) (by omega) (by exact (mclr_0 M _).symm) (Nat.lt_succ_self _)
theorem cd_X2_get : yX2_get.cls = RX2 ∧ yX2_get.cls ≠ "java/lang/invoke/MethodHandle" ∧ yX2_get.cls ≠ "java/lang/invoke/VarHandle" ∧ (parseMethodDescriptor yX2_get.desc).map (fun d => d.parameters.length) = some 1 := by decide +kernel
theorem fl_X2_copyFrom_13 : Cond.fieldLink RX2 13 "WhiteRivers$Row" "cells" "[I" ∈ wsX2_copyFrom := by decide +kernel
theorem in_X2_copyFrom_2 : ∀ w ∈ u_ws RX2 TX2 1, w ∈ wsX2_copyFrom := by decide +kernel
set_option maxRecDepth 100000 in
set_option maxHeartbeats 400000 in
theorem ct_X2_copyFrom (l : Launch) (X : Cx) (hX : Inj X) (M : Mem) (r n : Nat) (hr : isRow r n) (hn : n < 2147483648) (o : Nat) (ho : isRow o n) (hor : o ≠ r) : CtV l X yX2_copyFrom wsX2_copyFrom 1 [vR X r, vR X o] M (fun M' => M' = mcpy M (r + 1) (o + 1) n) := by
  refine CtV_of (cc := cX2_copyFrom) (maxL := 3) hX (by decide +kernel) rfl (Nat.le_of_ble_eq_true rfl) ?_
  intro p e s m args below meth c Q F hret
  show J p l e (rm 1) s m args below meth c 0 0 Q s.heap X 3 M 0 [(0, vR X r), (1, vR X o)] []
  refine j_iconst (q := 1) F dX2_copyFrom_0 rfl ?_
  refine j_istore_n (q := 2) (lv' := [(0, vR X r), (1, vR X o), (2, vI 0)]) F dX2_copyFrom_1 rfl rfl (by decide) rfl rfl ?_
  have LP2 : ∀ (nn : Nat) (k : Int) (M1 : Mem), (0 ≤ k) → (k ≤ (n : Int)) → (M1 = mcpy M (r + 1) (o + 1) k) → ((n : Int) - k).toNat < nn → J p l e (rm 1) s m args below meth c 0 0 Q s.heap X 3 M1 2 [(0, vR X r), (1, vR X o), (2, vI k)] [] := by
    intro nn
    induction nn with
    | zero => intro k M1 h0 h1 h2 hm2; exact absurd hm2 (Nat.not_lt_zero _)
    | succ nn ih2 =>
      intro k M1 h0 h1 h2 hm2
      refine j_iload_n (q := 3) F dX2_copyFrom_2 rfl rfl 2 rfl ?_
      refine j_aload_n (q := 4) F dX2_copyFrom_3 rfl rfl 0 rfl ?_
      refine j_getR (q := 7) (z := r + 1) (index := 13) F (hr).1 rfl in_X2_copyFrom_2 0 (by decide) rfl fl_X2_copyFrom_13 dX2_copyFrom_4 rfl ?_
      refine j_alen (q := 8) F (hr).2 (by decide) dX2_copyFrom_7 rfl rfl ?_
      refine j_icmp_ge (q := 11) (tgt := 28) F dX2_copyFrom_8 (by decide) rfl ⟨by omega, by omega⟩ ⟨by omega, by omega⟩ (fun h8_1 => ?_) (fun h8_1 => ?_)
      · skip
        exact hret _ _ _ dX2_copyFrom_28 (by rw [h2, show k = (n : Int) by omega])
      · skip
        refine j_aload_n (q := 12) F dX2_copyFrom_11 rfl rfl 0 rfl ?_
        refine j_getR (q := 15) (z := r + 1) (index := 13) F (hr).1 rfl in_X2_copyFrom_2 0 (by decide) rfl fl_X2_copyFrom_13 dX2_copyFrom_12 rfl ?_
        refine j_iload_n (q := 16) F dX2_copyFrom_15 rfl rfl 2 rfl ?_
        refine j_aload_n (q := 17) F dX2_copyFrom_16 rfl rfl 1 rfl ?_
        refine j_iload_n (q := 18) F dX2_copyFrom_17 rfl rfl 2 rfl ?_
        refine j_callVE (q := 21) F [vI k] (ct_X2_get_in l X hX M1 o n (o + 1) (ho) hn rfl k (by omega) (by omega)) gX2_copyFrom_X2_get rfl cd_X2_get ⟨by first | decide | (simp only [rm]; omega), by first | decide | (simp only [rm]; omega), by first | decide | (simp only [rm]; omega), by first | decide | (simp only [rm]; omega)⟩ (ho).1 rfl rfl rfl (Nat.le_of_ble_eq_true rfl) dX2_copyFrom_18 rfl ?_
        refine j_iast (q := 22) F (hr).2 (by omega) (by omega) hn dX2_copyFrom_21 rfl ?_
        refine j_iinc (q := 25) (lv' := [(0, vR X r), (1, vR X o), (2, vI (k + 1))]) F dX2_copyFrom_22 rfl 2 rfl (by decide) rfl rfl ?_
        refine j_goto (q := 2) F dX2_copyFrom_25 (by decide) ?_
        exact ih2 (k + 1) (mset M1 (r + 1) k (M1 (o + 1) k)) (by omega) (by omega) (by rw [h2, mcpy_at M (by omega)]; exact mcpy_s M h0) (by omega)
  exact LP2 _ 0 M (by omega) (by omega) (by exact (mcpy_0 M _ _).symm) (Nat.lt_succ_self _)
end
