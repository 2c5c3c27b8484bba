theorem cdL_X6_setWidth : yX6_setWidth.cls = RX6 ∧ yX6_setWidth.cls ≠ "java/lang/invoke/MethodHandle" ∧ yX6_setWidth.cls ≠ "java/lang/invoke/VarHandle" ∧ (parseMethodDescriptor yX6_setWidth.desc).map (fun d => d.parameters.length) = some 1 := by decide +kernel
theorem cdL_X7_setWidth : yX7_setWidth.cls = RX7 ∧ yX7_setWidth.cls ≠ "java/lang/invoke/MethodHandle" ∧ yX7_setWidth.cls ≠ "java/lang/invoke/VarHandle" ∧ (parseMethodDescriptor yX7_setWidth.desc).map (fun d => d.parameters.length) = some 1 := by decide +kernel
set_option maxRecDepth 100000 in
set_option maxHeartbeats 1000000 in
theorem lawc_0 {zp : Program} {l : Launch} {ze : Env} {zs : State} {zm : MethodId} {zbelow : List Frame} {zmeth : Method} {zc : Code} {zQ : State → Prop} {Hs : Heap} {X : Cx} {b L : Nat} {xs : Nat → Int32} (F : Fx zp zs zm #[Value.ref b] zc cL_law RL wsL_law 4 X) (S : LScr zs Hs X b L xs) {M : Mem} (hI : LInv M) (i : Int) (hi0 : 0 ≤ i) (hi1 : i + 4 ≤ (L : Int)) (kk : ∀ Mn, LInv Mn → J zp l ze room_1 zs zm #[Value.ref b] zbelow zmeth zc 600000 7302250 zQ Hs X 4 Mn 689 [(0, Value.ref b), (1, vR X 0), (2, vR X 82), (3, vI i)] []) : J zp l ze room_1 zs zm #[Value.ref b] zbelow zmeth zc 600000 7302250 zQ Hs X 4 M 140 [(0, Value.ref b), (1, vR X 0), (2, vR X 82), (3, vI i)] [] := by
  have hX := F.2.2.2.2.2.2
  have hL := S.2.2.2
  refine j_aload_n (q := 141) F dL_law_140 rfl rfl 1 rfl ?_
  refine j_aload_s (q := 142) F dL_law_141 rfl rfl 0 rfl ?_
  refine j_iload_n (q := 143) F dL_law_142 rfl rfl 3 rfl ?_
  refine j_iconst (q := 144) F dL_law_143 rfl ?_
  refine j_iadd (q := 145) (z := i + 1) F dL_law_144 rfl rfl ?_
  refine j_sld (q := 146) F S (by omega) (by omega) dL_law_145 rfl ?_
  refine j_callVI (q := 149) F [vI ((xs (i + 1).toNat).toInt)] (ct_X6_setWidth l X hX M hI.1 ((xs (i + 1).toNat).toInt) (inR_self _)) gL_law_X6_setWidth rfl cdL_X6_setWidth ⟨Nat.le_of_ble_eq_true rfl, Nat.le_of_ble_eq_true rfl, Nat.le_of_ble_eq_true rfl, Nat.le_of_ble_eq_true rfl⟩ rfl rfl rfl rfl (Nat.le_of_ble_eq_true rfl) dL_law_146 rfl (fun r1 M1 h1 => ?_)
  refine j_aload_n (q := 150) F dL_law_149 rfl rfl 2 rfl ?_
  refine j_aload_s (q := 151) F dL_law_150 rfl rfl 0 rfl ?_
  refine j_iload_n (q := 152) F dL_law_151 rfl rfl 3 rfl ?_
  refine j_iconst (q := 153) F dL_law_152 rfl ?_
  refine j_iadd (q := 154) (z := i + 1) F dL_law_153 rfl rfl ?_
  refine j_sld (q := 155) F S (by omega) (by omega) dL_law_154 rfl ?_
  have hp := lpre hI h1.1
  refine j_callVI (q := 158) F [vI ((xs (i + 1).toNat).toInt)] (ct_X7_setWidth l X hX M1 hp.1 hp.2.1 ((xs (i + 1).toNat).toInt) (inR_self _)) gL_law_X7_setWidth rfl cdL_X7_setWidth ⟨Nat.le_of_ble_eq_true rfl, Nat.le_of_ble_eq_true rfl, Nat.le_of_ble_eq_true rfl, Nat.le_of_ble_eq_true rfl⟩ rfl rfl rfl rfl (Nat.le_of_ble_eq_true rfl) dL_law_155 rfl (fun r2 M2 h2 => ?_)
  obtain ⟨he, hI2⟩ := law_pair (OP := fun M => OsetWidth M ((xs (i + 1).toNat).toInt)) (fun _ => rfl) hI h1 h2
  subst he
  exact j_eqself (tgt := 689) F dL_law_158 (by decide) (kk M2 hI2)
theorem cdL_X6_setSlack : yX6_setSlack.cls = RX6 ∧ yX6_setSlack.cls ≠ "java/lang/invoke/MethodHandle" ∧ yX6_setSlack.cls ≠ "java/lang/invoke/VarHandle" ∧ (parseMethodDescriptor yX6_setSlack.desc).map (fun d => d.parameters.length) = some 1 := by decide +kernel
theorem cdL_X7_setSlack : yX7_setSlack.cls = RX7 ∧ yX7_setSlack.cls ≠ "java/lang/invoke/MethodHandle" ∧ yX7_setSlack.cls ≠ "java/lang/invoke/VarHandle" ∧ (parseMethodDescriptor yX7_setSlack.desc).map (fun d => d.parameters.length) = some 1 := by decide +kernel
set_option maxRecDepth 100000 in
set_option maxHeartbeats 1000000 in
theorem lawc_1 {zp : Program} {l : Launch} {ze : Env} {zs : State} {zm : MethodId} {zbelow : List Frame} {zmeth : Method} {zc : Code} {zQ : State → Prop} {Hs : Heap} {X : Cx} {b L : Nat} {xs : Nat → Int32} (F : Fx zp zs zm #[Value.ref b] zc cL_law RL wsL_law 4 X) (S : LScr zs Hs X b L xs) {M : Mem} (hI : LInv M) (i : Int) (hi0 : 0 ≤ i) (hi1 : i + 4 ≤ (L : Int)) (kk : ∀ Mn, LInv Mn → J zp l ze room_1 zs zm #[Value.ref b] zbelow zmeth zc 600000 7302250 zQ Hs X 4 Mn 689 [(0, Value.ref b), (1, vR X 0), (2, vR X 82), (3, vI i)] []) : J zp l ze room_1 zs zm #[Value.ref b] zbelow zmeth zc 600000 7302250 zQ Hs X 4 M 163 [(0, Value.ref b), (1, vR X 0), (2, vR X 82), (3, vI i)] [] := by
  have hX := F.2.2.2.2.2.2
  have hL := S.2.2.2
  refine j_aload_n (q := 164) F dL_law_163 rfl rfl 1 rfl ?_
  refine j_aload_s (q := 165) F dL_law_164 rfl rfl 0 rfl ?_
  refine j_iload_n (q := 166) F dL_law_165 rfl rfl 3 rfl ?_
  refine j_iconst (q := 167) F dL_law_166 rfl ?_
  refine j_iadd (q := 168) (z := i + 1) F dL_law_167 rfl rfl ?_
  refine j_sld (q := 169) F S (by omega) (by omega) dL_law_168 rfl ?_
  refine j_callVI (q := 172) F [vI ((xs (i + 1).toNat).toInt)] (ct_X6_setSlack l X hX M hI.1 ((xs (i + 1).toNat).toInt) (inR_self _)) gL_law_X6_setSlack rfl cdL_X6_setSlack ⟨Nat.le_of_ble_eq_true rfl, Nat.le_of_ble_eq_true rfl, Nat.le_of_ble_eq_true rfl, Nat.le_of_ble_eq_true rfl⟩ rfl rfl rfl rfl (Nat.le_of_ble_eq_true rfl) dL_law_169 rfl (fun r1 M1 h1 => ?_)
  refine j_aload_n (q := 173) F dL_law_172 rfl rfl 2 rfl ?_
  refine j_aload_s (q := 174) F dL_law_173 rfl rfl 0 rfl ?_
  refine j_iload_n (q := 175) F dL_law_174 rfl rfl 3 rfl ?_
  refine j_iconst (q := 176) F dL_law_175 rfl ?_
  refine j_iadd (q := 177) (z := i + 1) F dL_law_176 rfl rfl ?_
  refine j_sld (q := 178) F S (by omega) (by omega) dL_law_177 rfl ?_
  have hp := lpre hI h1.1
  refine j_callVI (q := 181) F [vI ((xs (i + 1).toNat).toInt)] (ct_X7_setSlack l X hX M1 hp.1 hp.2.1 ((xs (i + 1).toNat).toInt) (inR_self _)) gL_law_X7_setSlack rfl cdL_X7_setSlack ⟨Nat.le_of_ble_eq_true rfl, Nat.le_of_ble_eq_true rfl, Nat.le_of_ble_eq_true rfl, Nat.le_of_ble_eq_true rfl⟩ rfl rfl rfl rfl (Nat.le_of_ble_eq_true rfl) dL_law_178 rfl (fun r2 M2 h2 => ?_)
  obtain ⟨he, hI2⟩ := law_pair (OP := fun M => OsetSlack M ((xs (i + 1).toNat).toInt)) (fun _ => rfl) hI h1 h2
  subst he
  exact j_eqself (tgt := 689) F dL_law_181 (by decide) (kk M2 hI2)
theorem cdL_X6_add : yX6_add.cls = RX6 ∧ yX6_add.cls ≠ "java/lang/invoke/MethodHandle" ∧ yX6_add.cls ≠ "java/lang/invoke/VarHandle" ∧ (parseMethodDescriptor yX6_add.desc).map (fun d => d.parameters.length) = some 1 := by decide +kernel
theorem cdL_X7_add : yX7_add.cls = RX7 ∧ yX7_add.cls ≠ "java/lang/invoke/MethodHandle" ∧ yX7_add.cls ≠ "java/lang/invoke/VarHandle" ∧ (parseMethodDescriptor yX7_add.desc).map (fun d => d.parameters.length) = some 1 := by decide +kernel
set_option maxRecDepth 100000 in
set_option maxHeartbeats 1000000 in
theorem lawc_2 {zp : Program} {l : Launch} {ze : Env} {zs : State} {zm : MethodId} {zbelow : List Frame} {zmeth : Method} {zc : Code} {zQ : State → Prop} {Hs : Heap} {X : Cx} {b L : Nat} {xs : Nat → Int32} (F : Fx zp zs zm #[Value.ref b] zc cL_law RL wsL_law 4 X) (S : LScr zs Hs X b L xs) {M : Mem} (hI : LInv M) (i : Int) (hi0 : 0 ≤ i) (hi1 : i + 4 ≤ (L : Int)) (kk : ∀ Mn, LInv Mn → J zp l ze room_1 zs zm #[Value.ref b] zbelow zmeth zc 600000 7302250 zQ Hs X 4 Mn 689 [(0, Value.ref b), (1, vR X 0), (2, vR X 82), (3, vI i)] []) : J zp l ze room_1 zs zm #[Value.ref b] zbelow zmeth zc 600000 7302250 zQ Hs X 4 M 186 [(0, Value.ref b), (1, vR X 0), (2, vR X 82), (3, vI i)] [] := by
  have hX := F.2.2.2.2.2.2
  have hL := S.2.2.2
  refine j_aload_n (q := 187) F dL_law_186 rfl rfl 1 rfl ?_
  refine j_aload_s (q := 188) F dL_law_187 rfl rfl 0 rfl ?_
  refine j_iload_n (q := 189) F dL_law_188 rfl rfl 3 rfl ?_
  refine j_iconst (q := 190) F dL_law_189 rfl ?_
  refine j_iadd (q := 191) (z := i + 1) F dL_law_190 rfl rfl ?_
  refine j_sld (q := 192) F S (by omega) (by omega) dL_law_191 rfl ?_
  refine j_callVI (q := 195) F [vI ((xs (i + 1).toNat).toInt)] (ct_X6_add l X hX M hI.1 ((xs (i + 1).toNat).toInt) (inR_self _)) gL_law_X6_add rfl cdL_X6_add ⟨Nat.le_of_ble_eq_true rfl, Nat.le_of_ble_eq_true rfl, Nat.le_of_ble_eq_true rfl, Nat.le_of_ble_eq_true rfl⟩ rfl rfl rfl rfl (Nat.le_of_ble_eq_true rfl) dL_law_192 rfl (fun r1 M1 h1 => ?_)
  refine j_aload_n (q := 196) F dL_law_195 rfl rfl 2 rfl ?_
  refine j_aload_s (q := 197) F dL_law_196 rfl rfl 0 rfl ?_
  refine j_iload_n (q := 198) F dL_law_197 rfl rfl 3 rfl ?_
  refine j_iconst (q := 199) F dL_law_198 rfl ?_
  refine j_iadd (q := 200) (z := i + 1) F dL_law_199 rfl rfl ?_
  refine j_sld (q := 201) F S (by omega) (by omega) dL_law_200 rfl ?_
  have hp := lpre hI h1.1
  refine j_callVI (q := 204) F [vI ((xs (i + 1).toNat).toInt)] (ct_X7_add l X hX M1 hp.1 hp.2.1 ((xs (i + 1).toNat).toInt) (inR_self _)) gL_law_X7_add rfl cdL_X7_add ⟨Nat.le_of_ble_eq_true rfl, Nat.le_of_ble_eq_true rfl, Nat.le_of_ble_eq_true rfl, Nat.le_of_ble_eq_true rfl⟩ rfl rfl rfl rfl (Nat.le_of_ble_eq_true rfl) dL_law_201 rfl (fun r2 M2 h2 => ?_)
  obtain ⟨he, hI2⟩ := law_pair (OP := fun M => Oadd M ((xs (i + 1).toNat).toInt)) (fun _ => rfl) hI h1 h2
  subst he
  exact j_eqself (tgt := 689) F dL_law_204 (by decide) (kk M2 hI2)
theorem cdL_X6_remove : yX6_remove.cls = RX6 ∧ yX6_remove.cls ≠ "java/lang/invoke/MethodHandle" ∧ yX6_remove.cls ≠ "java/lang/invoke/VarHandle" ∧ (parseMethodDescriptor yX6_remove.desc).map (fun d => d.parameters.length) = some 0 := by decide +kernel
theorem cdL_X7_remove : yX7_remove.cls = RX7 ∧ yX7_remove.cls ≠ "java/lang/invoke/MethodHandle" ∧ yX7_remove.cls ≠ "java/lang/invoke/VarHandle" ∧ (parseMethodDescriptor yX7_remove.desc).map (fun d => d.parameters.length) = some 0 := by decide +kernel
set_option maxRecDepth 100000 in
set_option maxHeartbeats 1000000 in
theorem lawc_3 {zp : Program} {l : Launch} {ze : Env} {zs : State} {zm : MethodId} {zbelow : List Frame} {zmeth : Method} {zc : Code} {zQ : State → Prop} {Hs : Heap} {X : Cx} {b L : Nat} {xs : Nat → Int32} (F : Fx zp zs zm #[Value.ref b] zc cL_law RL wsL_law 4 X) (S : LScr zs Hs X b L xs) {M : Mem} (hI : LInv M) (i : Int) (hi0 : 0 ≤ i) (hi1 : i + 4 ≤ (L : Int)) (kk : ∀ Mn, LInv Mn → J zp l ze room_1 zs zm #[Value.ref b] zbelow zmeth zc 600000 7302250 zQ Hs X 4 Mn 689 [(0, Value.ref b), (1, vR X 0), (2, vR X 82), (3, vI i)] []) : J zp l ze room_1 zs zm #[Value.ref b] zbelow zmeth zc 600000 7302250 zQ Hs X 4 M 209 [(0, Value.ref b), (1, vR X 0), (2, vR X 82), (3, vI i)] [] := by
  have hX := F.2.2.2.2.2.2
  have hL := S.2.2.2
  refine j_aload_n (q := 210) F dL_law_209 rfl rfl 1 rfl ?_
  refine j_callVI (q := 213) F [] (ct_X6_remove l X hX M hI.1) gL_law_X6_remove rfl cdL_X6_remove ⟨Nat.le_of_ble_eq_true rfl, Nat.le_of_ble_eq_true rfl, Nat.le_of_ble_eq_true rfl, Nat.le_of_ble_eq_true rfl⟩ rfl rfl rfl rfl (Nat.le_of_ble_eq_true rfl) dL_law_210 rfl (fun r1 M1 h1 => ?_)
  refine j_aload_n (q := 214) F dL_law_213 rfl rfl 2 rfl ?_
  have hp := lpre hI h1.1
  refine j_callVI (q := 217) F [] (ct_X7_remove l X hX M1 hp.1 hp.2.1) gL_law_X7_remove rfl cdL_X7_remove ⟨Nat.le_of_ble_eq_true rfl, Nat.le_of_ble_eq_true rfl, Nat.le_of_ble_eq_true rfl, Nat.le_of_ble_eq_true rfl⟩ rfl rfl rfl rfl (Nat.le_of_ble_eq_true rfl) dL_law_214 rfl (fun r2 M2 h2 => ?_)
  obtain ⟨he, hI2⟩ := law_pair (OP := fun M => Oremove M) (fun _ => rfl) hI h1 h2
  subst he
  exact j_eqself (tgt := 689) F dL_law_217 (by decide) (kk M2 hI2)
theorem cdL_X6_pull : yX6_pull.cls = RX6 ∧ yX6_pull.cls ≠ "java/lang/invoke/MethodHandle" ∧ yX6_pull.cls ≠ "java/lang/invoke/VarHandle" ∧ (parseMethodDescriptor yX6_pull.desc).map (fun d => d.parameters.length) = some 1 := by decide +kernel
theorem cdL_X7_pull : yX7_pull.cls = RX7 ∧ yX7_pull.cls ≠ "java/lang/invoke/MethodHandle" ∧ yX7_pull.cls ≠ "java/lang/invoke/VarHandle" ∧ (parseMethodDescriptor yX7_pull.desc).map (fun d => d.parameters.length) = some 1 := by decide +kernel
set_option maxRecDepth 100000 in
set_option maxHeartbeats 1000000 in
theorem lawc_4 {zp : Program} {l : Launch} {ze : Env} {zs : State} {zm : MethodId} {zbelow : List Frame} {zmeth : Method} {zc : Code} {zQ : State → Prop} {Hs : Heap} {X : Cx} {b L : Nat} {xs : Nat → Int32} (F : Fx zp zs zm #[Value.ref b] zc cL_law RL wsL_law 4 X) (S : LScr zs Hs X b L xs) {M : Mem} (hI : LInv M) (i : Int) (hi0 : 0 ≤ i) (hi1 : i + 4 ≤ (L : Int)) (kk : ∀ Mn, LInv Mn → J zp l ze room_1 zs zm #[Value.ref b] zbelow zmeth zc 600000 7302250 zQ Hs X 4 Mn 689 [(0, Value.ref b), (1, vR X 0), (2, vR X 82), (3, vI i)] []) : J zp l ze room_1 zs zm #[Value.ref b] zbelow zmeth zc 600000 7302250 zQ Hs X 4 M 222 [(0, Value.ref b), (1, vR X 0), (2, vR X 82), (3, vI i)] [] := by
  have hX := F.2.2.2.2.2.2
  have hL := S.2.2.2
  refine j_aload_n (q := 223) F dL_law_222 rfl rfl 1 rfl ?_
  refine j_aload_s (q := 224) F dL_law_223 rfl rfl 0 rfl ?_
  refine j_iload_n (q := 225) F dL_law_224 rfl rfl 3 rfl ?_
  refine j_iconst (q := 226) F dL_law_225 rfl ?_
  refine j_iadd (q := 227) (z := i + 1) F dL_law_226 rfl rfl ?_
  refine j_sld (q := 228) F S (by omega) (by omega) dL_law_227 rfl ?_
  refine j_callVI (q := 231) F [vI ((xs (i + 1).toNat).toInt)] (ct_X6_pull l X hX M hI.1 ((xs (i + 1).toNat).toInt) (inR_self _)) gL_law_X6_pull rfl cdL_X6_pull ⟨Nat.le_of_ble_eq_true rfl, Nat.le_of_ble_eq_true rfl, Nat.le_of_ble_eq_true rfl, Nat.le_of_ble_eq_true rfl⟩ rfl rfl rfl rfl (Nat.le_of_ble_eq_true rfl) dL_law_228 rfl (fun r1 M1 h1 => ?_)
  refine j_aload_n (q := 232) F dL_law_231 rfl rfl 2 rfl ?_
  refine j_aload_s (q := 233) F dL_law_232 rfl rfl 0 rfl ?_
  refine j_iload_n (q := 234) F dL_law_233 rfl rfl 3 rfl ?_
  refine j_iconst (q := 235) F dL_law_234 rfl ?_
  refine j_iadd (q := 236) (z := i + 1) F dL_law_235 rfl rfl ?_
  refine j_sld (q := 237) F S (by omega) (by omega) dL_law_236 rfl ?_
  have hp := lpre hI h1.1
  refine j_callVI (q := 240) F [vI ((xs (i + 1).toNat).toInt)] (ct_X7_pull l X hX M1 hp.1 hp.2.1 ((xs (i + 1).toNat).toInt) (inR_self _)) gL_law_X7_pull rfl cdL_X7_pull ⟨Nat.le_of_ble_eq_true rfl, Nat.le_of_ble_eq_true rfl, Nat.le_of_ble_eq_true rfl, Nat.le_of_ble_eq_true rfl⟩ rfl rfl rfl rfl (Nat.le_of_ble_eq_true rfl) dL_law_237 rfl (fun r2 M2 h2 => ?_)
  obtain ⟨he, hI2⟩ := law_pair (OP := fun M => Opull M ((xs (i + 1).toNat).toInt)) (fun _ => rfl) hI h1 h2
  subst he
  exact j_eqself (tgt := 689) F dL_law_240 (by decide) (kk M2 hI2)
theorem cdL_X6_push : yX6_push.cls = RX6 ∧ yX6_push.cls ≠ "java/lang/invoke/MethodHandle" ∧ yX6_push.cls ≠ "java/lang/invoke/VarHandle" ∧ (parseMethodDescriptor yX6_push.desc).map (fun d => d.parameters.length) = some 1 := by decide +kernel
theorem cdL_X7_push : yX7_push.cls = RX7 ∧ yX7_push.cls ≠ "java/lang/invoke/MethodHandle" ∧ yX7_push.cls ≠ "java/lang/invoke/VarHandle" ∧ (parseMethodDescriptor yX7_push.desc).map (fun d => d.parameters.length) = some 1 := by decide +kernel
set_option maxRecDepth 100000 in
set_option maxHeartbeats 1000000 in
theorem lawc_5 {zp : Program} {l : Launch} {ze : Env} {zs : State} {zm : MethodId} {zbelow : List Frame} {zmeth : Method} {zc : Code} {zQ : State → Prop} {Hs : Heap} {X : Cx} {b L : Nat} {xs : Nat → Int32} (F : Fx zp zs zm #[Value.ref b] zc cL_law RL wsL_law 4 X) (S : LScr zs Hs X b L xs) {M : Mem} (hI : LInv M) (i : Int) (hi0 : 0 ≤ i) (hi1 : i + 4 ≤ (L : Int)) (kk : ∀ Mn, LInv Mn → J zp l ze room_1 zs zm #[Value.ref b] zbelow zmeth zc 600000 7302250 zQ Hs X 4 Mn 689 [(0, Value.ref b), (1, vR X 0), (2, vR X 82), (3, vI i)] []) : J zp l ze room_1 zs zm #[Value.ref b] zbelow zmeth zc 600000 7302250 zQ Hs X 4 M 245 [(0, Value.ref b), (1, vR X 0), (2, vR X 82), (3, vI i)] [] := by
  have hX := F.2.2.2.2.2.2
  have hL := S.2.2.2
  refine j_aload_n (q := 246) F dL_law_245 rfl rfl 1 rfl ?_
  refine j_aload_s (q := 247) F dL_law_246 rfl rfl 0 rfl ?_
  refine j_iload_n (q := 248) F dL_law_247 rfl rfl 3 rfl ?_
  refine j_iconst (q := 249) F dL_law_248 rfl ?_
  refine j_iadd (q := 250) (z := i + 1) F dL_law_249 rfl rfl ?_
  refine j_sld (q := 251) F S (by omega) (by omega) dL_law_250 rfl ?_
  refine j_callVI (q := 254) F [vI ((xs (i + 1).toNat).toInt)] (ct_X6_push l X hX M hI.1 ((xs (i + 1).toNat).toInt) (inR_self _)) gL_law_X6_push rfl cdL_X6_push ⟨Nat.le_of_ble_eq_true rfl, Nat.le_of_ble_eq_true rfl, Nat.le_of_ble_eq_true rfl, Nat.le_of_ble_eq_true rfl⟩ rfl rfl rfl rfl (Nat.le_of_ble_eq_true rfl) dL_law_251 rfl (fun r1 M1 h1 => ?_)
  refine j_aload_n (q := 255) F dL_law_254 rfl rfl 2 rfl ?_
  refine j_aload_s (q := 256) F dL_law_255 rfl rfl 0 rfl ?_
  refine j_iload_n (q := 257) F dL_law_256 rfl rfl 3 rfl ?_
  refine j_iconst (q := 258) F dL_law_257 rfl ?_
  refine j_iadd (q := 259) (z := i + 1) F dL_law_258 rfl rfl ?_
  refine j_sld (q := 260) F S (by omega) (by omega) dL_law_259 rfl ?_
  have hp := lpre hI h1.1
  refine j_callVI (q := 263) F [vI ((xs (i + 1).toNat).toInt)] (ct_X7_push l X hX M1 hp.1 hp.2.1 ((xs (i + 1).toNat).toInt) (inR_self _)) gL_law_X7_push rfl cdL_X7_push ⟨Nat.le_of_ble_eq_true rfl, Nat.le_of_ble_eq_true rfl, Nat.le_of_ble_eq_true rfl, Nat.le_of_ble_eq_true rfl⟩ rfl rfl rfl rfl (Nat.le_of_ble_eq_true rfl) dL_law_260 rfl (fun r2 M2 h2 => ?_)
  obtain ⟨he, hI2⟩ := law_pair (OP := fun M => Opush M ((xs (i + 1).toNat).toInt)) (fun _ => rfl) hI h1 h2
  subst he
  exact j_eqself (tgt := 689) F dL_law_263 (by decide) (kk M2 hI2)
theorem cdL_X6_freeze : yX6_freeze.cls = RX6 ∧ yX6_freeze.cls ≠ "java/lang/invoke/MethodHandle" ∧ yX6_freeze.cls ≠ "java/lang/invoke/VarHandle" ∧ (parseMethodDescriptor yX6_freeze.desc).map (fun d => d.parameters.length) = some 2 := by decide +kernel
theorem cdL_X7_freeze : yX7_freeze.cls = RX7 ∧ yX7_freeze.cls ≠ "java/lang/invoke/MethodHandle" ∧ yX7_freeze.cls ≠ "java/lang/invoke/VarHandle" ∧ (parseMethodDescriptor yX7_freeze.desc).map (fun d => d.parameters.length) = some 2 := by decide +kernel
set_option maxRecDepth 100000 in
set_option maxHeartbeats 1000000 in
theorem lawc_6 {zp : Program} {l : Launch} {ze : Env} {zs : State} {zm : MethodId} {zbelow : List Frame} {zmeth : Method} {zc : Code} {zQ : State → Prop} {Hs : Heap} {X : Cx} {b L : Nat} {xs : Nat → Int32} (F : Fx zp zs zm #[Value.ref b] zc cL_law RL wsL_law 4 X) (S : LScr zs Hs X b L xs) {M : Mem} (hI : LInv M) (i : Int) (hi0 : 0 ≤ i) (hi1 : i + 4 ≤ (L : Int)) (kk : ∀ Mn, LInv Mn → J zp l ze room_1 zs zm #[Value.ref b] zbelow zmeth zc 600000 7302250 zQ Hs X 4 Mn 689 [(0, Value.ref b), (1, vR X 0), (2, vR X 82), (3, vI i)] []) : J zp l ze room_1 zs zm #[Value.ref b] zbelow zmeth zc 600000 7302250 zQ Hs X 4 M 268 [(0, Value.ref b), (1, vR X 0), (2, vR X 82), (3, vI i)] [] := by
  have hX := F.2.2.2.2.2.2
  have hL := S.2.2.2
  refine j_aload_n (q := 269) F dL_law_268 rfl rfl 1 rfl ?_
  refine j_aload_s (q := 270) F dL_law_269 rfl rfl 0 rfl ?_
  refine j_iload_n (q := 271) F dL_law_270 rfl rfl 3 rfl ?_
  refine j_iconst (q := 272) F dL_law_271 rfl ?_
  refine j_iadd (q := 273) (z := i + 1) F dL_law_272 rfl rfl ?_
  refine j_sld (q := 274) F S (by omega) (by omega) dL_law_273 rfl ?_
  refine j_aload_s (q := 275) F dL_law_274 rfl rfl 0 rfl ?_
  refine j_iload_n (q := 276) F dL_law_275 rfl rfl 3 rfl ?_
  refine j_iconst (q := 277) F dL_law_276 rfl ?_
  refine j_iadd (q := 278) (z := i + 2) F dL_law_277 rfl rfl ?_
  refine j_sld (q := 279) F S (by omega) (by omega) dL_law_278 rfl ?_
  refine j_callVI (q := 282) F [vI ((xs (i + 1).toNat).toInt), vI ((xs (i + 2).toNat).toInt)] (ct_X6_freeze l X hX M hI.1 ((xs (i + 1).toNat).toInt) (inR_self _) ((xs (i + 2).toNat).toInt) (inR_self _)) gL_law_X6_freeze rfl cdL_X6_freeze ⟨Nat.le_of_ble_eq_true rfl, Nat.le_of_ble_eq_true rfl, Nat.le_of_ble_eq_true rfl, Nat.le_of_ble_eq_true rfl⟩ rfl rfl rfl rfl (Nat.le_of_ble_eq_true rfl) dL_law_279 rfl (fun r1 M1 h1 => ?_)
  refine j_aload_n (q := 283) F dL_law_282 rfl rfl 2 rfl ?_
  refine j_aload_s (q := 284) F dL_law_283 rfl rfl 0 rfl ?_
  refine j_iload_n (q := 285) F dL_law_284 rfl rfl 3 rfl ?_
  refine j_iconst (q := 286) F dL_law_285 rfl ?_
  refine j_iadd (q := 287) (z := i + 1) F dL_law_286 rfl rfl ?_
  refine j_sld (q := 288) F S (by omega) (by omega) dL_law_287 rfl ?_
  refine j_aload_s (q := 289) F dL_law_288 rfl rfl 0 rfl ?_
  refine j_iload_n (q := 290) F dL_law_289 rfl rfl 3 rfl ?_
  refine j_iconst (q := 291) F dL_law_290 rfl ?_
  refine j_iadd (q := 292) (z := i + 2) F dL_law_291 rfl rfl ?_
  refine j_sld (q := 293) F S (by omega) (by omega) dL_law_292 rfl ?_
  have hp := lpre hI h1.1
  refine j_callVI (q := 296) F [vI ((xs (i + 1).toNat).toInt), vI ((xs (i + 2).toNat).toInt)] (ct_X7_freeze l X hX M1 hp.1 hp.2.1 ((xs (i + 1).toNat).toInt) (inR_self _) ((xs (i + 2).toNat).toInt) (inR_self _)) gL_law_X7_freeze rfl cdL_X7_freeze ⟨Nat.le_of_ble_eq_true rfl, Nat.le_of_ble_eq_true rfl, Nat.le_of_ble_eq_true rfl, Nat.le_of_ble_eq_true rfl⟩ rfl rfl rfl rfl (Nat.le_of_ble_eq_true rfl) dL_law_293 rfl (fun r2 M2 h2 => ?_)
  obtain ⟨he, hI2⟩ := law_pair (OP := fun M => Ofreeze M ((xs (i + 1).toNat).toInt) ((xs (i + 2).toNat).toInt)) (fun _ => rfl) hI h1 h2
  subst he
  exact j_eqself (tgt := 689) F dL_law_296 (by decide) (kk M2 hI2)
theorem cdL_X6_reflow : yX6_reflow.cls = RX6 ∧ yX6_reflow.cls ≠ "java/lang/invoke/MethodHandle" ∧ yX6_reflow.cls ≠ "java/lang/invoke/VarHandle" ∧ (parseMethodDescriptor yX6_reflow.desc).map (fun d => d.parameters.length) = some 0 := by decide +kernel
theorem cdL_X7_reflow : yX7_reflow.cls = RX7 ∧ yX7_reflow.cls ≠ "java/lang/invoke/MethodHandle" ∧ yX7_reflow.cls ≠ "java/lang/invoke/VarHandle" ∧ (parseMethodDescriptor yX7_reflow.desc).map (fun d => d.parameters.length) = some 0 := by decide +kernel
set_option maxRecDepth 100000 in
set_option maxHeartbeats 1000000 in
theorem lawc_7 {zp : Program} {l : Launch} {ze : Env} {zs : State} {zm : MethodId} {zbelow : List Frame} {zmeth : Method} {zc : Code} {zQ : State → Prop} {Hs : Heap} {X : Cx} {b L : Nat} {xs : Nat → Int32} (F : Fx zp zs zm #[Value.ref b] zc cL_law RL wsL_law 4 X) (S : LScr zs Hs X b L xs) {M : Mem} (hI : LInv M) (i : Int) (hi0 : 0 ≤ i) (hi1 : i + 4 ≤ (L : Int)) (kk : ∀ Mn, LInv Mn → J zp l ze room_1 zs zm #[Value.ref b] zbelow zmeth zc 600000 7302250 zQ Hs X 4 Mn 689 [(0, Value.ref b), (1, vR X 0), (2, vR X 82), (3, vI i)] []) : J zp l ze room_1 zs zm #[Value.ref b] zbelow zmeth zc 600000 7302250 zQ Hs X 4 M 301 [(0, Value.ref b), (1, vR X 0), (2, vR X 82), (3, vI i)] [] := by
  have hX := F.2.2.2.2.2.2
  have hL := S.2.2.2
  refine j_aload_n (q := 302) F dL_law_301 rfl rfl 1 rfl ?_
  refine j_callVI (q := 305) F [] (ct_X6_reflow l X hX M hI.1) gL_law_X6_reflow rfl cdL_X6_reflow ⟨Nat.le_of_ble_eq_true rfl, Nat.le_of_ble_eq_true rfl, Nat.le_of_ble_eq_true rfl, Nat.le_of_ble_eq_true rfl⟩ rfl rfl rfl rfl (Nat.le_of_ble_eq_true rfl) dL_law_302 rfl (fun r1 M1 h1 => ?_)
  refine j_aload_n (q := 306) F dL_law_305 rfl rfl 2 rfl ?_
  have hp := lpre hI h1.1
  refine j_callVI (q := 309) F [] (ct_X7_reflow l X hX M1 hp.1 hp.2.1) gL_law_X7_reflow rfl cdL_X7_reflow ⟨Nat.le_of_ble_eq_true rfl, Nat.le_of_ble_eq_true rfl, Nat.le_of_ble_eq_true rfl, Nat.le_of_ble_eq_true rfl⟩ rfl rfl rfl rfl (Nat.le_of_ble_eq_true rfl) dL_law_306 rfl (fun r2 M2 h2 => ?_)
  obtain ⟨he, hI2⟩ := law_pair (OP := fun M => Oreflow M) (fun _ => rfl) hI h1 h2
  subst he
  exact j_eqself (tgt := 689) F dL_law_309 (by decide) (kk M2 hI2)
