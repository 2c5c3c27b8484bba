theorem tx79 : shs[79]? = some (8, 0, [none, some 80]) := rfl
theorem rw80 : isRow 80 100 := ⟨rfl, rfl⟩
theorem cd_X1_append : yX1_append.cls = RX1 ∧ yX1_append.cls ≠ "java/lang/invoke/MethodHandle" ∧ yX1_append.cls ≠ "java/lang/invoke/VarHandle" ∧ (parseMethodDescriptor yX1_append.desc).map (fun d => d.parameters.length) = some 1 := by decide +kernel