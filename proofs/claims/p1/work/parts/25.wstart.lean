theorem K123 : (Cond.classLink RL 8 RX11) ∈ ALL := mAC ch_t1 (i := 47) (by decide +kernel) rfl
theorem K124 : (Cond.instantiable RX11 14) ∈ ALL := mAC ch_t1 (i := 48) (by decide +kernel) rfl
theorem HD_yX11_init : yX11_init.cls ≠ "java/lang/invoke/MethodHandle" ∧ yX11_init.cls ≠ "java/lang/invoke/VarHandle" ∧ (parseMethodDescriptor yX11_init.desc).map (fun d => d.parameters.length) = some 0 := by decide +kernel
theorem K127 : (Cond.code yX11_init cX11_init 1 none) ∈ ALL := mAC ch_t1 (i := 51) (by decide +kernel) rfl
theorem GI_K127 : GoodIn ALL (Cond.code yX11_init cX11_init 1 none :: ALL) := gI K127
theorem K125 : (Cond.methodLink RL 157 yX11_init) ∈ ALL := mAC ch_t1 (i := 49) (by decide +kernel) rfl
theorem K126 : (Cond.instanceMethod yX11_init) ∈ ALL := mAC ch_t1 (i := 50) (by decide +kernel) rfl
theorem K2019 : (Cond.classLink RL 158 RX15) ∈ ALL := mAC ch_t9 (i := 23) (by decide +kernel) rfl
theorem K2020 : (Cond.instantiable RX15 18) ∈ ALL := mAC ch_t9 (i := 24) (by decide +kernel) rfl
theorem HD_yX15_init : yX15_init.cls ≠ "java/lang/invoke/MethodHandle" ∧ yX15_init.cls ≠ "java/lang/invoke/VarHandle" ∧ (parseMethodDescriptor yX15_init.desc).map (fun d => d.parameters.length) = some 0 := by decide +kernel
theorem K2023 : (Cond.code yX15_init cX15_init 2 none) ∈ ALL := mAC ch_t9 (i := 27) (by decide +kernel) rfl
theorem GI_K2023 : GoodIn ALL (Cond.code yX15_init cX15_init 2 none :: ALL) := gI K2023
theorem K2021 : (Cond.methodLink RL 160 yX15_init) ∈ ALL := mAC ch_t9 (i := 25) (by decide +kernel) rfl
theorem K2022 : (Cond.instanceMethod yX15_init) ∈ ALL := mAC ch_t9 (i := 26) (by decide +kernel) rfl
theorem K2874 : (Cond.arrayClass .double) ∈ ALL := mAC ch_t12 (i := 158) (by decide +kernel) rfl
