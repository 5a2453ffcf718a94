theorem K2030 : (Cond.methodLink RX14 3 objectInit) ∈ ALL := mAC ch_t9 (i := 34) (by decide +kernel) rfl
theorem K2060 : (Cond.fieldLink RX14 9 "UnwindlensModel$Target" "cells" "[I") ∈ ALL := mAC ch_t9 (i := 64) (by decide +kernel) rfl
theorem K2031 : (Cond.classLink RX14 15 RJx4a65c) ∈ ALL := mAC ch_t9 (i := 35) (by decide +kernel) rfl
theorem K2032 : (Cond.instantiable RJx4a65c 3) ∈ ALL := mAC ch_t9 (i := 36) (by decide +kernel) rfl
theorem HD_yJx4a65c_init_da8c8 : yJx4a65c_init_da8c8.cls ≠ "java/lang/invoke/MethodHandle" ∧ yJx4a65c_init_da8c8.cls ≠ "java/lang/invoke/VarHandle" ∧ (parseMethodDescriptor yJx4a65c_init_da8c8.desc).map (fun d => d.parameters.length) = some 0 := by decide +kernel
theorem K2035 : (Cond.code yJx4a65c_init_da8c8 cJx4a65c_init_da8c8 1 none) ∈ ALL := mAC ch_t9 (i := 39) (by decide +kernel) rfl
theorem GI_K2035 : GoodIn ALL (Cond.code yJx4a65c_init_da8c8 cJx4a65c_init_da8c8 1 none :: ALL) := gI K2035
theorem K2033 : (Cond.methodLink RX14 17 yJx4a65c_init_da8c8) ∈ ALL := mAC ch_t9 (i := 37) (by decide +kernel) rfl
theorem K2034 : (Cond.instanceMethod yJx4a65c_init_da8c8) ∈ ALL := mAC ch_t9 (i := 38) (by decide +kernel) rfl
theorem K2062 : (Cond.fieldLink RX14 18 "UnwindlensModel$Target" "threads" "Ljava/util/List;") ∈ ALL := mAC ch_t9 (i := 66) (by decide +kernel) rfl
theorem K2064 : (Cond.fieldLink RX14 22 "UnwindlensModel$Target" "last" "I") ∈ ALL := mAC ch_t9 (i := 68) (by decide +kernel) rfl
theorem K2068 : (Cond.fieldLink RX14 26 "UnwindlensModel$Target" "goes" "I") ∈ ALL := mAC ch_t9 (i := 72) (by decide +kernel) rfl
theorem PN_RX14 : plainName RX14 = true := by decide +kernel
theorem K2647 : (Cond.methodLink RX12 3 objectInit) ∈ ALL := mAC ch_t11 (i := 171) (by decide +kernel) rfl
theorem K2648 : (Cond.fieldLink RX12 9 "UnwindlensModel$Break" "at" "[Z") ∈ ALL := mAC ch_t11 (i := 172) (by decide +kernel) rfl
theorem K2650 : (Cond.fieldLink RX12 15 "UnwindlensModel$Break" "letter" "C") ∈ ALL := mAC ch_t11 (i := 174) (by decide +kernel) rfl
theorem K2654 : (Cond.fieldLink RX12 19 "UnwindlensModel$Break" "on" "Z") ∈ ALL := mAC ch_t11 (i := 178) (by decide +kernel) rfl
theorem PN_RX12 : plainName RX12 = true := by decide +kernel
theorem dX14_init_0 : decode cX14_init 0 = .ok (.aload_n 0, 1) := by decide +kernel
theorem dX14_init_1 : decode cX14_init 1 = .ok (.invokespecial 3, 3) := by decide +kernel
theorem dX14_init_4 : decode cX14_init 4 = .ok (.aload_n 0, 1) := by decide +kernel
theorem dX14_init_5 : decode cX14_init 5 = .ok (.bipush 16, 2) := by decide +kernel
theorem dX14_init_7 : decode cX14_init 7 = .ok (.newarray .int, 2) := by decide +kernel
theorem dX14_init_9 : decode cX14_init 9 = .ok (.putfield 9, 3) := by decide +kernel
theorem dX14_init_12 : decode cX14_init 12 = .ok (.aload_n 0, 1) := by decide +kernel
theorem dX14_init_13 : decode cX14_init 13 = .ok (.new 15, 3) := by decide +kernel
theorem dX14_init_16 : decode cX14_init 16 = .ok (.dup, 1) := by decide +kernel
theorem dX14_init_17 : decode cX14_init 17 = .ok (.invokespecial 17, 3) := by decide +kernel
theorem dX14_init_20 : decode cX14_init 20 = .ok (.putfield 18, 3) := by decide +kernel
theorem dX14_init_23 : decode cX14_init 23 = .ok (.aload_n 0, 1) := by decide +kernel
theorem dX14_init_24 : decode cX14_init 24 = .ok (.iconst (-1), 1) := by decide +kernel
theorem dX14_init_25 : decode cX14_init 25 = .ok (.putfield 22, 3) := by decide +kernel
theorem dX14_init_28 : decode cX14_init 28 = .ok (.aload_n 0, 1) := by decide +kernel
theorem dX14_init_29 : decode cX14_init 29 = .ok (.iconst (-1), 1) := by decide +kernel
theorem dX14_init_30 : decode cX14_init 30 = .ok (.putfield 26, 3) := by decide +kernel
theorem dX14_init_33 : decode cX14_init 33 = .ok (.return_, 1) := by decide +kernel
theorem dX12_init_0 : decode cX12_init 0 = .ok (.aload_n 0, 1) := by decide +kernel
theorem dX12_init_1 : decode cX12_init 1 = .ok (.invokespecial 3, 3) := by decide +kernel
theorem dX12_init_4 : decode cX12_init 4 = .ok (.aload_n 0, 1) := by decide +kernel
theorem dX12_init_5 : decode cX12_init 5 = .ok (.bipush 60, 2) := by decide +kernel
theorem dX12_init_7 : decode cX12_init 7 = .ok (.newarray .boolean, 2) := by decide +kernel
theorem dX12_init_9 : decode cX12_init 9 = .ok (.putfield 9, 3) := by decide +kernel
theorem dX12_init_12 : decode cX12_init 12 = .ok (.aload_n 0, 1) := by decide +kernel
theorem dX12_init_13 : decode cX12_init 13 = .ok (.bipush 45, 2) := by decide +kernel
theorem dX12_init_15 : decode cX12_init 15 = .ok (.putfield 15, 3) := by decide +kernel
theorem dX12_init_18 : decode cX12_init 18 = .ok (.aload_n 0, 1) := by decide +kernel
theorem dX12_init_19 : decode cX12_init 19 = .ok (.iconst 1, 1) := by decide +kernel
theorem dX12_init_20 : decode cX12_init 20 = .ok (.putfield 19, 3) := by decide +kernel
theorem dX12_init_23 : decode cX12_init 23 = .ok (.return_, 1) := by decide +kernel
