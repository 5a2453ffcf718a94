theorem HD_yX15_begins : yX15_begins.cls ≠ "java/lang/invoke/MethodHandle" ∧ yX15_begins.cls ≠ "java/lang/invoke/VarHandle" ∧ (parseMethodDescriptor yX15_begins.desc).map (fun d => d.parameters.length) = some 0 := by decide +kernel
theorem K2148 : (Cond.code yX15_begins cX15_begins 1 none) ∈ ALL := mAC ch_t9 (i := 152) (by decide +kernel) rfl
theorem K2145 : (Cond.methodLink RX15 124 yX15_begins) ∈ ALL := mAC ch_t9 (i := 149) (by decide +kernel) rfl
theorem K2147 : (Cond.instanceMethod yX15_begins) ∈ ALL := mAC ch_t9 (i := 151) (by decide +kernel) rfl
theorem K37 : (Cond.selects RX15 yX15_begins yX15_begins) ∈ ALL := mAC ch_sel (i := 37) (by decide +kernel) rfl
theorem GV_RX15_124 : GoodIn ALL (wsV RX15 124 RX15 yX15_begins (Cond.code yX15_begins cX15_begins 1 none :: ALL)) := gV K2145 K2147 K37 K94 K2148
theorem HD_yX15_right : yX15_right.cls ≠ "java/lang/invoke/MethodHandle" ∧ yX15_right.cls ≠ "java/lang/invoke/VarHandle" ∧ (parseMethodDescriptor yX15_right.desc).map (fun d => d.parameters.length) = some 3 := by decide +kernel
theorem K2151 : (Cond.code yX15_right cX15_right 6 (some .boolean)) ∈ ALL := mAC ch_t9 (i := 155) (by decide +kernel) rfl
theorem K2149 : (Cond.methodLink RX15 127 yX15_right) ∈ ALL := mAC ch_t9 (i := 153) (by decide +kernel) rfl
theorem K2150 : (Cond.static yX15_right) ∈ ALL := mAC ch_t9 (i := 154) (by decide +kernel) rfl
theorem GS_RX15_127 : GoodIn ALL (va_wsS RX15 127 yX15_right (Cond.code yX15_right cX15_right 6 (some .boolean) :: ALL)) := gS K2149 K2150 K94 K2151
theorem HD_yJx4a65c_add_9ea2d : yJx4a65c_add_9ea2d.cls ≠ "java/lang/invoke/MethodHandle" ∧ yJx4a65c_add_9ea2d.cls ≠ "java/lang/invoke/VarHandle" ∧ (parseMethodDescriptor yJx4a65c_add_9ea2d.desc).map (fun d => d.parameters.length) = some 1 := by decide +kernel
theorem K2228 : (Cond.methodLink RX15 131 ⟨"java/util/List", "add", "(Ljava/lang/Object;)Z"⟩) ∈ ALL := mAC ch_t9 (i := 232) (by decide +kernel) rfl
theorem K2231 : (Cond.selects RJx4a65c ⟨"java/util/List", "add", "(Ljava/lang/Object;)Z"⟩ yJx4a65c_add_9ea2d) ∈ ALL := mAC ch_t9 (i := 235) (by decide +kernel) rfl
theorem K2233 : (Cond.instanceMethod yJx4a65c_add_9ea2d) ∈ ALL := mAC ch_t9 (i := 237) (by decide +kernel) rfl
theorem K2235 : (Cond.code yJx4a65c_add_9ea2d cJx4a65c_add_9ea2d 2 (some .boolean)) ∈ ALL := mAC ch_t9 (i := 239) (by decide +kernel) rfl
theorem GF_RX15_131 : GoodIn ALL (va_wsF RX15 131 RJx4a65c ⟨"java/util/List", "add", "(Ljava/lang/Object;)Z"⟩ yJx4a65c_add_9ea2d (Cond.code yJx4a65c_add_9ea2d cJx4a65c_add_9ea2d 2 (some .boolean) :: ALL)) := gF K2228 K2231 K2233 K98 K2235
theorem HD___java_util_List____add_____Ljava_lang_Object__Z__ : (⟨"java/util/List", "add", "(Ljava/lang/Object;)Z"⟩ : MethodName).cls ≠ "java/lang/invoke/MethodHandle" ∧ (⟨"java/util/List", "add", "(Ljava/lang/Object;)Z"⟩ : MethodName).cls ≠ "java/lang/invoke/VarHandle" ∧ (parseMethodDescriptor (⟨"java/util/List", "add", "(Ljava/lang/Object;)Z"⟩ : MethodName).desc).map (fun d => d.parameters.length) = some 1 := by decide +kernel
theorem K2088 : (Cond.fieldLink RX15 33 "UnwindlensModel" "kept" "Ljava/util/List;") ∈ ALL := mAC ch_t9 (i := 92) (by decide +kernel) rfl
theorem HD_yJx4a65c_clear_da8c8 : yJx4a65c_clear_da8c8.cls ≠ "java/lang/invoke/MethodHandle" ∧ yJx4a65c_clear_da8c8.cls ≠ "java/lang/invoke/VarHandle" ∧ (parseMethodDescriptor yJx4a65c_clear_da8c8.desc).map (fun d => d.parameters.length) = some 0 := by decide +kernel
theorem K2293 : (Cond.methodLink RX15 135 ⟨"java/util/List", "clear", "()V"⟩) ∈ ALL := mAC ch_t10 (i := 57) (by decide +kernel) rfl
theorem K2296 : (Cond.selects RJx4a65c ⟨"java/util/List", "clear", "()V"⟩ yJx4a65c_clear_da8c8) ∈ ALL := mAC ch_t10 (i := 60) (by decide +kernel) rfl
theorem K2298 : (Cond.instanceMethod yJx4a65c_clear_da8c8) ∈ ALL := mAC ch_t10 (i := 62) (by decide +kernel) rfl
theorem K2300 : (Cond.code yJx4a65c_clear_da8c8 cJx4a65c_clear_da8c8 4 none) ∈ ALL := mAC ch_t10 (i := 64) (by decide +kernel) rfl
theorem GF_RX15_135 : GoodIn ALL (va_wsF RX15 135 RJx4a65c ⟨"java/util/List", "clear", "()V"⟩ yJx4a65c_clear_da8c8 (Cond.code yJx4a65c_clear_da8c8 cJx4a65c_clear_da8c8 4 none :: ALL)) := gF K2293 K2296 K2298 K98 K2300
theorem HD___java_util_List____clear______V__ : (⟨"java/util/List", "clear", "()V"⟩ : MethodName).cls ≠ "java/lang/invoke/MethodHandle" ∧ (⟨"java/util/List", "clear", "()V"⟩ : MethodName).cls ≠ "java/lang/invoke/VarHandle" ∧ (parseMethodDescriptor (⟨"java/util/List", "clear", "()V"⟩ : MethodName).desc).map (fun d => d.parameters.length) = some 0 := by decide +kernel
theorem dX15_code_0 : decode cX15_code 0 = .ok (.aload_n 0, 1) := by decide +kernel
theorem dX15_code_1 : decode cX15_code 1 = .ok (.invokevirtual 124, 3) := by decide +kernel
theorem dX15_code_4 : decode cX15_code 4 = .ok (.aload_n 0, 1) := by decide +kernel
theorem dX15_code_5 : decode cX15_code 5 = .ok (.iload_n 1, 1) := by decide +kernel
theorem dX15_code_6 : decode cX15_code 6 = .ok (.iload_n 2, 1) := by decide +kernel
theorem dX15_code_7 : decode cX15_code 7 = .ok (.iload_n 3, 1) := by decide +kernel
theorem dX15_code_8 : decode cX15_code 8 = .ok (.invokestatic 127, 3) := by decide +kernel
theorem dX15_code_11 : decode cX15_code 11 = .ok (.ifCond .ne 7, 3) := by decide +kernel
theorem dX15_code_14 : decode cX15_code 14 = .ok (.iconst 1, 1) := by decide +kernel
theorem dX15_code_15 : decode cX15_code 15 = .ok (.goto 4, 3) := by decide +kernel
theorem dX15_code_18 : decode cX15_code 18 = .ok (.iconst 0, 1) := by decide +kernel
theorem dX15_code_19 : decode cX15_code 19 = .ok (.iconst 1, 1) := by decide +kernel
theorem dX15_code_20 : decode cX15_code 20 = .ok (.invokevirtual 98, 3) := by decide +kernel
theorem dX15_code_23 : decode cX15_code 23 = .ok (.ifCond .ne 30, 3) := by decide +kernel
theorem dX15_code_26 : decode cX15_code 26 = .ok (.aload_n 0, 1) := by decide +kernel
theorem dX15_code_27 : decode cX15_code 27 = .ok (.aload_n 0, 1) := by decide +kernel
theorem dX15_code_28 : decode cX15_code 28 = .ok (.getfield 37, 3) := by decide +kernel
theorem dX15_code_31 : decode cX15_code 31 = .ok (.invokeinterface 7 1, 5) := by decide +kernel
theorem dX15_code_36 : decode cX15_code 36 = .ok (.bipush 60, 2) := by decide +kernel
theorem dX15_code_38 : decode cX15_code 38 = .ok (.if_icmp .ne 7, 3) := by decide +kernel
theorem dX15_code_41 : decode cX15_code 41 = .ok (.iconst 1, 1) := by decide +kernel
theorem dX15_code_42 : decode cX15_code 42 = .ok (.goto 4, 3) := by decide +kernel
theorem dX15_code_45 : decode cX15_code 45 = .ok (.iconst 0, 1) := by decide +kernel
theorem dX15_code_46 : decode cX15_code 46 = .ok (.iconst 2, 1) := by decide +kernel
theorem dX15_code_47 : decode cX15_code 47 = .ok (.invokevirtual 98, 3) := by decide +kernel
theorem dX15_code_50 : decode cX15_code 50 = .ok (.ifCond .eq 5, 3) := by decide +kernel
theorem dX15_code_53 : decode cX15_code 53 = .ok (.iconst (-1), 1) := by decide +kernel
theorem dX15_code_54 : decode cX15_code 54 = .ok (.ireturn, 1) := by decide +kernel
theorem dX15_code_55 : decode cX15_code 55 = .ok (.aload_n 0, 1) := by decide +kernel
theorem dX15_code_56 : decode cX15_code 56 = .ok (.getfield 37, 3) := by decide +kernel
theorem dX15_code_59 : decode cX15_code 59 = .ok (.iconst 3, 1) := by decide +kernel
theorem dX15_code_60 : decode cX15_code 60 = .ok (.newarray .int, 2) := by decide +kernel
theorem dX15_code_62 : decode cX15_code 62 = .ok (.dup, 1) := by decide +kernel
theorem dX15_code_63 : decode cX15_code 63 = .ok (.iconst 0, 1) := by decide +kernel
theorem dX15_code_64 : decode cX15_code 64 = .ok (.iload_n 1, 1) := by decide +kernel
theorem dX15_code_65 : decode cX15_code 65 = .ok (.iastore, 1) := by decide +kernel
theorem dX15_code_66 : decode cX15_code 66 = .ok (.dup, 1) := by decide +kernel
theorem dX15_code_67 : decode cX15_code 67 = .ok (.iconst 1, 1) := by decide +kernel
theorem dX15_code_68 : decode cX15_code 68 = .ok (.iload_n 2, 1) := by decide +kernel
theorem dX15_code_69 : decode cX15_code 69 = .ok (.iastore, 1) := by decide +kernel
theorem dX15_code_70 : decode cX15_code 70 = .ok (.dup, 1) := by decide +kernel
theorem dX15_code_71 : decode cX15_code 71 = .ok (.iconst 2, 1) := by decide +kernel
theorem dX15_code_72 : decode cX15_code 72 = .ok (.iload_n 3, 1) := by decide +kernel
theorem dX15_code_73 : decode cX15_code 73 = .ok (.iastore, 1) := by decide +kernel
theorem dX15_code_74 : decode cX15_code 74 = .ok (.invokeinterface 131 2, 5) := by decide +kernel
theorem dX15_code_79 : decode cX15_code 79 = .ok (.pop, 1) := by decide +kernel
theorem dX15_code_80 : decode cX15_code 80 = .ok (.aload_n 0, 1) := by decide +kernel
theorem dX15_code_81 : decode cX15_code 81 = .ok (.getfield 33, 3) := by decide +kernel
theorem dX15_code_84 : decode cX15_code 84 = .ok (.invokeinterface 135 1, 5) := by decide +kernel
theorem dX15_code_89 : decode cX15_code 89 = .ok (.aload_n 0, 1) := by decide +kernel
theorem dX15_code_90 : decode cX15_code 90 = .ok (.getfield 37, 3) := by decide +kernel
theorem dX15_code_93 : decode cX15_code 93 = .ok (.invokeinterface 7 1, 5) := by decide +kernel
theorem dX15_code_98 : decode cX15_code 98 = .ok (.iconst 1, 1) := by decide +kernel
theorem dX15_code_99 : decode cX15_code 99 = .ok (.isub, 1) := by decide +kernel
theorem dX15_code_100 : decode cX15_code 100 = .ok (.ireturn, 1) := by decide +kernel
