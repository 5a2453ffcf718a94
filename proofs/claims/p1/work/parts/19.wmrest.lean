theorem K2061 : (Cond.fieldLinkNest RX15 230 "UnwindlensModel$Target" "cells" "[I" RX15) ∈ NGS := mNC ch_t9 (i := 65) (by decide +kernel) rfl
theorem K2101 : (Cond.fieldLink RX15 81 "UnwindlensModel" "watches" "Ljava/util/List;") ∈ ALL := mAC ch_t9 (i := 105) (by decide +kernel) rfl
theorem K2718 : (Cond.constantLong RX15 411 500) ∈ ALL := mAC ch_t12 (i := 2) (by decide +kernel) rfl
theorem HD_yX15_next : yX15_next.cls ≠ "java/lang/invoke/MethodHandle" ∧ yX15_next.cls ≠ "java/lang/invoke/VarHandle" ∧ (parseMethodDescriptor yX15_next.desc).map (fun d => d.parameters.length) = some 0 := by decide +kernel
theorem K2722 : (Cond.code yX15_next cX15_next 4 (some .int)) ∈ ALL := mAC ch_t12 (i := 6) (by decide +kernel) rfl
theorem K2719 : (Cond.methodLink RX15 413 yX15_next) ∈ ALL := mAC ch_t12 (i := 3) (by decide +kernel) rfl
theorem K2721 : (Cond.instanceMethod yX15_next) ∈ ALL := mAC ch_t12 (i := 5) (by decide +kernel) rfl
theorem K63 : (Cond.selects RX15 yX15_next yX15_next) ∈ ALL := mAC ch_sel (i := 63) (by decide +kernel) rfl
theorem GV_RX15_413 : GoodIn ALL (wsV RX15 413 RX15 yX15_next (Cond.code yX15_next cX15_next 4 (some .int) :: ALL)) := gV K2719 K2721 K63 K94 K2722
theorem HD_yX15_ends : yX15_ends.cls ≠ "java/lang/invoke/MethodHandle" ∧ yX15_ends.cls ≠ "java/lang/invoke/VarHandle" ∧ (parseMethodDescriptor yX15_ends.desc).map (fun d => d.parameters.length) = some 2 := by decide +kernel
theorem K2730 : (Cond.code yX15_ends cX15_ends 3 none) ∈ ALL := mAC ch_t12 (i := 14) (by decide +kernel) rfl
theorem K2727 : (Cond.methodLink RX15 407 yX15_ends) ∈ ALL := mAC ch_t12 (i := 11) (by decide +kernel) rfl
theorem K2729 : (Cond.instanceMethod yX15_ends) ∈ ALL := mAC ch_t12 (i := 13) (by decide +kernel) rfl
theorem K65 : (Cond.selects RX15 yX15_ends yX15_ends) ∈ ALL := mAC ch_sel (i := 65) (by decide +kernel) rfl
theorem GV_RX15_407 : GoodIn ALL (wsV RX15 407 RX15 yX15_ends (Cond.code yX15_ends cX15_ends 3 none :: ALL)) := gV K2727 K2729 K65 K94 K2730
theorem K2811 : (Cond.constantLong RX15 432 1000) ∈ ALL := mAC ch_t12 (i := 95) (by decide +kernel) rfl
theorem K2067 : (Cond.fieldLinkNest RX15 233 "UnwindlensModel$Target" "time" "I" RX15) ∈ NGS := mNC ch_t9 (i := 71) (by decide +kernel) rfl
theorem K2868 : (Cond.constantLong RX15 447 7) ∈ ALL := mAC ch_t12 (i := 152) (by decide +kernel) rfl
theorem K2869 : (Cond.constantLong RX15 449 31) ∈ ALL := mAC ch_t12 (i := 153) (by decide +kernel) rfl
theorem HD_yJx4a65c_iterator_32c93 : yJx4a65c_iterator_32c93.cls ≠ "java/lang/invoke/MethodHandle" ∧ yJx4a65c_iterator_32c93.cls ≠ "java/lang/invoke/VarHandle" ∧ (parseMethodDescriptor yJx4a65c_iterator_32c93.desc).map (fun d => d.parameters.length) = some 0 := by decide +kernel
theorem K2348 : (Cond.methodLink RX15 138 ⟨"java/util/List", "iterator", "()Ljava/util/Iterator;"⟩) ∈ ALL := mAC ch_t10 (i := 112) (by decide +kernel) rfl
theorem K2351 : (Cond.selects RJx4a65c ⟨"java/util/List", "iterator", "()Ljava/util/Iterator;"⟩ yJx4a65c_iterator_32c93) ∈ ALL := mAC ch_t10 (i := 115) (by decide +kernel) rfl
theorem K2353 : (Cond.instanceMethod yJx4a65c_iterator_32c93) ∈ ALL := mAC ch_t10 (i := 117) (by decide +kernel) rfl
theorem K2355 : (Cond.code yJx4a65c_iterator_32c93 cJx4a65c_iterator_32c93 1 (some (.object "java/util/Iterator"))) ∈ ALL := mAC ch_t10 (i := 119) (by decide +kernel) rfl
theorem GF_RX15_138 : GoodIn ALL (va_wsF RX15 138 RJx4a65c ⟨"java/util/List", "iterator", "()Ljava/util/Iterator;"⟩ yJx4a65c_iterator_32c93 (Cond.code yJx4a65c_iterator_32c93 cJx4a65c_iterator_32c93 1 (some (.object "java/util/Iterator")) :: ALL)) := gF K2348 K2351 K2353 K98 K2355
theorem HD___java_util_List____iterator______Ljava_util_Iterator___ : (⟨"java/util/List", "iterator", "()Ljava/util/Iterator;"⟩ : MethodName).cls ≠ "java/lang/invoke/MethodHandle" ∧ (⟨"java/util/List", "iterator", "()Ljava/util/Iterator;"⟩ : MethodName).cls ≠ "java/lang/invoke/VarHandle" ∧ (parseMethodDescriptor (⟨"java/util/List", "iterator", "()Ljava/util/Iterator;"⟩ : MethodName).desc).map (fun d => d.parameters.length) = some 0 := by decide +kernel
theorem HD_yJx35411_hasNext_aae02 : yJx35411_hasNext_aae02.cls ≠ "java/lang/invoke/MethodHandle" ∧ yJx35411_hasNext_aae02.cls ≠ "java/lang/invoke/VarHandle" ∧ (parseMethodDescriptor yJx35411_hasNext_aae02.desc).map (fun d => d.parameters.length) = some 0 := by decide +kernel
theorem K2376 : (Cond.methodLink RX15 142 ⟨"java/util/Iterator", "hasNext", "()Z"⟩) ∈ ALL := mAC ch_t10 (i := 140) (by decide +kernel) rfl
theorem K2380 : (Cond.selects RJx35411 ⟨"java/util/Iterator", "hasNext", "()Z"⟩ yJx35411_hasNext_aae02) ∈ ALL := mAC ch_t10 (i := 144) (by decide +kernel) rfl
theorem K2382 : (Cond.instanceMethod yJx35411_hasNext_aae02) ∈ ALL := mAC ch_t10 (i := 146) (by decide +kernel) rfl
theorem K2384 : (Cond.code yJx35411_hasNext_aae02 cJx35411_hasNext_aae02 1 (some .boolean)) ∈ ALL := mAC ch_t10 (i := 148) (by decide +kernel) rfl
theorem GF_RX15_142 : GoodIn ALL (va_wsF RX15 142 RJx35411 ⟨"java/util/Iterator", "hasNext", "()Z"⟩ yJx35411_hasNext_aae02 (Cond.code yJx35411_hasNext_aae02 cJx35411_hasNext_aae02 1 (some .boolean) :: ALL)) := gF K2376 K2380 K2382 K113 K2384
theorem HD___java_util_Iterator____hasNext______Z__ : (⟨"java/util/Iterator", "hasNext", "()Z"⟩ : MethodName).cls ≠ "java/lang/invoke/MethodHandle" ∧ (⟨"java/util/Iterator", "hasNext", "()Z"⟩ : MethodName).cls ≠ "java/lang/invoke/VarHandle" ∧ (parseMethodDescriptor (⟨"java/util/Iterator", "hasNext", "()Z"⟩ : MethodName).desc).map (fun d => d.parameters.length) = some 0 := by decide +kernel
theorem HD_yJx4a65c_isEmpty_aae02 : yJx4a65c_isEmpty_aae02.cls ≠ "java/lang/invoke/MethodHandle" ∧ yJx4a65c_isEmpty_aae02.cls ≠ "java/lang/invoke/VarHandle" ∧ (parseMethodDescriptor yJx4a65c_isEmpty_aae02.desc).map (fun d => d.parameters.length) = some 0 := by decide +kernel
theorem K2852 : (Cond.methodLink RX15 444 ⟨"java/util/List", "isEmpty", "()Z"⟩) ∈ ALL := mAC ch_t12 (i := 136) (by decide +kernel) rfl
theorem K2855 : (Cond.selects RJx4a65c ⟨"java/util/List", "isEmpty", "()Z"⟩ yJx4a65c_isEmpty_aae02) ∈ ALL := mAC ch_t12 (i := 139) (by decide +kernel) rfl
theorem K2857 : (Cond.instanceMethod yJx4a65c_isEmpty_aae02) ∈ ALL := mAC ch_t12 (i := 141) (by decide +kernel) rfl
theorem K2859 : (Cond.code yJx4a65c_isEmpty_aae02 cJx4a65c_isEmpty_aae02 1 (some .boolean)) ∈ ALL := mAC ch_t12 (i := 143) (by decide +kernel) rfl
theorem GF_RX15_444 : GoodIn ALL (va_wsF RX15 444 RJx4a65c ⟨"java/util/List", "isEmpty", "()Z"⟩ yJx4a65c_isEmpty_aae02 (Cond.code yJx4a65c_isEmpty_aae02 cJx4a65c_isEmpty_aae02 1 (some .boolean) :: ALL)) := gF K2852 K2855 K2857 K98 K2859
theorem HD___java_util_List____isEmpty______Z__ : (⟨"java/util/List", "isEmpty", "()Z"⟩ : MethodName).cls ≠ "java/lang/invoke/MethodHandle" ∧ (⟨"java/util/List", "isEmpty", "()Z"⟩ : MethodName).cls ≠ "java/lang/invoke/VarHandle" ∧ (parseMethodDescriptor (⟨"java/util/List", "isEmpty", "()Z"⟩ : MethodName).desc).map (fun d => d.parameters.length) = some 0 := by decide +kernel
theorem dX15_cell_0 : decode cX15_cell 0 = .ok (.aload_n 0, 1) := by decide +kernel
theorem dX15_cell_1 : decode cX15_cell 1 = .ok (.invokevirtual 124, 3) := by decide +kernel
theorem dX15_cell_4 : decode cX15_cell 4 = .ok (.aload_n 0, 1) := by decide +kernel
theorem dX15_cell_5 : decode cX15_cell 5 = .ok (.iload_n 1, 1) := by decide +kernel
theorem dX15_cell_6 : decode cX15_cell 6 = .ok (.i2l, 1) := by decide +kernel
theorem dX15_cell_7 : decode cX15_cell 7 = .ok (.lconst 0, 1) := by decide +kernel
theorem dX15_cell_8 : decode cX15_cell 8 = .ok (.ldc2_w 116, 3) := by decide +kernel
theorem dX15_cell_11 : decode cX15_cell 11 = .ok (.invokestatic 13, 3) := by decide +kernel
theorem dX15_cell_14 : decode cX15_cell 14 = .ok (.ifCond .ne 7, 3) := by decide +kernel
theorem dX15_cell_17 : decode cX15_cell 17 = .ok (.iconst 1, 1) := by decide +kernel
theorem dX15_cell_18 : decode cX15_cell 18 = .ok (.goto 4, 3) := by decide +kernel
theorem dX15_cell_21 : decode cX15_cell 21 = .ok (.iconst 0, 1) := by decide +kernel
theorem dX15_cell_22 : decode cX15_cell 22 = .ok (.iconst 1, 1) := by decide +kernel
theorem dX15_cell_23 : decode cX15_cell 23 = .ok (.invokevirtual 98, 3) := by decide +kernel
theorem dX15_cell_26 : decode cX15_cell 26 = .ok (.ifCond .eq 7, 3) := by decide +kernel
theorem dX15_cell_29 : decode cX15_cell 29 = .ok (.iconst (-1), 1) := by decide +kernel
theorem dX15_cell_30 : decode cX15_cell 30 = .ok (.goto 12, 3) := by decide +kernel
theorem dX15_cell_33 : decode cX15_cell 33 = .ok (.aload_n 0, 1) := by decide +kernel
theorem dX15_cell_34 : decode cX15_cell 34 = .ok (.getfield 26, 3) := by decide +kernel
theorem dX15_cell_37 : decode cX15_cell 37 = .ok (.getfield 230, 3) := by decide +kernel
theorem dX15_cell_40 : decode cX15_cell 40 = .ok (.iload_n 1, 1) := by decide +kernel
theorem dX15_cell_41 : decode cX15_cell 41 = .ok (.iaload, 1) := by decide +kernel
theorem dX15_cell_42 : decode cX15_cell 42 = .ok (.ireturn, 1) := by decide +kernel
theorem dX15_watch_0 : decode cX15_watch 0 = .ok (.aload_n 0, 1) := by decide +kernel
theorem dX15_watch_1 : decode cX15_watch 1 = .ok (.invokevirtual 124, 3) := by decide +kernel
theorem dX15_watch_4 : decode cX15_watch 4 = .ok (.aload_n 0, 1) := by decide +kernel
theorem dX15_watch_5 : decode cX15_watch 5 = .ok (.iload_n 1, 1) := by decide +kernel
theorem dX15_watch_6 : decode cX15_watch 6 = .ok (.i2l, 1) := by decide +kernel
theorem dX15_watch_7 : decode cX15_watch 7 = .ok (.lconst 0, 1) := by decide +kernel
theorem dX15_watch_8 : decode cX15_watch 8 = .ok (.ldc2_w 116, 3) := by decide +kernel
theorem dX15_watch_11 : decode cX15_watch 11 = .ok (.invokestatic 13, 3) := by decide +kernel
theorem dX15_watch_14 : decode cX15_watch 14 = .ok (.ifCond .ne 7, 3) := by decide +kernel
theorem dX15_watch_17 : decode cX15_watch 17 = .ok (.iconst 1, 1) := by decide +kernel
theorem dX15_watch_18 : decode cX15_watch 18 = .ok (.goto 4, 3) := by decide +kernel
theorem dX15_watch_21 : decode cX15_watch 21 = .ok (.iconst 0, 1) := by decide +kernel
theorem dX15_watch_22 : decode cX15_watch 22 = .ok (.iconst 1, 1) := by decide +kernel
theorem dX15_watch_23 : decode cX15_watch 23 = .ok (.invokevirtual 98, 3) := by decide +kernel
theorem dX15_watch_26 : decode cX15_watch 26 = .ok (.ifCond .ne 29, 3) := by decide +kernel
theorem dX15_watch_29 : decode cX15_watch 29 = .ok (.aload_n 0, 1) := by decide +kernel
theorem dX15_watch_30 : decode cX15_watch 30 = .ok (.aload_n 0, 1) := by decide +kernel
theorem dX15_watch_31 : decode cX15_watch 31 = .ok (.getfield 81, 3) := by decide +kernel
theorem dX15_watch_34 : decode cX15_watch 34 = .ok (.invokeinterface 7 1, 5) := by decide +kernel
theorem dX15_watch_39 : decode cX15_watch 39 = .ok (.iconst 4, 1) := by decide +kernel
theorem dX15_watch_40 : decode cX15_watch 40 = .ok (.if_icmp .ne 7, 3) := by decide +kernel
theorem dX15_watch_43 : decode cX15_watch 43 = .ok (.iconst 1, 1) := by decide +kernel
theorem dX15_watch_44 : decode cX15_watch 44 = .ok (.goto 4, 3) := by decide +kernel
theorem dX15_watch_47 : decode cX15_watch 47 = .ok (.iconst 0, 1) := by decide +kernel
theorem dX15_watch_48 : decode cX15_watch 48 = .ok (.iconst 2, 1) := by decide +kernel
theorem dX15_watch_49 : decode cX15_watch 49 = .ok (.invokevirtual 98, 3) := by decide +kernel
theorem dX15_watch_52 : decode cX15_watch 52 = .ok (.ifCond .eq 5, 3) := by decide +kernel
theorem dX15_watch_55 : decode cX15_watch 55 = .ok (.iconst (-1), 1) := by decide +kernel
theorem dX15_watch_56 : decode cX15_watch 56 = .ok (.ireturn, 1) := by decide +kernel
theorem dX15_watch_57 : decode cX15_watch 57 = .ok (.aload_n 0, 1) := by decide +kernel
theorem dX15_watch_58 : decode cX15_watch 58 = .ok (.getfield 81, 3) := by decide +kernel
theorem dX15_watch_61 : decode cX15_watch 61 = .ok (.iconst 5, 1) := by decide +kernel
theorem dX15_watch_62 : decode cX15_watch 62 = .ok (.newarray .int, 2) := by decide +kernel
theorem dX15_watch_64 : decode cX15_watch 64 = .ok (.dup, 1) := by decide +kernel
theorem dX15_watch_65 : decode cX15_watch 65 = .ok (.iconst 0, 1) := by decide +kernel
theorem dX15_watch_66 : decode cX15_watch 66 = .ok (.bipush 103, 2) := by decide +kernel
theorem dX15_watch_68 : decode cX15_watch 68 = .ok (.iastore, 1) := by decide +kernel
theorem dX15_watch_69 : decode cX15_watch 69 = .ok (.dup, 1) := by decide +kernel
theorem dX15_watch_70 : decode cX15_watch 70 = .ok (.iconst 1, 1) := by decide +kernel
theorem dX15_watch_71 : decode cX15_watch 71 = .ok (.iconst (-1), 1) := by decide +kernel
theorem dX15_watch_72 : decode cX15_watch 72 = .ok (.iastore, 1) := by decide +kernel
theorem dX15_watch_73 : decode cX15_watch 73 = .ok (.dup, 1) := by decide +kernel
theorem dX15_watch_74 : decode cX15_watch 74 = .ok (.iconst 2, 1) := by decide +kernel
theorem dX15_watch_75 : decode cX15_watch 75 = .ok (.iload_n 1, 1) := by decide +kernel
theorem dX15_watch_76 : decode cX15_watch 76 = .ok (.iastore, 1) := by decide +kernel
theorem dX15_watch_77 : decode cX15_watch 77 = .ok (.dup, 1) := by decide +kernel
theorem dX15_watch_78 : decode cX15_watch 78 = .ok (.iconst 3, 1) := by decide +kernel
theorem dX15_watch_79 : decode cX15_watch 79 = .ok (.aload_n 0, 1) := by decide +kernel
theorem dX15_watch_80 : decode cX15_watch 80 = .ok (.getfield 26, 3) := by decide +kernel
theorem dX15_watch_83 : decode cX15_watch 83 = .ok (.getfield 230, 3) := by decide +kernel
theorem dX15_watch_86 : decode cX15_watch 86 = .ok (.iload_n 1, 1) := by decide +kernel
theorem dX15_watch_87 : decode cX15_watch 87 = .ok (.iaload, 1) := by decide +kernel
theorem dX15_watch_88 : decode cX15_watch 88 = .ok (.iastore, 1) := by decide +kernel
theorem dX15_watch_89 : decode cX15_watch 89 = .ok (.dup, 1) := by decide +kernel
theorem dX15_watch_90 : decode cX15_watch 90 = .ok (.iconst 4, 1) := by decide +kernel
theorem dX15_watch_91 : decode cX15_watch 91 = .ok (.iconst 0, 1) := by decide +kernel
theorem dX15_watch_92 : decode cX15_watch 92 = .ok (.iastore, 1) := by decide +kernel
theorem dX15_watch_93 : decode cX15_watch 93 = .ok (.invokeinterface 131 2, 5) := by decide +kernel
theorem dX15_watch_98 : decode cX15_watch 98 = .ok (.pop, 1) := by decide +kernel
theorem dX15_watch_99 : decode cX15_watch 99 = .ok (.aload_n 0, 1) := by decide +kernel
theorem dX15_watch_100 : decode cX15_watch 100 = .ok (.getfield 81, 3) := by decide +kernel
theorem dX15_watch_103 : decode cX15_watch 103 = .ok (.invokeinterface 7 1, 5) := by decide +kernel
theorem dX15_watch_108 : decode cX15_watch 108 = .ok (.iconst 1, 1) := by decide +kernel
theorem dX15_watch_109 : decode cX15_watch 109 = .ok (.isub, 1) := by decide +kernel
theorem dX15_watch_110 : decode cX15_watch 110 = .ok (.ireturn, 1) := by decide +kernel
theorem dX15_run_0 : decode cX15_run 0 = .ok (.aload_n 0, 1) := by decide +kernel
theorem dX15_run_1 : decode cX15_run 1 = .ok (.invokevirtual 124, 3) := by decide +kernel
theorem dX15_run_4 : decode cX15_run 4 = .ok (.aload_n 0, 1) := by decide +kernel
theorem dX15_run_5 : decode cX15_run 5 = .ok (.iload_n 1, 1) := by decide +kernel
theorem dX15_run_6 : decode cX15_run 6 = .ok (.i2l, 1) := by decide +kernel
theorem dX15_run_7 : decode cX15_run 7 = .ok (.lconst 1, 1) := by decide +kernel
theorem dX15_run_8 : decode cX15_run 8 = .ok (.ldc2_w 411, 3) := by decide +kernel
theorem dX15_run_11 : decode cX15_run 11 = .ok (.invokestatic 13, 3) := by decide +kernel
theorem dX15_run_14 : decode cX15_run 14 = .ok (.ifCond .ne 7, 3) := by decide +kernel
theorem dX15_run_17 : decode cX15_run 17 = .ok (.iconst 1, 1) := by decide +kernel
theorem dX15_run_18 : decode cX15_run 18 = .ok (.goto 4, 3) := by decide +kernel
theorem dX15_run_21 : decode cX15_run 21 = .ok (.iconst 0, 1) := by decide +kernel
theorem dX15_run_22 : decode cX15_run 22 = .ok (.iconst 1, 1) := by decide +kernel
theorem dX15_run_23 : decode cX15_run 23 = .ok (.invokevirtual 98, 3) := by decide +kernel
theorem dX15_run_26 : decode cX15_run 26 = .ok (.ifCond .eq 5, 3) := by decide +kernel
theorem dX15_run_29 : decode cX15_run 29 = .ok (.iconst (-1), 1) := by decide +kernel
theorem dX15_run_30 : decode cX15_run 30 = .ok (.ireturn, 1) := by decide +kernel
theorem dX15_run_31 : decode cX15_run 31 = .ok (.iconst 0, 1) := by decide +kernel
theorem dX15_run_32 : decode cX15_run 32 = .ok (.istore_n 2, 1) := by decide +kernel
theorem dX15_run_33 : decode cX15_run 33 = .ok (.iload_n 2, 1) := by decide +kernel
theorem dX15_run_34 : decode cX15_run 34 = .ok (.iload_n 1, 1) := by decide +kernel
theorem dX15_run_35 : decode cX15_run 35 = .ok (.if_icmp .ge 10, 3) := by decide +kernel
theorem dX15_run_38 : decode cX15_run 38 = .ok (.aload_n 0, 1) := by decide +kernel
theorem dX15_run_39 : decode cX15_run 39 = .ok (.invokevirtual 413, 3) := by decide +kernel
theorem dX15_run_42 : decode cX15_run 42 = .ok (.goto 4, 3) := by decide +kernel
theorem dX15_run_45 : decode cX15_run 45 = .ok (.iconst (-1), 1) := by decide +kernel
theorem dX15_run_46 : decode cX15_run 46 = .ok (.istore_n 3, 1) := by decide +kernel
theorem dX15_run_47 : decode cX15_run 47 = .ok (.iload_n 3, 1) := by decide +kernel
theorem dX15_run_48 : decode cX15_run 48 = .ok (.iconst (-1), 1) := by decide +kernel
theorem dX15_run_49 : decode cX15_run 49 = .ok (.if_icmp .ne 22, 3) := by decide +kernel
theorem dX15_run_52 : decode cX15_run 52 = .ok (.aload_n 0, 1) := by decide +kernel
theorem dX15_run_53 : decode cX15_run 53 = .ok (.iload_n 2, 1) := by decide +kernel
theorem dX15_run_54 : decode cX15_run 54 = .ok (.iload_n 1, 1) := by decide +kernel
theorem dX15_run_55 : decode cX15_run 55 = .ok (.if_icmp .ge 8, 3) := by decide +kernel
theorem dX15_run_58 : decode cX15_run 58 = .ok (.bipush 100, 2) := by decide +kernel
theorem dX15_run_60 : decode cX15_run 60 = .ok (.goto 5, 3) := by decide +kernel
theorem dX15_run_63 : decode cX15_run 63 = .ok (.bipush 110, 2) := by decide +kernel
theorem dX15_run_65 : decode cX15_run 65 = .ok (.iconst (-1), 1) := by decide +kernel
theorem dX15_run_66 : decode cX15_run 66 = .ok (.invokevirtual 407, 3) := by decide +kernel
theorem dX15_run_69 : decode cX15_run 69 = .ok (.iload_n 2, 1) := by decide +kernel
theorem dX15_run_70 : decode cX15_run 70 = .ok (.ireturn, 1) := by decide +kernel
theorem dX15_run_71 : decode cX15_run 71 = .ok (.aload_n 0, 1) := by decide +kernel
theorem dX15_run_72 : decode cX15_run 72 = .ok (.iload_n 3, 1) := by decide +kernel
theorem dX15_run_73 : decode cX15_run 73 = .ok (.invokevirtual 415, 3) := by decide +kernel
theorem dX15_run_76 : decode cX15_run 76 = .ok (.ifCond .eq 5, 3) := by decide +kernel
theorem dX15_run_79 : decode cX15_run 79 = .ok (.iload_n 2, 1) := by decide +kernel
theorem dX15_run_80 : decode cX15_run 80 = .ok (.ireturn, 1) := by decide +kernel
theorem dX15_run_81 : decode cX15_run 81 = .ok (.aload_n 0, 1) := by decide +kernel
theorem dX15_run_82 : decode cX15_run 82 = .ok (.iload_n 3, 1) := by decide +kernel
theorem dX15_run_83 : decode cX15_run 83 = .ok (.invokevirtual 418, 3) := by decide +kernel
theorem dX15_run_86 : decode cX15_run 86 = .ok (.iinc 2 1, 3) := by decide +kernel
theorem dX15_run_89 : decode cX15_run 89 = .ok (.aload_n 0, 1) := by decide +kernel
theorem dX15_run_90 : decode cX15_run 90 = .ok (.invokevirtual 420, 3) := by decide +kernel
theorem dX15_run_93 : decode cX15_run 93 = .ok (.ifCond .eq 5, 3) := by decide +kernel
theorem dX15_run_96 : decode cX15_run 96 = .ok (.iload_n 2, 1) := by decide +kernel
theorem dX15_run_97 : decode cX15_run 97 = .ok (.ireturn, 1) := by decide +kernel
theorem dX15_run_98 : decode cX15_run 98 = .ok (.goto (-65), 3) := by decide +kernel
theorem dX15_back_0 : decode cX15_back 0 = .ok (.aload_n 0, 1) := by decide +kernel
theorem dX15_back_1 : decode cX15_back 1 = .ok (.invokevirtual 124, 3) := by decide +kernel
theorem dX15_back_4 : decode cX15_back 4 = .ok (.aload_n 0, 1) := by decide +kernel
theorem dX15_back_5 : decode cX15_back 5 = .ok (.iload_n 1, 1) := by decide +kernel
theorem dX15_back_6 : decode cX15_back 6 = .ok (.i2l, 1) := by decide +kernel
theorem dX15_back_7 : decode cX15_back 7 = .ok (.lconst 1, 1) := by decide +kernel
theorem dX15_back_8 : decode cX15_back 8 = .ok (.ldc2_w 432, 3) := by decide +kernel
theorem dX15_back_11 : decode cX15_back 11 = .ok (.invokestatic 13, 3) := by decide +kernel
theorem dX15_back_14 : decode cX15_back 14 = .ok (.ifCond .ne 7, 3) := by decide +kernel
theorem dX15_back_17 : decode cX15_back 17 = .ok (.iconst 1, 1) := by decide +kernel
theorem dX15_back_18 : decode cX15_back 18 = .ok (.goto 4, 3) := by decide +kernel
theorem dX15_back_21 : decode cX15_back 21 = .ok (.iconst 0, 1) := by decide +kernel
theorem dX15_back_22 : decode cX15_back 22 = .ok (.iconst 1, 1) := by decide +kernel
theorem dX15_back_23 : decode cX15_back 23 = .ok (.invokevirtual 98, 3) := by decide +kernel
theorem dX15_back_26 : decode cX15_back 26 = .ok (.ifCond .ne 29, 3) := by decide +kernel
theorem dX15_back_29 : decode cX15_back 29 = .ok (.aload_n 0, 1) := by decide +kernel
theorem dX15_back_30 : decode cX15_back 30 = .ok (.aload_n 0, 1) := by decide +kernel
theorem dX15_back_31 : decode cX15_back 31 = .ok (.getfield 33, 3) := by decide +kernel
theorem dX15_back_34 : decode cX15_back 34 = .ok (.invokeinterface 7 1, 5) := by decide +kernel
theorem dX15_back_39 : decode cX15_back 39 = .ok (.iload_n 1, 1) := by decide +kernel
theorem dX15_back_40 : decode cX15_back 40 = .ok (.if_icmp .ge 7, 3) := by decide +kernel
theorem dX15_back_43 : decode cX15_back 43 = .ok (.iconst 1, 1) := by decide +kernel
theorem dX15_back_44 : decode cX15_back 44 = .ok (.goto 4, 3) := by decide +kernel
theorem dX15_back_47 : decode cX15_back 47 = .ok (.iconst 0, 1) := by decide +kernel
theorem dX15_back_48 : decode cX15_back 48 = .ok (.iconst 2, 1) := by decide +kernel
theorem dX15_back_49 : decode cX15_back 49 = .ok (.invokevirtual 98, 3) := by decide +kernel
theorem dX15_back_52 : decode cX15_back 52 = .ok (.ifCond .eq 5, 3) := by decide +kernel
theorem dX15_back_55 : decode cX15_back 55 = .ok (.iconst (-1), 1) := by decide +kernel
theorem dX15_back_56 : decode cX15_back 56 = .ok (.ireturn, 1) := by decide +kernel
theorem dX15_back_57 : decode cX15_back 57 = .ok (.aload_n 0, 1) := by decide +kernel
theorem dX15_back_58 : decode cX15_back 58 = .ok (.iload_n 1, 1) := by decide +kernel
theorem dX15_back_59 : decode cX15_back 59 = .ok (.invokevirtual 434, 3) := by decide +kernel
theorem dX15_back_62 : decode cX15_back 62 = .ok (.aload_n 0, 1) := by decide +kernel
theorem dX15_back_63 : decode cX15_back 63 = .ok (.getfield 26, 3) := by decide +kernel
theorem dX15_back_66 : decode cX15_back 66 = .ok (.getfield 233, 3) := by decide +kernel
theorem dX15_back_69 : decode cX15_back 69 = .ok (.ireturn, 1) := by decide +kernel
theorem dX15_backTo_0 : decode cX15_backTo 0 = .ok (.aload_n 0, 1) := by decide +kernel
theorem dX15_backTo_1 : decode cX15_backTo 1 = .ok (.invokevirtual 124, 3) := by decide +kernel
theorem dX15_backTo_4 : decode cX15_backTo 4 = .ok (.aload_n 0, 1) := by decide +kernel
theorem dX15_backTo_5 : decode cX15_backTo 5 = .ok (.getfield 26, 3) := by decide +kernel
theorem dX15_backTo_8 : decode cX15_backTo 8 = .ok (.astore_n 1, 1) := by decide +kernel
theorem dX15_backTo_9 : decode cX15_backTo 9 = .ok (.iconst 0, 1) := by decide +kernel
theorem dX15_backTo_10 : decode cX15_backTo 10 = .ok (.istore_n 2, 1) := by decide +kernel
theorem dX15_backTo_11 : decode cX15_backTo 11 = .ok (.iconst 1, 1) := by decide +kernel
theorem dX15_backTo_12 : decode cX15_backTo 12 = .ok (.istore_n 3, 1) := by decide +kernel
theorem dX15_backTo_13 : decode cX15_backTo 13 = .ok (.iload_n 3, 1) := by decide +kernel
theorem dX15_backTo_14 : decode cX15_backTo 14 = .ok (.aload_n 0, 1) := by decide +kernel
theorem dX15_backTo_15 : decode cX15_backTo 15 = .ok (.getfield 33, 3) := by decide +kernel
theorem dX15_backTo_18 : decode cX15_backTo 18 = .ok (.invokeinterface 7 1, 5) := by decide +kernel
theorem dX15_backTo_23 : decode cX15_backTo 23 = .ok (.if_icmp .gt 102, 3) := by decide +kernel
theorem dX15_backTo_26 : decode cX15_backTo 26 = .ok (.iload_n 2, 1) := by decide +kernel
theorem dX15_backTo_27 : decode cX15_backTo 27 = .ok (.ifCond .ne 98, 3) := by decide +kernel
theorem dX15_backTo_30 : decode cX15_backTo 30 = .ok (.aload_n 0, 1) := by decide +kernel
theorem dX15_backTo_31 : decode cX15_backTo 31 = .ok (.aload_n 0, 1) := by decide +kernel
theorem dX15_backTo_32 : decode cX15_backTo 32 = .ok (.getfield 33, 3) := by decide +kernel
theorem dX15_backTo_35 : decode cX15_backTo 35 = .ok (.aload_n 0, 1) := by decide +kernel
theorem dX15_backTo_36 : decode cX15_backTo 36 = .ok (.getfield 33, 3) := by decide +kernel
theorem dX15_backTo_39 : decode cX15_backTo 39 = .ok (.invokeinterface 7 1, 5) := by decide +kernel
theorem dX15_backTo_44 : decode cX15_backTo 44 = .ok (.iload_n 3, 1) := by decide +kernel
theorem dX15_backTo_45 : decode cX15_backTo 45 = .ok (.isub, 1) := by decide +kernel
theorem dX15_backTo_46 : decode cX15_backTo 46 = .ok (.invokeinterface 168 2, 5) := by decide +kernel
theorem dX15_backTo_51 : decode cX15_backTo 51 = .ok (.checkcast 23, 3) := by decide +kernel
theorem dX15_backTo_54 : decode cX15_backTo 54 = .ok (.putfield 26, 3) := by decide +kernel
theorem dX15_backTo_57 : decode cX15_backTo 57 = .ok (.aload_n 0, 1) := by decide +kernel
theorem dX15_backTo_58 : decode cX15_backTo 58 = .ok (.getfield 78, 3) := by decide +kernel
theorem dX15_backTo_61 : decode cX15_backTo 61 = .ok (.invokeinterface 138 1, 5) := by decide +kernel
theorem dX15_backTo_66 : decode cX15_backTo 66 = .ok (.astore 4, 2) := by decide +kernel
theorem dX15_backTo_68 : decode cX15_backTo 68 = .ok (.aload 4, 2) := by decide +kernel
theorem dX15_backTo_70 : decode cX15_backTo 70 = .ok (.invokeinterface 142 1, 5) := by decide +kernel
theorem dX15_backTo_75 : decode cX15_backTo 75 = .ok (.ifCond .eq 44, 3) := by decide +kernel
theorem dX15_backTo_78 : decode cX15_backTo 78 = .ok (.aload 4, 2) := by decide +kernel
theorem dX15_backTo_80 : decode cX15_backTo 80 = .ok (.invokeinterface 148 1, 5) := by decide +kernel
theorem dX15_backTo_85 : decode cX15_backTo 85 = .ok (.checkcast 367, 3) := by decide +kernel
theorem dX15_backTo_88 : decode cX15_backTo 88 = .ok (.astore 5, 2) := by decide +kernel
theorem dX15_backTo_90 : decode cX15_backTo 90 = .ok (.iload_n 2, 1) := by decide +kernel
theorem dX15_backTo_91 : decode cX15_backTo 91 = .ok (.ifCond .ne 23, 3) := by decide +kernel
theorem dX15_backTo_94 : decode cX15_backTo 94 = .ok (.aload_n 0, 1) := by decide +kernel
theorem dX15_backTo_95 : decode cX15_backTo 95 = .ok (.aload 5, 2) := by decide +kernel
theorem dX15_backTo_97 : decode cX15_backTo 97 = .ok (.aload_n 0, 1) := by decide +kernel
theorem dX15_backTo_98 : decode cX15_backTo 98 = .ok (.getfield 26, 3) := by decide +kernel
theorem dX15_backTo_101 : decode cX15_backTo 101 = .ok (.getfield 263, 3) := by decide +kernel
theorem dX15_backTo_104 : decode cX15_backTo 104 = .ok (.invokevirtual 403, 3) := by decide +kernel
theorem dX15_backTo_107 : decode cX15_backTo 107 = .ok (.ifCond .eq 7, 3) := by decide +kernel
theorem dX15_backTo_110 : decode cX15_backTo 110 = .ok (.iload_n 3, 1) := by decide +kernel
theorem dX15_backTo_111 : decode cX15_backTo 111 = .ok (.goto 4, 3) := by decide +kernel
theorem dX15_backTo_114 : decode cX15_backTo 114 = .ok (.iload_n 2, 1) := by decide +kernel
theorem dX15_backTo_115 : decode cX15_backTo 115 = .ok (.istore_n 2, 1) := by decide +kernel
theorem dX15_backTo_116 : decode cX15_backTo 116 = .ok (.goto (-48), 3) := by decide +kernel
theorem dX15_backTo_119 : decode cX15_backTo 119 = .ok (.iinc 3 1, 3) := by decide +kernel
theorem dX15_backTo_122 : decode cX15_backTo 122 = .ok (.goto (-109), 3) := by decide +kernel
theorem dX15_backTo_125 : decode cX15_backTo 125 = .ok (.aload_n 0, 1) := by decide +kernel
theorem dX15_backTo_126 : decode cX15_backTo 126 = .ok (.aload_n 1, 1) := by decide +kernel
theorem dX15_backTo_127 : decode cX15_backTo 127 = .ok (.putfield 26, 3) := by decide +kernel
theorem dX15_backTo_130 : decode cX15_backTo 130 = .ok (.aload_n 0, 1) := by decide +kernel
theorem dX15_backTo_131 : decode cX15_backTo 131 = .ok (.iload_n 2, 1) := by decide +kernel
theorem dX15_backTo_132 : decode cX15_backTo 132 = .ok (.ifCond .ne 7, 3) := by decide +kernel
theorem dX15_backTo_135 : decode cX15_backTo 135 = .ok (.iconst 1, 1) := by decide +kernel
theorem dX15_backTo_136 : decode cX15_backTo 136 = .ok (.goto 4, 3) := by decide +kernel
theorem dX15_backTo_139 : decode cX15_backTo 139 = .ok (.iconst 0, 1) := by decide +kernel
theorem dX15_backTo_140 : decode cX15_backTo 140 = .ok (.iconst 1, 1) := by decide +kernel
theorem dX15_backTo_141 : decode cX15_backTo 141 = .ok (.invokevirtual 98, 3) := by decide +kernel
theorem dX15_backTo_144 : decode cX15_backTo 144 = .ok (.ifCond .eq 5, 3) := by decide +kernel
theorem dX15_backTo_147 : decode cX15_backTo 147 = .ok (.iconst (-1), 1) := by decide +kernel
theorem dX15_backTo_148 : decode cX15_backTo 148 = .ok (.ireturn, 1) := by decide +kernel
theorem dX15_backTo_149 : decode cX15_backTo 149 = .ok (.aload_n 0, 1) := by decide +kernel
theorem dX15_backTo_150 : decode cX15_backTo 150 = .ok (.iload_n 2, 1) := by decide +kernel
theorem dX15_backTo_151 : decode cX15_backTo 151 = .ok (.invokevirtual 434, 3) := by decide +kernel
theorem dX15_backTo_154 : decode cX15_backTo 154 = .ok (.iload_n 2, 1) := by decide +kernel
theorem dX15_backTo_155 : decode cX15_backTo 155 = .ok (.ireturn, 1) := by decide +kernel
theorem dX15_time_0 : decode cX15_time 0 = .ok (.aload_n 0, 1) := by decide +kernel
theorem dX15_time_1 : decode cX15_time 1 = .ok (.invokevirtual 124, 3) := by decide +kernel
theorem dX15_time_4 : decode cX15_time 4 = .ok (.aload_n 0, 1) := by decide +kernel
theorem dX15_time_5 : decode cX15_time 5 = .ok (.getfield 26, 3) := by decide +kernel
theorem dX15_time_8 : decode cX15_time 8 = .ok (.getfield 233, 3) := by decide +kernel
theorem dX15_time_11 : decode cX15_time 11 = .ok (.ireturn, 1) := by decide +kernel
theorem dX15_reason_0 : decode cX15_reason 0 = .ok (.aload_n 0, 1) := by decide +kernel
theorem dX15_reason_1 : decode cX15_reason 1 = .ok (.invokevirtual 124, 3) := by decide +kernel
theorem dX15_reason_4 : decode cX15_reason 4 = .ok (.aload_n 0, 1) := by decide +kernel
theorem dX15_reason_5 : decode cX15_reason 5 = .ok (.getfield 84, 3) := by decide +kernel
theorem dX15_reason_8 : decode cX15_reason 8 = .ok (.ireturn, 1) := by decide +kernel
theorem dX15_isTrue_0 : decode cX15_isTrue 0 = .ok (.aload_n 0, 1) := by decide +kernel
theorem dX15_isTrue_1 : decode cX15_isTrue 1 = .ok (.invokevirtual 124, 3) := by decide +kernel
theorem dX15_isTrue_4 : decode cX15_isTrue 4 = .ok (.iconst 1, 1) := by decide +kernel
theorem dX15_isTrue_5 : decode cX15_isTrue 5 = .ok (.ireturn, 1) := by decide +kernel
theorem dX15_checksum_0 : decode cX15_checksum 0 = .ok (.aload_n 0, 1) := by decide +kernel
theorem dX15_checksum_1 : decode cX15_checksum 1 = .ok (.invokevirtual 124, 3) := by decide +kernel
theorem dX15_checksum_4 : decode cX15_checksum 4 = .ok (.ldc2_w 447, 3) := by decide +kernel
theorem dX15_checksum_7 : decode cX15_checksum 7 = .ok (.lstore_n 1, 1) := by decide +kernel
theorem dX15_checksum_8 : decode cX15_checksum 8 = .ok (.aload_n 0, 1) := by decide +kernel
theorem dX15_checksum_9 : decode cX15_checksum 9 = .ok (.getfield 26, 3) := by decide +kernel
theorem dX15_checksum_12 : decode cX15_checksum 12 = .ok (.getfield 230, 3) := by decide +kernel
theorem dX15_checksum_15 : decode cX15_checksum 15 = .ok (.astore_n 3, 1) := by decide +kernel
theorem dX15_checksum_16 : decode cX15_checksum 16 = .ok (.aload_n 3, 1) := by decide +kernel
theorem dX15_checksum_17 : decode cX15_checksum 17 = .ok (.arraylength, 1) := by decide +kernel
theorem dX15_checksum_18 : decode cX15_checksum 18 = .ok (.istore 4, 2) := by decide +kernel
theorem dX15_checksum_20 : decode cX15_checksum 20 = .ok (.iconst 0, 1) := by decide +kernel
theorem dX15_checksum_21 : decode cX15_checksum 21 = .ok (.istore 5, 2) := by decide +kernel
theorem dX15_checksum_23 : decode cX15_checksum 23 = .ok (.iload 5, 2) := by decide +kernel
theorem dX15_checksum_25 : decode cX15_checksum 25 = .ok (.iload 4, 2) := by decide +kernel
theorem dX15_checksum_27 : decode cX15_checksum 27 = .ok (.if_icmp .ge 25, 3) := by decide +kernel
theorem dX15_checksum_30 : decode cX15_checksum 30 = .ok (.aload_n 3, 1) := by decide +kernel
theorem dX15_checksum_31 : decode cX15_checksum 31 = .ok (.iload 5, 2) := by decide +kernel
theorem dX15_checksum_33 : decode cX15_checksum 33 = .ok (.iaload, 1) := by decide +kernel
theorem dX15_checksum_34 : decode cX15_checksum 34 = .ok (.istore 6, 2) := by decide +kernel
theorem dX15_checksum_36 : decode cX15_checksum 36 = .ok (.ldc2_w 449, 3) := by decide +kernel
theorem dX15_checksum_39 : decode cX15_checksum 39 = .ok (.lload_n 1, 1) := by decide +kernel
theorem dX15_checksum_40 : decode cX15_checksum 40 = .ok (.lmul, 1) := by decide +kernel
theorem dX15_checksum_41 : decode cX15_checksum 41 = .ok (.iload 6, 2) := by decide +kernel
theorem dX15_checksum_43 : decode cX15_checksum 43 = .ok (.i2l, 1) := by decide +kernel
theorem dX15_checksum_44 : decode cX15_checksum 44 = .ok (.ladd, 1) := by decide +kernel
theorem dX15_checksum_45 : decode cX15_checksum 45 = .ok (.lstore_n 1, 1) := by decide +kernel
theorem dX15_checksum_46 : decode cX15_checksum 46 = .ok (.iinc 5 1, 3) := by decide +kernel
theorem dX15_checksum_49 : decode cX15_checksum 49 = .ok (.goto (-26), 3) := by decide +kernel
theorem dX15_checksum_52 : decode cX15_checksum 52 = .ok (.aload_n 0, 1) := by decide +kernel
theorem dX15_checksum_53 : decode cX15_checksum 53 = .ok (.getfield 26, 3) := by decide +kernel
theorem dX15_checksum_56 : decode cX15_checksum 56 = .ok (.getfield 91, 3) := by decide +kernel
theorem dX15_checksum_59 : decode cX15_checksum 59 = .ok (.invokeinterface 138 1, 5) := by decide +kernel
theorem dX15_checksum_64 : decode cX15_checksum 64 = .ok (.astore_n 3, 1) := by decide +kernel
theorem dX15_checksum_65 : decode cX15_checksum 65 = .ok (.aload_n 3, 1) := by decide +kernel
theorem dX15_checksum_66 : decode cX15_checksum 66 = .ok (.invokeinterface 142 1, 5) := by decide +kernel
theorem dX15_checksum_71 : decode cX15_checksum 71 = .ok (.ifCond .eq 149, 3) := by decide +kernel
theorem dX15_checksum_74 : decode cX15_checksum 74 = .ok (.aload_n 3, 1) := by decide +kernel
theorem dX15_checksum_75 : decode cX15_checksum 75 = .ok (.invokeinterface 148 1, 5) := by decide +kernel
theorem dX15_checksum_80 : decode cX15_checksum 80 = .ok (.checkcast 212, 3) := by decide +kernel
theorem dX15_checksum_83 : decode cX15_checksum 83 = .ok (.astore 4, 2) := by decide +kernel
theorem dX15_checksum_85 : decode cX15_checksum 85 = .ok (.ldc2_w 449, 3) := by decide +kernel
theorem dX15_checksum_88 : decode cX15_checksum 88 = .ok (.lload_n 1, 1) := by decide +kernel
theorem dX15_checksum_89 : decode cX15_checksum 89 = .ok (.lmul, 1) := by decide +kernel
theorem dX15_checksum_90 : decode cX15_checksum 90 = .ok (.aload 4, 2) := by decide +kernel
theorem dX15_checksum_92 : decode cX15_checksum 92 = .ok (.getfield 215, 3) := by decide +kernel
theorem dX15_checksum_95 : decode cX15_checksum 95 = .ok (.i2l, 1) := by decide +kernel
theorem dX15_checksum_96 : decode cX15_checksum 96 = .ok (.ladd, 1) := by decide +kernel
theorem dX15_checksum_97 : decode cX15_checksum 97 = .ok (.lstore_n 1, 1) := by decide +kernel
theorem dX15_checksum_98 : decode cX15_checksum 98 = .ok (.ldc2_w 449, 3) := by decide +kernel
theorem dX15_checksum_101 : decode cX15_checksum 101 = .ok (.lload_n 1, 1) := by decide +kernel
theorem dX15_checksum_102 : decode cX15_checksum 102 = .ok (.lmul, 1) := by decide +kernel
theorem dX15_checksum_103 : decode cX15_checksum 103 = .ok (.aload 4, 2) := by decide +kernel
theorem dX15_checksum_105 : decode cX15_checksum 105 = .ok (.getfield 236, 3) := by decide +kernel
theorem dX15_checksum_108 : decode cX15_checksum 108 = .ok (.i2l, 1) := by decide +kernel
theorem dX15_checksum_109 : decode cX15_checksum 109 = .ok (.ladd, 1) := by decide +kernel
theorem dX15_checksum_110 : decode cX15_checksum 110 = .ok (.lstore_n 1, 1) := by decide +kernel
theorem dX15_checksum_111 : decode cX15_checksum 111 = .ok (.ldc2_w 449, 3) := by decide +kernel
theorem dX15_checksum_114 : decode cX15_checksum 114 = .ok (.lload_n 1, 1) := by decide +kernel
theorem dX15_checksum_115 : decode cX15_checksum 115 = .ok (.lmul, 1) := by decide +kernel
theorem dX15_checksum_116 : decode cX15_checksum 116 = .ok (.aload 4, 2) := by decide +kernel
theorem dX15_checksum_118 : decode cX15_checksum 118 = .ok (.getfield 239, 3) := by decide +kernel
theorem dX15_checksum_121 : decode cX15_checksum 121 = .ok (.i2l, 1) := by decide +kernel
theorem dX15_checksum_122 : decode cX15_checksum 122 = .ok (.ladd, 1) := by decide +kernel
theorem dX15_checksum_123 : decode cX15_checksum 123 = .ok (.lstore_n 1, 1) := by decide +kernel
theorem dX15_checksum_124 : decode cX15_checksum 124 = .ok (.aload 4, 2) := by decide +kernel
theorem dX15_checksum_126 : decode cX15_checksum 126 = .ok (.getfield 227, 3) := by decide +kernel
theorem dX15_checksum_129 : decode cX15_checksum 129 = .ok (.astore 5, 2) := by decide +kernel
theorem dX15_checksum_131 : decode cX15_checksum 131 = .ok (.aload 5, 2) := by decide +kernel
theorem dX15_checksum_133 : decode cX15_checksum 133 = .ok (.arraylength, 1) := by decide +kernel
theorem dX15_checksum_134 : decode cX15_checksum 134 = .ok (.istore 6, 2) := by decide +kernel
theorem dX15_checksum_136 : decode cX15_checksum 136 = .ok (.iconst 0, 1) := by decide +kernel
theorem dX15_checksum_137 : decode cX15_checksum 137 = .ok (.istore 7, 2) := by decide +kernel
theorem dX15_checksum_139 : decode cX15_checksum 139 = .ok (.iload 7, 2) := by decide +kernel
theorem dX15_checksum_141 : decode cX15_checksum 141 = .ok (.iload 6, 2) := by decide +kernel
theorem dX15_checksum_143 : decode cX15_checksum 143 = .ok (.if_icmp .ge 26, 3) := by decide +kernel
theorem dX15_checksum_146 : decode cX15_checksum 146 = .ok (.aload 5, 2) := by decide +kernel
theorem dX15_checksum_148 : decode cX15_checksum 148 = .ok (.iload 7, 2) := by decide +kernel
theorem dX15_checksum_150 : decode cX15_checksum 150 = .ok (.iaload, 1) := by decide +kernel
theorem dX15_checksum_151 : decode cX15_checksum 151 = .ok (.istore 8, 2) := by decide +kernel
theorem dX15_checksum_153 : decode cX15_checksum 153 = .ok (.ldc2_w 449, 3) := by decide +kernel
theorem dX15_checksum_156 : decode cX15_checksum 156 = .ok (.lload_n 1, 1) := by decide +kernel
theorem dX15_checksum_157 : decode cX15_checksum 157 = .ok (.lmul, 1) := by decide +kernel
theorem dX15_checksum_158 : decode cX15_checksum 158 = .ok (.iload 8, 2) := by decide +kernel
theorem dX15_checksum_160 : decode cX15_checksum 160 = .ok (.i2l, 1) := by decide +kernel
theorem dX15_checksum_161 : decode cX15_checksum 161 = .ok (.ladd, 1) := by decide +kernel
theorem dX15_checksum_162 : decode cX15_checksum 162 = .ok (.lstore_n 1, 1) := by decide +kernel
theorem dX15_checksum_163 : decode cX15_checksum 163 = .ok (.iinc 7 1, 3) := by decide +kernel
theorem dX15_checksum_166 : decode cX15_checksum 166 = .ok (.goto (-27), 3) := by decide +kernel
theorem dX15_checksum_169 : decode cX15_checksum 169 = .ok (.iconst 0, 1) := by decide +kernel
theorem dX15_checksum_170 : decode cX15_checksum 170 = .ok (.istore 5, 2) := by decide +kernel
theorem dX15_checksum_172 : decode cX15_checksum 172 = .ok (.iload 5, 2) := by decide +kernel
theorem dX15_checksum_174 : decode cX15_checksum 174 = .ok (.aload 4, 2) := by decide +kernel
theorem dX15_checksum_176 : decode cX15_checksum 176 = .ok (.getfield 239, 3) := by decide +kernel
theorem dX15_checksum_179 : decode cX15_checksum 179 = .ok (.if_icmp .ge 25, 3) := by decide +kernel
theorem dX15_checksum_182 : decode cX15_checksum 182 = .ok (.ldc2_w 449, 3) := by decide +kernel
theorem dX15_checksum_185 : decode cX15_checksum 185 = .ok (.lload_n 1, 1) := by decide +kernel
theorem dX15_checksum_186 : decode cX15_checksum 186 = .ok (.lmul, 1) := by decide +kernel
theorem dX15_checksum_187 : decode cX15_checksum 187 = .ok (.aload 4, 2) := by decide +kernel
theorem dX15_checksum_189 : decode cX15_checksum 189 = .ok (.getfield 245, 3) := by decide +kernel
theorem dX15_checksum_192 : decode cX15_checksum 192 = .ok (.iload 5, 2) := by decide +kernel
theorem dX15_checksum_194 : decode cX15_checksum 194 = .ok (.iaload, 1) := by decide +kernel
theorem dX15_checksum_195 : decode cX15_checksum 195 = .ok (.i2l, 1) := by decide +kernel
theorem dX15_checksum_196 : decode cX15_checksum 196 = .ok (.ladd, 1) := by decide +kernel
theorem dX15_checksum_197 : decode cX15_checksum 197 = .ok (.lstore_n 1, 1) := by decide +kernel
theorem dX15_checksum_198 : decode cX15_checksum 198 = .ok (.iinc 5 1, 3) := by decide +kernel
theorem dX15_checksum_201 : decode cX15_checksum 201 = .ok (.goto (-29), 3) := by decide +kernel
theorem dX15_checksum_204 : decode cX15_checksum 204 = .ok (.ldc2_w 449, 3) := by decide +kernel
theorem dX15_checksum_207 : decode cX15_checksum 207 = .ok (.lload_n 1, 1) := by decide +kernel
theorem dX15_checksum_208 : decode cX15_checksum 208 = .ok (.lmul, 1) := by decide +kernel
theorem dX15_checksum_209 : decode cX15_checksum 209 = .ok (.aload 4, 2) := by decide +kernel
theorem dX15_checksum_211 : decode cX15_checksum 211 = .ok (.getfield 221, 3) := by decide +kernel
theorem dX15_checksum_214 : decode cX15_checksum 214 = .ok (.i2l, 1) := by decide +kernel
theorem dX15_checksum_215 : decode cX15_checksum 215 = .ok (.ladd, 1) := by decide +kernel
theorem dX15_checksum_216 : decode cX15_checksum 216 = .ok (.lstore_n 1, 1) := by decide +kernel
theorem dX15_checksum_217 : decode cX15_checksum 217 = .ok (.goto (-152), 3) := by decide +kernel
theorem dX15_checksum_220 : decode cX15_checksum 220 = .ok (.lload_n 1, 1) := by decide +kernel
theorem dX15_checksum_221 : decode cX15_checksum 221 = .ok (.lreturn, 1) := by decide +kernel
theorem dX15_doneShare_0 : decode cX15_doneShare 0 = .ok (.aload_n 0, 1) := by decide +kernel
theorem dX15_doneShare_1 : decode cX15_doneShare 1 = .ok (.invokevirtual 124, 3) := by decide +kernel
theorem dX15_doneShare_4 : decode cX15_doneShare 4 = .ok (.iconst 0, 1) := by decide +kernel
theorem dX15_doneShare_5 : decode cX15_doneShare 5 = .ok (.istore_n 1, 1) := by decide +kernel
theorem dX15_doneShare_6 : decode cX15_doneShare 6 = .ok (.aload_n 0, 1) := by decide +kernel
theorem dX15_doneShare_7 : decode cX15_doneShare 7 = .ok (.getfield 26, 3) := by decide +kernel
theorem dX15_doneShare_10 : decode cX15_doneShare 10 = .ok (.getfield 91, 3) := by decide +kernel
theorem dX15_doneShare_13 : decode cX15_doneShare 13 = .ok (.invokeinterface 138 1, 5) := by decide +kernel
theorem dX15_doneShare_18 : decode cX15_doneShare 18 = .ok (.astore_n 2, 1) := by decide +kernel
theorem dX15_doneShare_19 : decode cX15_doneShare 19 = .ok (.aload_n 2, 1) := by decide +kernel
theorem dX15_doneShare_20 : decode cX15_doneShare 20 = .ok (.invokeinterface 142 1, 5) := by decide +kernel
theorem dX15_doneShare_25 : decode cX15_doneShare 25 = .ok (.ifCond .eq 33, 3) := by decide +kernel
theorem dX15_doneShare_28 : decode cX15_doneShare 28 = .ok (.aload_n 2, 1) := by decide +kernel
theorem dX15_doneShare_29 : decode cX15_doneShare 29 = .ok (.invokeinterface 148 1, 5) := by decide +kernel
theorem dX15_doneShare_34 : decode cX15_doneShare 34 = .ok (.checkcast 212, 3) := by decide +kernel
theorem dX15_doneShare_37 : decode cX15_doneShare 37 = .ok (.astore_n 3, 1) := by decide +kernel
theorem dX15_doneShare_38 : decode cX15_doneShare 38 = .ok (.iload_n 1, 1) := by decide +kernel
theorem dX15_doneShare_39 : decode cX15_doneShare 39 = .ok (.aload_n 3, 1) := by decide +kernel
theorem dX15_doneShare_40 : decode cX15_doneShare 40 = .ok (.getfield 221, 3) := by decide +kernel
theorem dX15_doneShare_43 : decode cX15_doneShare 43 = .ok (.bipush 100, 2) := by decide +kernel
theorem dX15_doneShare_45 : decode cX15_doneShare 45 = .ok (.if_icmp .ne 7, 3) := by decide +kernel
theorem dX15_doneShare_48 : decode cX15_doneShare 48 = .ok (.iconst 1, 1) := by decide +kernel
theorem dX15_doneShare_49 : decode cX15_doneShare 49 = .ok (.goto 4, 3) := by decide +kernel
theorem dX15_doneShare_52 : decode cX15_doneShare 52 = .ok (.iconst 0, 1) := by decide +kernel
theorem dX15_doneShare_53 : decode cX15_doneShare 53 = .ok (.iadd, 1) := by decide +kernel
theorem dX15_doneShare_54 : decode cX15_doneShare 54 = .ok (.istore_n 1, 1) := by decide +kernel
theorem dX15_doneShare_55 : decode cX15_doneShare 55 = .ok (.goto (-36), 3) := by decide +kernel
theorem dX15_doneShare_58 : decode cX15_doneShare 58 = .ok (.aload_n 0, 1) := by decide +kernel
theorem dX15_doneShare_59 : decode cX15_doneShare 59 = .ok (.aload_n 0, 1) := by decide +kernel
theorem dX15_doneShare_60 : decode cX15_doneShare 60 = .ok (.getfield 26, 3) := by decide +kernel
theorem dX15_doneShare_63 : decode cX15_doneShare 63 = .ok (.getfield 91, 3) := by decide +kernel
theorem dX15_doneShare_66 : decode cX15_doneShare 66 = .ok (.invokeinterface 444 1, 5) := by decide +kernel
theorem dX15_doneShare_71 : decode cX15_doneShare 71 = .ok (.iconst 1, 1) := by decide +kernel
theorem dX15_doneShare_72 : decode cX15_doneShare 72 = .ok (.invokevirtual 98, 3) := by decide +kernel
theorem dX15_doneShare_75 : decode cX15_doneShare 75 = .ok (.ifCond .eq 7, 3) := by decide +kernel
theorem dX15_doneShare_78 : decode cX15_doneShare 78 = .ok (.fconst 0, 1) := by decide +kernel
theorem dX15_doneShare_79 : decode cX15_doneShare 79 = .ok (.goto 19, 3) := by decide +kernel
theorem dX15_doneShare_82 : decode cX15_doneShare 82 = .ok (.iload_n 1, 1) := by decide +kernel
theorem dX15_doneShare_83 : decode cX15_doneShare 83 = .ok (.i2f, 1) := by decide +kernel
theorem dX15_doneShare_84 : decode cX15_doneShare 84 = .ok (.aload_n 0, 1) := by decide +kernel
theorem dX15_doneShare_85 : decode cX15_doneShare 85 = .ok (.getfield 26, 3) := by decide +kernel
theorem dX15_doneShare_88 : decode cX15_doneShare 88 = .ok (.getfield 91, 3) := by decide +kernel
theorem dX15_doneShare_91 : decode cX15_doneShare 91 = .ok (.invokeinterface 7 1, 5) := by decide +kernel
theorem dX15_doneShare_96 : decode cX15_doneShare 96 = .ok (.i2f, 1) := by decide +kernel
theorem dX15_doneShare_97 : decode cX15_doneShare 97 = .ok (.fdiv, 1) := by decide +kernel
theorem dX15_doneShare_98 : decode cX15_doneShare 98 = .ok (.freturn, 1) := by decide +kernel
theorem dX15_meanStack_0 : decode cX15_meanStack 0 = .ok (.aload_n 0, 1) := by decide +kernel
theorem dX15_meanStack_1 : decode cX15_meanStack 1 = .ok (.invokevirtual 124, 3) := by decide +kernel
theorem dX15_meanStack_4 : decode cX15_meanStack 4 = .ok (.iconst 0, 1) := by decide +kernel
theorem dX15_meanStack_5 : decode cX15_meanStack 5 = .ok (.istore_n 1, 1) := by decide +kernel
theorem dX15_meanStack_6 : decode cX15_meanStack 6 = .ok (.aload_n 0, 1) := by decide +kernel
theorem dX15_meanStack_7 : decode cX15_meanStack 7 = .ok (.getfield 26, 3) := by decide +kernel
theorem dX15_meanStack_10 : decode cX15_meanStack 10 = .ok (.getfield 91, 3) := by decide +kernel
theorem dX15_meanStack_13 : decode cX15_meanStack 13 = .ok (.invokeinterface 138 1, 5) := by decide +kernel
theorem dX15_meanStack_18 : decode cX15_meanStack 18 = .ok (.astore_n 2, 1) := by decide +kernel
theorem dX15_meanStack_19 : decode cX15_meanStack 19 = .ok (.aload_n 2, 1) := by decide +kernel
theorem dX15_meanStack_20 : decode cX15_meanStack 20 = .ok (.invokeinterface 142 1, 5) := by decide +kernel
theorem dX15_meanStack_25 : decode cX15_meanStack 25 = .ok (.ifCond .eq 23, 3) := by decide +kernel
theorem dX15_meanStack_28 : decode cX15_meanStack 28 = .ok (.aload_n 2, 1) := by decide +kernel
theorem dX15_meanStack_29 : decode cX15_meanStack 29 = .ok (.invokeinterface 148 1, 5) := by decide +kernel
theorem dX15_meanStack_34 : decode cX15_meanStack 34 = .ok (.checkcast 212, 3) := by decide +kernel
theorem dX15_meanStack_37 : decode cX15_meanStack 37 = .ok (.astore_n 3, 1) := by decide +kernel
theorem dX15_meanStack_38 : decode cX15_meanStack 38 = .ok (.iload_n 1, 1) := by decide +kernel
theorem dX15_meanStack_39 : decode cX15_meanStack 39 = .ok (.aload_n 3, 1) := by decide +kernel
theorem dX15_meanStack_40 : decode cX15_meanStack 40 = .ok (.getfield 239, 3) := by decide +kernel
theorem dX15_meanStack_43 : decode cX15_meanStack 43 = .ok (.iadd, 1) := by decide +kernel
theorem dX15_meanStack_44 : decode cX15_meanStack 44 = .ok (.istore_n 1, 1) := by decide +kernel
theorem dX15_meanStack_45 : decode cX15_meanStack 45 = .ok (.goto (-26), 3) := by decide +kernel
theorem dX15_meanStack_48 : decode cX15_meanStack 48 = .ok (.aload_n 0, 1) := by decide +kernel
theorem dX15_meanStack_49 : decode cX15_meanStack 49 = .ok (.aload_n 0, 1) := by decide +kernel
theorem dX15_meanStack_50 : decode cX15_meanStack 50 = .ok (.getfield 26, 3) := by decide +kernel
theorem dX15_meanStack_53 : decode cX15_meanStack 53 = .ok (.getfield 91, 3) := by decide +kernel
theorem dX15_meanStack_56 : decode cX15_meanStack 56 = .ok (.invokeinterface 444 1, 5) := by decide +kernel
theorem dX15_meanStack_61 : decode cX15_meanStack 61 = .ok (.iconst 1, 1) := by decide +kernel
theorem dX15_meanStack_62 : decode cX15_meanStack 62 = .ok (.invokevirtual 98, 3) := by decide +kernel
theorem dX15_meanStack_65 : decode cX15_meanStack 65 = .ok (.ifCond .eq 7, 3) := by decide +kernel
theorem dX15_meanStack_68 : decode cX15_meanStack 68 = .ok (.dconst 0, 1) := by decide +kernel
theorem dX15_meanStack_69 : decode cX15_meanStack 69 = .ok (.goto 19, 3) := by decide +kernel
theorem dX15_meanStack_72 : decode cX15_meanStack 72 = .ok (.iload_n 1, 1) := by decide +kernel
theorem dX15_meanStack_73 : decode cX15_meanStack 73 = .ok (.i2d, 1) := by decide +kernel
theorem dX15_meanStack_74 : decode cX15_meanStack 74 = .ok (.aload_n 0, 1) := by decide +kernel
theorem dX15_meanStack_75 : decode cX15_meanStack 75 = .ok (.getfield 26, 3) := by decide +kernel
theorem dX15_meanStack_78 : decode cX15_meanStack 78 = .ok (.getfield 91, 3) := by decide +kernel
theorem dX15_meanStack_81 : decode cX15_meanStack 81 = .ok (.invokeinterface 7 1, 5) := by decide +kernel
theorem dX15_meanStack_86 : decode cX15_meanStack 86 = .ok (.i2d, 1) := by decide +kernel
theorem dX15_meanStack_87 : decode cX15_meanStack 87 = .ok (.ddiv, 1) := by decide +kernel
theorem dX15_meanStack_88 : decode cX15_meanStack 88 = .ok (.dreturn, 1) := by decide +kernel
