theorem HD_yX11_needPlace : yX11_needPlace.cls ≠ "java/lang/invoke/MethodHandle" ∧ yX11_needPlace.cls ≠ "java/lang/invoke/VarHandle" ∧ (parseMethodDescriptor yX11_needPlace.desc).map (fun d => d.parameters.length) = some 1 := by decide +kernel
theorem K888 : (Cond.code yX11_needPlace cX11_needPlace 2 none) ∈ ALL := mAC ch_t4 (i := 92) (by decide +kernel) rfl
theorem K885 : (Cond.methodLink RX11 121 yX11_needPlace) ∈ ALL := mAC ch_t4 (i := 89) (by decide +kernel) rfl
theorem K887 : (Cond.instanceMethod yX11_needPlace) ∈ ALL := mAC ch_t4 (i := 91) (by decide +kernel) rfl
theorem K3 : (Cond.selects RX11 yX11_needPlace yX11_needPlace) ∈ ALL := mAC ch_sel (i := 3) (by decide +kernel) rfl
theorem GV_RX11_121 : GoodIn ALL (wsV RX11 121 RX11 yX11_needPlace (Cond.code yX11_needPlace cX11_needPlace 2 none :: ALL)) := gV K885 K887 K3 K77 K888
theorem K522 : (Cond.fieldLink RX11 21 "Unwindlens" "names" "LUnwindlens$Names;") ∈ ALL := mAC ch_t2 (i := 206) (by decide +kernel) rfl
theorem K204 : (Cond.fieldLinkNest RX11 201 "Unwindlens$Names" "scopes" "LUnwindlens$Rows;" RX11) ∈ NGS := mNC ch_t1 (i := 128) (by decide +kernel) rfl
theorem HD_yX2_isVariable : yX2_isVariable.cls ≠ "java/lang/invoke/MethodHandle" ∧ yX2_isVariable.cls ≠ "java/lang/invoke/VarHandle" ∧ (parseMethodDescriptor yX2_isVariable.desc).map (fun d => d.parameters.length) = some 1 := by decide +kernel
theorem K1105 : (Cond.code yX2_isVariable cX2_isVariable 2 (some .boolean)) ∈ ALL := mAC ch_t5 (i := 69) (by decide +kernel) rfl
theorem K1102 : (Cond.methodLink RX11 243 yX2_isVariable) ∈ ALL := mAC ch_t5 (i := 66) (by decide +kernel) rfl
theorem K1103 : (Cond.instanceMethod yX2_isVariable) ∈ ALL := mAC ch_t5 (i := 67) (by decide +kernel) rfl
theorem K1104 : (Cond.selects RX2 yX2_isVariable yX2_isVariable) ∈ ALL := mAC ch_t5 (i := 68) (by decide +kernel) rfl
theorem K81 : (Cond.initialized RX2) ∈ ALL := mAC ch_t1 (i := 5) (by decide +kernel) rfl
theorem GV_RX11_243 : GoodIn ALL (wsV RX11 243 RX2 yX2_isVariable (Cond.code yX2_isVariable cX2_isVariable 2 (some .boolean) :: ALL)) := gV K1102 K1103 K1104 K81 K1105
theorem HD_yX11_needFunction : yX11_needFunction.cls ≠ "java/lang/invoke/MethodHandle" ∧ yX11_needFunction.cls ≠ "java/lang/invoke/VarHandle" ∧ (parseMethodDescriptor yX11_needFunction.desc).map (fun d => d.parameters.length) = some 1 := by decide +kernel
theorem K1036 : (Cond.code yX11_needFunction cX11_needFunction 2 none) ∈ ALL := mAC ch_t5 (i := 0) (by decide +kernel) rfl
theorem K1033 : (Cond.methodLink RX11 192 yX11_needFunction) ∈ ALL := mAC ch_t4 (i := 237) (by decide +kernel) rfl
theorem K1035 : (Cond.instanceMethod yX11_needFunction) ∈ ALL := mAC ch_t4 (i := 239) (by decide +kernel) rfl
theorem K8 : (Cond.selects RX11 yX11_needFunction yX11_needFunction) ∈ ALL := mAC ch_sel (i := 8) (by decide +kernel) rfl
theorem GV_RX11_192 : GoodIn ALL (wsV RX11 192 RX11 yX11_needFunction (Cond.code yX11_needFunction cX11_needFunction 2 none :: ALL)) := gV K1033 K1035 K8 K77 K1036
theorem HD_yX11_needWord : yX11_needWord.cls ≠ "java/lang/invoke/MethodHandle" ∧ yX11_needWord.cls ≠ "java/lang/invoke/VarHandle" ∧ (parseMethodDescriptor yX11_needWord.desc).map (fun d => d.parameters.length) = some 4 := by decide +kernel
theorem K1328 : (Cond.code yX11_needWord cX11_needWord 6 none) ∈ ALL := mAC ch_t6 (i := 52) (by decide +kernel) rfl
theorem K1325 : (Cond.methodLink RX11 347 yX11_needWord) ∈ ALL := mAC ch_t6 (i := 49) (by decide +kernel) rfl
theorem K1327 : (Cond.instanceMethod yX11_needWord) ∈ ALL := mAC ch_t6 (i := 51) (by decide +kernel) rfl
theorem K18 : (Cond.selects RX11 yX11_needWord yX11_needWord) ∈ ALL := mAC ch_sel (i := 18) (by decide +kernel) rfl
theorem GV_RX11_347 : GoodIn ALL (wsV RX11 347 RX11 yX11_needWord (Cond.code yX11_needWord cX11_needWord 6 none :: ALL)) := gV K1325 K1327 K18 K77 K1328
theorem HD_yX11_needBreakpoint : yX11_needBreakpoint.cls ≠ "java/lang/invoke/MethodHandle" ∧ yX11_needBreakpoint.cls ≠ "java/lang/invoke/VarHandle" ∧ (parseMethodDescriptor yX11_needBreakpoint.desc).map (fun d => d.parameters.length) = some 1 := by decide +kernel
theorem K1721 : (Cond.code yX11_needBreakpoint cX11_needBreakpoint 2 none) ∈ ALL := mAC ch_t7 (i := 205) (by decide +kernel) rfl
theorem K1718 : (Cond.methodLink RX11 392 yX11_needBreakpoint) ∈ ALL := mAC ch_t7 (i := 202) (by decide +kernel) rfl
theorem K1720 : (Cond.instanceMethod yX11_needBreakpoint) ∈ ALL := mAC ch_t7 (i := 204) (by decide +kernel) rfl
theorem K23 : (Cond.selects RX11 yX11_needBreakpoint yX11_needBreakpoint) ∈ ALL := mAC ch_sel (i := 23) (by decide +kernel) rfl
theorem GV_RX11_392 : GoodIn ALL (wsV RX11 392 RX11 yX11_needBreakpoint (Cond.code yX11_needBreakpoint cX11_needBreakpoint 2 none :: ALL)) := gV K1718 K1720 K23 K77 K1721
theorem dX11_patch_0 : decode cX11_patch 0 = .ok (.aload_n 0, 1) := by decide +kernel
theorem dX11_patch_1 : decode cX11_patch 1 = .ok (.iload_n 1, 1) := by decide +kernel
theorem dX11_patch_2 : decode cX11_patch 2 = .ok (.invokevirtual 121, 3) := by decide +kernel
theorem dX11_patch_5 : decode cX11_patch 5 = .ok (.iload_n 2, 1) := by decide +kernel
theorem dX11_patch_6 : decode cX11_patch 6 = .ok (.iload_n 3, 1) := by decide +kernel
theorem dX11_patch_7 : decode cX11_patch 7 = .ok (.iload 4, 2) := by decide +kernel
theorem dX11_patch_9 : decode cX11_patch 9 = .ok (.invokestatic 98, 3) := by decide +kernel
theorem dX11_patch_12 : decode cX11_patch 12 = .ok (.aload_n 0, 1) := by decide +kernel
theorem dX11_patch_13 : decode cX11_patch 13 = .ok (.getfield 10, 3) := by decide +kernel
theorem dX11_patch_16 : decode cX11_patch 16 = .ok (.iload_n 1, 1) := by decide +kernel
theorem dX11_patch_17 : decode cX11_patch 17 = .ok (.invokevirtual 125, 3) := by decide +kernel
theorem dX11_patch_20 : decode cX11_patch 20 = .ok (.istore 5, 2) := by decide +kernel
theorem dX11_patch_22 : decode cX11_patch 22 = .ok (.aload_n 0, 1) := by decide +kernel
theorem dX11_patch_23 : decode cX11_patch 23 = .ok (.getfield 10, 3) := by decide +kernel
theorem dX11_patch_26 : decode cX11_patch 26 = .ok (.iload_n 1, 1) := by decide +kernel
theorem dX11_patch_27 : decode cX11_patch 27 = .ok (.iload_n 2, 1) := by decide +kernel
theorem dX11_patch_28 : decode cX11_patch 28 = .ok (.iload_n 3, 1) := by decide +kernel
theorem dX11_patch_29 : decode cX11_patch 29 = .ok (.iload 4, 2) := by decide +kernel
theorem dX11_patch_31 : decode cX11_patch 31 = .ok (.invokevirtual 129, 3) := by decide +kernel
theorem dX11_patch_34 : decode cX11_patch 34 = .ok (.aload_n 0, 1) := by decide +kernel
theorem dX11_patch_35 : decode cX11_patch 35 = .ok (.invokevirtual 133, 3) := by decide +kernel
theorem dX11_patch_38 : decode cX11_patch 38 = .ok (.iload 5, 2) := by decide +kernel
theorem dX11_patch_40 : decode cX11_patch 40 = .ok (.ireturn, 1) := by decide +kernel
theorem dX11_function_0 : decode cX11_function 0 = .ok (.aload_n 0, 1) := by decide +kernel
theorem dX11_function_1 : decode cX11_function 1 = .ok (.iload_n 1, 1) := by decide +kernel
theorem dX11_function_2 : decode cX11_function 2 = .ok (.invokevirtual 121, 3) := by decide +kernel
theorem dX11_function_5 : decode cX11_function 5 = .ok (.aload_n 0, 1) := by decide +kernel
theorem dX11_function_6 : decode cX11_function 6 = .ok (.iload_n 2, 1) := by decide +kernel
theorem dX11_function_7 : decode cX11_function 7 = .ok (.invokevirtual 121, 3) := by decide +kernel
theorem dX11_function_10 : decode cX11_function 10 = .ok (.iload_n 1, 1) := by decide +kernel
theorem dX11_function_11 : decode cX11_function 11 = .ok (.iload_n 2, 1) := by decide +kernel
theorem dX11_function_12 : decode cX11_function 12 = .ok (.invokestatic 136, 3) := by decide +kernel
theorem dX11_function_15 : decode cX11_function 15 = .ok (.aload_n 0, 1) := by decide +kernel
theorem dX11_function_16 : decode cX11_function 16 = .ok (.getfield 10, 3) := by decide +kernel
theorem dX11_function_19 : decode cX11_function 19 = .ok (.getfield 140, 3) := by decide +kernel
theorem dX11_function_22 : decode cX11_function 22 = .ok (.iload_n 1, 1) := by decide +kernel
theorem dX11_function_23 : decode cX11_function 23 = .ok (.iload_n 2, 1) := by decide +kernel
theorem dX11_function_24 : decode cX11_function 24 = .ok (.invokevirtual 144, 3) := by decide +kernel
theorem dX11_function_27 : decode cX11_function 27 = .ok (.ifCond .ne 18, 3) := by decide +kernel
theorem dX11_function_30 : decode cX11_function 30 = .ok (.aload_n 0, 1) := by decide +kernel
theorem dX11_function_31 : decode cX11_function 31 = .ok (.getfield 10, 3) := by decide +kernel
theorem dX11_function_34 : decode cX11_function 34 = .ok (.getfield 150, 3) := by decide +kernel
theorem dX11_function_37 : decode cX11_function 37 = .ok (.iload_n 1, 1) := by decide +kernel
theorem dX11_function_38 : decode cX11_function 38 = .ok (.iload_n 2, 1) := by decide +kernel
theorem dX11_function_39 : decode cX11_function 39 = .ok (.invokevirtual 153, 3) := by decide +kernel
theorem dX11_function_42 : decode cX11_function 42 = .ok (.ifCond .eq 13, 3) := by decide +kernel
theorem dX11_function_45 : decode cX11_function 45 = .ok (.new 156, 3) := by decide +kernel
theorem dX11_function_48 : decode cX11_function 48 = .ok (.dup, 1) := by decide +kernel
theorem dX11_function_49 : decode cX11_function 49 = .ok (.ldc 158, 2) := by decide +kernel
theorem dX11_function_51 : decode cX11_function 51 = .ok (.invokespecial 160, 3) := by decide +kernel
theorem dX11_function_54 : decode cX11_function 54 = .ok (.athrow, 1) := by decide +kernel
theorem dX11_function_55 : decode cX11_function 55 = .ok (.aload_n 0, 1) := by decide +kernel
theorem dX11_function_56 : decode cX11_function 56 = .ok (.getfield 10, 3) := by decide +kernel
theorem dX11_function_59 : decode cX11_function 59 = .ok (.getfield 140, 3) := by decide +kernel
theorem dX11_function_62 : decode cX11_function 62 = .ok (.invokevirtual 161, 3) := by decide +kernel
theorem dX11_function_65 : decode cX11_function 65 = .ok (.ifCond .eq 13, 3) := by decide +kernel
theorem dX11_function_68 : decode cX11_function 68 = .ok (.new 106, 3) := by decide +kernel
theorem dX11_function_71 : decode cX11_function 71 = .ok (.dup, 1) := by decide +kernel
theorem dX11_function_72 : decode cX11_function 72 = .ok (.ldc 162, 2) := by decide +kernel
theorem dX11_function_74 : decode cX11_function 74 = .ok (.invokespecial 110, 3) := by decide +kernel
theorem dX11_function_77 : decode cX11_function 77 = .ok (.athrow, 1) := by decide +kernel
theorem dX11_function_78 : decode cX11_function 78 = .ok (.aload_n 0, 1) := by decide +kernel
theorem dX11_function_79 : decode cX11_function 79 = .ok (.getfield 10, 3) := by decide +kernel
theorem dX11_function_82 : decode cX11_function 82 = .ok (.getfield 140, 3) := by decide +kernel
theorem dX11_function_85 : decode cX11_function 85 = .ok (.iload_n 1, 1) := by decide +kernel
theorem dX11_function_86 : decode cX11_function 86 = .ok (.iload_n 2, 1) := by decide +kernel
theorem dX11_function_87 : decode cX11_function 87 = .ok (.invokevirtual 164, 3) := by decide +kernel
theorem dX11_function_90 : decode cX11_function 90 = .ok (.istore_n 3, 1) := by decide +kernel
theorem dX11_function_91 : decode cX11_function 91 = .ok (.aload_n 0, 1) := by decide +kernel
theorem dX11_function_92 : decode cX11_function 92 = .ok (.getfield 54, 3) := by decide +kernel
theorem dX11_function_95 : decode cX11_function 95 = .ok (.aload_n 0, 1) := by decide +kernel
theorem dX11_function_96 : decode cX11_function 96 = .ok (.getfield 44, 3) := by decide +kernel
theorem dX11_function_99 : decode cX11_function 99 = .ok (.invokevirtual 117, 3) := by decide +kernel
theorem dX11_function_102 : decode cX11_function 102 = .ok (.iload_n 3, 1) := by decide +kernel
theorem dX11_function_103 : decode cX11_function 103 = .ok (.ireturn, 1) := by decide +kernel
theorem dX11_line_0 : decode cX11_line 0 = .ok (.aload_n 0, 1) := by decide +kernel
theorem dX11_line_1 : decode cX11_line 1 = .ok (.iload_n 1, 1) := by decide +kernel
theorem dX11_line_2 : decode cX11_line 2 = .ok (.invokevirtual 121, 3) := by decide +kernel
theorem dX11_line_5 : decode cX11_line 5 = .ok (.iload_n 2, 1) := by decide +kernel
theorem dX11_line_6 : decode cX11_line 6 = .ok (.iconst (-1), 1) := by decide +kernel
theorem dX11_line_7 : decode cX11_line 7 = .ok (.if_icmp .eq 22, 3) := by decide +kernel
theorem dX11_line_10 : decode cX11_line 10 = .ok (.iload_n 2, 1) := by decide +kernel
theorem dX11_line_11 : decode cX11_line 11 = .ok (.bipush 100, 2) := by decide +kernel
theorem dX11_line_13 : decode cX11_line 13 = .ok (.invokestatic 168, 3) := by decide +kernel
theorem dX11_line_16 : decode cX11_line 16 = .ok (.ifCond .ne 13, 3) := by decide +kernel
theorem dX11_line_19 : decode cX11_line 19 = .ok (.new 171, 3) := by decide +kernel
theorem dX11_line_22 : decode cX11_line 22 = .ok (.dup, 1) := by decide +kernel
theorem dX11_line_23 : decode cX11_line 23 = .ok (.ldc 173, 2) := by decide +kernel
theorem dX11_line_25 : decode cX11_line 25 = .ok (.invokespecial 175, 3) := by decide +kernel
theorem dX11_line_28 : decode cX11_line 28 = .ok (.athrow, 1) := by decide +kernel
theorem dX11_line_29 : decode cX11_line 29 = .ok (.aload_n 0, 1) := by decide +kernel
theorem dX11_line_30 : decode cX11_line 30 = .ok (.getfield 10, 3) := by decide +kernel
theorem dX11_line_33 : decode cX11_line 33 = .ok (.iload_n 1, 1) := by decide +kernel
theorem dX11_line_34 : decode cX11_line 34 = .ok (.invokevirtual 176, 3) := by decide +kernel
theorem dX11_line_37 : decode cX11_line 37 = .ok (.istore_n 3, 1) := by decide +kernel
theorem dX11_line_38 : decode cX11_line 38 = .ok (.aload_n 0, 1) := by decide +kernel
theorem dX11_line_39 : decode cX11_line 39 = .ok (.getfield 10, 3) := by decide +kernel
theorem dX11_line_42 : decode cX11_line 42 = .ok (.iload_n 1, 1) := by decide +kernel
theorem dX11_line_43 : decode cX11_line 43 = .ok (.iload_n 2, 1) := by decide +kernel
theorem dX11_line_44 : decode cX11_line 44 = .ok (.invokevirtual 180, 3) := by decide +kernel
theorem dX11_line_47 : decode cX11_line 47 = .ok (.iload_n 3, 1) := by decide +kernel
theorem dX11_line_48 : decode cX11_line 48 = .ok (.ireturn, 1) := by decide +kernel
theorem dX11_rule_0 : decode cX11_rule 0 = .ok (.aload_n 0, 1) := by decide +kernel
theorem dX11_rule_1 : decode cX11_rule 1 = .ok (.iload_n 1, 1) := by decide +kernel
theorem dX11_rule_2 : decode cX11_rule 2 = .ok (.invokevirtual 121, 3) := by decide +kernel
theorem dX11_rule_5 : decode cX11_rule 5 = .ok (.iload_n 2, 1) := by decide +kernel
theorem dX11_rule_6 : decode cX11_rule 6 = .ok (.bipush 105, 2) := by decide +kernel
theorem dX11_rule_8 : decode cX11_rule 8 = .ok (.if_icmp .eq 25, 3) := by decide +kernel
theorem dX11_rule_11 : decode cX11_rule 11 = .ok (.iload_n 2, 1) := by decide +kernel
theorem dX11_rule_12 : decode cX11_rule 12 = .ok (.bipush 111, 2) := by decide +kernel
theorem dX11_rule_14 : decode cX11_rule 14 = .ok (.if_icmp .eq 19, 3) := by decide +kernel
theorem dX11_rule_17 : decode cX11_rule 17 = .ok (.iload_n 2, 1) := by decide +kernel
theorem dX11_rule_18 : decode cX11_rule 18 = .ok (.bipush 45, 2) := by decide +kernel
theorem dX11_rule_20 : decode cX11_rule 20 = .ok (.if_icmp .eq 13, 3) := by decide +kernel
theorem dX11_rule_23 : decode cX11_rule 23 = .ok (.new 171, 3) := by decide +kernel
theorem dX11_rule_26 : decode cX11_rule 26 = .ok (.dup, 1) := by decide +kernel
theorem dX11_rule_27 : decode cX11_rule 27 = .ok (.ldc 183, 2) := by decide +kernel
theorem dX11_rule_29 : decode cX11_rule 29 = .ok (.invokespecial 175, 3) := by decide +kernel
theorem dX11_rule_32 : decode cX11_rule 32 = .ok (.athrow, 1) := by decide +kernel
theorem dX11_rule_33 : decode cX11_rule 33 = .ok (.aload_n 0, 1) := by decide +kernel
theorem dX11_rule_34 : decode cX11_rule 34 = .ok (.getfield 10, 3) := by decide +kernel
theorem dX11_rule_37 : decode cX11_rule 37 = .ok (.iload_n 1, 1) := by decide +kernel
theorem dX11_rule_38 : decode cX11_rule 38 = .ok (.invokevirtual 185, 3) := by decide +kernel
theorem dX11_rule_41 : decode cX11_rule 41 = .ok (.istore_n 3, 1) := by decide +kernel
theorem dX11_rule_42 : decode cX11_rule 42 = .ok (.aload_n 0, 1) := by decide +kernel
theorem dX11_rule_43 : decode cX11_rule 43 = .ok (.getfield 10, 3) := by decide +kernel
theorem dX11_rule_46 : decode cX11_rule 46 = .ok (.iload_n 1, 1) := by decide +kernel
theorem dX11_rule_47 : decode cX11_rule 47 = .ok (.iload_n 2, 1) := by decide +kernel
theorem dX11_rule_48 : decode cX11_rule 48 = .ok (.invokevirtual 188, 3) := by decide +kernel
theorem dX11_rule_51 : decode cX11_rule 51 = .ok (.iload_n 3, 1) := by decide +kernel
theorem dX11_rule_52 : decode cX11_rule 52 = .ok (.ireturn, 1) := by decide +kernel
theorem dX11_inlined_0 : decode cX11_inlined 0 = .ok (.aload_n 0, 1) := by decide +kernel
theorem dX11_inlined_1 : decode cX11_inlined 1 = .ok (.iload_n 1, 1) := by decide +kernel
theorem dX11_inlined_2 : decode cX11_inlined 2 = .ok (.invokevirtual 121, 3) := by decide +kernel
theorem dX11_inlined_5 : decode cX11_inlined 5 = .ok (.aload_n 0, 1) := by decide +kernel
theorem dX11_inlined_6 : decode cX11_inlined 6 = .ok (.iload_n 2, 1) := by decide +kernel
theorem dX11_inlined_7 : decode cX11_inlined 7 = .ok (.invokevirtual 121, 3) := by decide +kernel
theorem dX11_inlined_10 : decode cX11_inlined 10 = .ok (.aload_n 0, 1) := by decide +kernel
theorem dX11_inlined_11 : decode cX11_inlined 11 = .ok (.iload_n 3, 1) := by decide +kernel
theorem dX11_inlined_12 : decode cX11_inlined 12 = .ok (.invokevirtual 192, 3) := by decide +kernel
theorem dX11_inlined_15 : decode cX11_inlined 15 = .ok (.iload_n 1, 1) := by decide +kernel
theorem dX11_inlined_16 : decode cX11_inlined 16 = .ok (.iload_n 2, 1) := by decide +kernel
theorem dX11_inlined_17 : decode cX11_inlined 17 = .ok (.invokestatic 136, 3) := by decide +kernel
theorem dX11_inlined_20 : decode cX11_inlined 20 = .ok (.iload 4, 2) := by decide +kernel
theorem dX11_inlined_22 : decode cX11_inlined 22 = .ok (.bipush 100, 2) := by decide +kernel
theorem dX11_inlined_24 : decode cX11_inlined 24 = .ok (.invokestatic 168, 3) := by decide +kernel
theorem dX11_inlined_27 : decode cX11_inlined 27 = .ok (.ifCond .ne 13, 3) := by decide +kernel
theorem dX11_inlined_30 : decode cX11_inlined 30 = .ok (.new 171, 3) := by decide +kernel
theorem dX11_inlined_33 : decode cX11_inlined 33 = .ok (.dup, 1) := by decide +kernel
theorem dX11_inlined_34 : decode cX11_inlined 34 = .ok (.ldc 173, 2) := by decide +kernel
theorem dX11_inlined_36 : decode cX11_inlined 36 = .ok (.invokespecial 175, 3) := by decide +kernel
theorem dX11_inlined_39 : decode cX11_inlined 39 = .ok (.athrow, 1) := by decide +kernel
theorem dX11_inlined_40 : decode cX11_inlined 40 = .ok (.aload_n 0, 1) := by decide +kernel
theorem dX11_inlined_41 : decode cX11_inlined 41 = .ok (.getfield 10, 3) := by decide +kernel
theorem dX11_inlined_44 : decode cX11_inlined 44 = .ok (.getfield 140, 3) := by decide +kernel
theorem dX11_inlined_47 : decode cX11_inlined 47 = .ok (.iload_n 1, 1) := by decide +kernel
theorem dX11_inlined_48 : decode cX11_inlined 48 = .ok (.iload_n 2, 1) := by decide +kernel
theorem dX11_inlined_49 : decode cX11_inlined 49 = .ok (.invokevirtual 195, 3) := by decide +kernel
theorem dX11_inlined_52 : decode cX11_inlined 52 = .ok (.ifCond .ne 48, 3) := by decide +kernel
theorem dX11_inlined_55 : decode cX11_inlined 55 = .ok (.aload_n 0, 1) := by decide +kernel
theorem dX11_inlined_56 : decode cX11_inlined 56 = .ok (.getfield 10, 3) := by decide +kernel
theorem dX11_inlined_59 : decode cX11_inlined 59 = .ok (.getfield 150, 3) := by decide +kernel
theorem dX11_inlined_62 : decode cX11_inlined 62 = .ok (.iload_n 1, 1) := by decide +kernel
theorem dX11_inlined_63 : decode cX11_inlined 63 = .ok (.iload_n 2, 1) := by decide +kernel
theorem dX11_inlined_64 : decode cX11_inlined 64 = .ok (.invokevirtual 198, 3) := by decide +kernel
theorem dX11_inlined_67 : decode cX11_inlined 67 = .ok (.ifCond .ne 33, 3) := by decide +kernel
theorem dX11_inlined_70 : decode cX11_inlined 70 = .ok (.aload_n 0, 1) := by decide +kernel
theorem dX11_inlined_71 : decode cX11_inlined 71 = .ok (.getfield 21, 3) := by decide +kernel
theorem dX11_inlined_74 : decode cX11_inlined 74 = .ok (.getfield 201, 3) := by decide +kernel
theorem dX11_inlined_77 : decode cX11_inlined 77 = .ok (.iload_n 1, 1) := by decide +kernel
theorem dX11_inlined_78 : decode cX11_inlined 78 = .ok (.iload_n 2, 1) := by decide +kernel
theorem dX11_inlined_79 : decode cX11_inlined 79 = .ok (.invokevirtual 198, 3) := by decide +kernel
theorem dX11_inlined_82 : decode cX11_inlined 82 = .ok (.ifCond .ne 18, 3) := by decide +kernel
theorem dX11_inlined_85 : decode cX11_inlined 85 = .ok (.aload_n 0, 1) := by decide +kernel
theorem dX11_inlined_86 : decode cX11_inlined 86 = .ok (.getfield 10, 3) := by decide +kernel
theorem dX11_inlined_89 : decode cX11_inlined 89 = .ok (.getfield 150, 3) := by decide +kernel
theorem dX11_inlined_92 : decode cX11_inlined 92 = .ok (.iload_n 1, 1) := by decide +kernel
theorem dX11_inlined_93 : decode cX11_inlined 93 = .ok (.iload_n 2, 1) := by decide +kernel
theorem dX11_inlined_94 : decode cX11_inlined 94 = .ok (.invokevirtual 204, 3) := by decide +kernel
theorem dX11_inlined_97 : decode cX11_inlined 97 = .ok (.ifCond .eq 13, 3) := by decide +kernel
theorem dX11_inlined_100 : decode cX11_inlined 100 = .ok (.new 156, 3) := by decide +kernel
theorem dX11_inlined_103 : decode cX11_inlined 103 = .ok (.dup, 1) := by decide +kernel
theorem dX11_inlined_104 : decode cX11_inlined 104 = .ok (.ldc 207, 2) := by decide +kernel
theorem dX11_inlined_106 : decode cX11_inlined 106 = .ok (.invokespecial 160, 3) := by decide +kernel
theorem dX11_inlined_109 : decode cX11_inlined 109 = .ok (.athrow, 1) := by decide +kernel
theorem dX11_inlined_110 : decode cX11_inlined 110 = .ok (.aload_n 0, 1) := by decide +kernel
theorem dX11_inlined_111 : decode cX11_inlined 111 = .ok (.getfield 10, 3) := by decide +kernel
theorem dX11_inlined_114 : decode cX11_inlined 114 = .ok (.getfield 150, 3) := by decide +kernel
theorem dX11_inlined_117 : decode cX11_inlined 117 = .ok (.invokevirtual 161, 3) := by decide +kernel
theorem dX11_inlined_120 : decode cX11_inlined 120 = .ok (.ifCond .eq 13, 3) := by decide +kernel
theorem dX11_inlined_123 : decode cX11_inlined 123 = .ok (.new 106, 3) := by decide +kernel
theorem dX11_inlined_126 : decode cX11_inlined 126 = .ok (.dup, 1) := by decide +kernel
theorem dX11_inlined_127 : decode cX11_inlined 127 = .ok (.ldc 209, 2) := by decide +kernel
theorem dX11_inlined_129 : decode cX11_inlined 129 = .ok (.invokespecial 110, 3) := by decide +kernel
theorem dX11_inlined_132 : decode cX11_inlined 132 = .ok (.athrow, 1) := by decide +kernel
theorem dX11_inlined_133 : decode cX11_inlined 133 = .ok (.aload_n 0, 1) := by decide +kernel
theorem dX11_inlined_134 : decode cX11_inlined 134 = .ok (.getfield 10, 3) := by decide +kernel
theorem dX11_inlined_137 : decode cX11_inlined 137 = .ok (.iload_n 1, 1) := by decide +kernel
theorem dX11_inlined_138 : decode cX11_inlined 138 = .ok (.iload_n 2, 1) := by decide +kernel
theorem dX11_inlined_139 : decode cX11_inlined 139 = .ok (.iload_n 3, 1) := by decide +kernel
theorem dX11_inlined_140 : decode cX11_inlined 140 = .ok (.iload 4, 2) := by decide +kernel
theorem dX11_inlined_142 : decode cX11_inlined 142 = .ok (.invokevirtual 211, 3) := by decide +kernel
theorem dX11_inlined_145 : decode cX11_inlined 145 = .ok (.ireturn, 1) := by decide +kernel
theorem dX11_scope_0 : decode cX11_scope 0 = .ok (.aload_n 0, 1) := by decide +kernel
theorem dX11_scope_1 : decode cX11_scope 1 = .ok (.iload_n 1, 1) := by decide +kernel
theorem dX11_scope_2 : decode cX11_scope 2 = .ok (.invokevirtual 121, 3) := by decide +kernel
theorem dX11_scope_5 : decode cX11_scope 5 = .ok (.aload_n 0, 1) := by decide +kernel
theorem dX11_scope_6 : decode cX11_scope 6 = .ok (.iload_n 2, 1) := by decide +kernel
theorem dX11_scope_7 : decode cX11_scope 7 = .ok (.invokevirtual 121, 3) := by decide +kernel
theorem dX11_scope_10 : decode cX11_scope 10 = .ok (.iload_n 1, 1) := by decide +kernel
theorem dX11_scope_11 : decode cX11_scope 11 = .ok (.iload_n 2, 1) := by decide +kernel
theorem dX11_scope_12 : decode cX11_scope 12 = .ok (.invokestatic 136, 3) := by decide +kernel
theorem dX11_scope_15 : decode cX11_scope 15 = .ok (.aload_n 0, 1) := by decide +kernel
theorem dX11_scope_16 : decode cX11_scope 16 = .ok (.getfield 21, 3) := by decide +kernel
theorem dX11_scope_19 : decode cX11_scope 19 = .ok (.getfield 201, 3) := by decide +kernel
theorem dX11_scope_22 : decode cX11_scope 22 = .ok (.iload_n 1, 1) := by decide +kernel
theorem dX11_scope_23 : decode cX11_scope 23 = .ok (.iload_n 2, 1) := by decide +kernel
theorem dX11_scope_24 : decode cX11_scope 24 = .ok (.invokevirtual 198, 3) := by decide +kernel
theorem dX11_scope_27 : decode cX11_scope 27 = .ok (.ifCond .ne 18, 3) := by decide +kernel
theorem dX11_scope_30 : decode cX11_scope 30 = .ok (.aload_n 0, 1) := by decide +kernel
theorem dX11_scope_31 : decode cX11_scope 31 = .ok (.getfield 10, 3) := by decide +kernel
theorem dX11_scope_34 : decode cX11_scope 34 = .ok (.getfield 150, 3) := by decide +kernel
theorem dX11_scope_37 : decode cX11_scope 37 = .ok (.iload_n 1, 1) := by decide +kernel
theorem dX11_scope_38 : decode cX11_scope 38 = .ok (.iload_n 2, 1) := by decide +kernel
theorem dX11_scope_39 : decode cX11_scope 39 = .ok (.invokevirtual 198, 3) := by decide +kernel
theorem dX11_scope_42 : decode cX11_scope 42 = .ok (.ifCond .eq 13, 3) := by decide +kernel
theorem dX11_scope_45 : decode cX11_scope 45 = .ok (.new 156, 3) := by decide +kernel
theorem dX11_scope_48 : decode cX11_scope 48 = .ok (.dup, 1) := by decide +kernel
theorem dX11_scope_49 : decode cX11_scope 49 = .ok (.ldc 215, 2) := by decide +kernel
theorem dX11_scope_51 : decode cX11_scope 51 = .ok (.invokespecial 160, 3) := by decide +kernel
theorem dX11_scope_54 : decode cX11_scope 54 = .ok (.athrow, 1) := by decide +kernel
theorem dX11_scope_55 : decode cX11_scope 55 = .ok (.aload_n 0, 1) := by decide +kernel
theorem dX11_scope_56 : decode cX11_scope 56 = .ok (.getfield 21, 3) := by decide +kernel
theorem dX11_scope_59 : decode cX11_scope 59 = .ok (.getfield 201, 3) := by decide +kernel
theorem dX11_scope_62 : decode cX11_scope 62 = .ok (.invokevirtual 161, 3) := by decide +kernel
theorem dX11_scope_65 : decode cX11_scope 65 = .ok (.ifCond .eq 13, 3) := by decide +kernel
theorem dX11_scope_68 : decode cX11_scope 68 = .ok (.new 106, 3) := by decide +kernel
theorem dX11_scope_71 : decode cX11_scope 71 = .ok (.dup, 1) := by decide +kernel
theorem dX11_scope_72 : decode cX11_scope 72 = .ok (.ldc 217, 2) := by decide +kernel
theorem dX11_scope_74 : decode cX11_scope 74 = .ok (.invokespecial 110, 3) := by decide +kernel
theorem dX11_scope_77 : decode cX11_scope 77 = .ok (.athrow, 1) := by decide +kernel
theorem dX11_scope_78 : decode cX11_scope 78 = .ok (.aload_n 0, 1) := by decide +kernel
theorem dX11_scope_79 : decode cX11_scope 79 = .ok (.getfield 21, 3) := by decide +kernel
theorem dX11_scope_82 : decode cX11_scope 82 = .ok (.getfield 201, 3) := by decide +kernel
theorem dX11_scope_85 : decode cX11_scope 85 = .ok (.iload_n 1, 1) := by decide +kernel
theorem dX11_scope_86 : decode cX11_scope 86 = .ok (.iload_n 2, 1) := by decide +kernel
theorem dX11_scope_87 : decode cX11_scope 87 = .ok (.invokevirtual 164, 3) := by decide +kernel
theorem dX11_scope_90 : decode cX11_scope 90 = .ok (.ireturn, 1) := by decide +kernel
theorem dX11_variable_0 : decode cX11_variable 0 = .ok (.aload_n 0, 1) := by decide +kernel
theorem dX11_variable_1 : decode cX11_variable 1 = .ok (.getfield 21, 3) := by decide +kernel
theorem dX11_variable_4 : decode cX11_variable 4 = .ok (.getfield 201, 3) := by decide +kernel
theorem dX11_variable_7 : decode cX11_variable 7 = .ok (.iload_n 1, 1) := by decide +kernel
theorem dX11_variable_8 : decode cX11_variable 8 = .ok (.invokevirtual 219, 3) := by decide +kernel
theorem dX11_variable_11 : decode cX11_variable 11 = .ok (.ifCond .ne 13, 3) := by decide +kernel
theorem dX11_variable_14 : decode cX11_variable 14 = .ok (.new 223, 3) := by decide +kernel
theorem dX11_variable_17 : decode cX11_variable 17 = .ok (.dup, 1) := by decide +kernel
theorem dX11_variable_18 : decode cX11_variable 18 = .ok (.ldc 225, 2) := by decide +kernel
theorem dX11_variable_20 : decode cX11_variable 20 = .ok (.invokespecial 227, 3) := by decide +kernel
theorem dX11_variable_23 : decode cX11_variable 23 = .ok (.athrow, 1) := by decide +kernel
theorem dX11_variable_24 : decode cX11_variable 24 = .ok (.iload_n 2, 1) := by decide +kernel
theorem dX11_variable_25 : decode cX11_variable 25 = .ok (.invokestatic 228, 3) := by decide +kernel
theorem dX11_variable_28 : decode cX11_variable 28 = .ok (.iload_n 3, 1) := by decide +kernel
theorem dX11_variable_29 : decode cX11_variable 29 = .ok (.bipush 105, 2) := by decide +kernel
theorem dX11_variable_31 : decode cX11_variable 31 = .ok (.if_icmp .eq 25, 3) := by decide +kernel
theorem dX11_variable_34 : decode cX11_variable 34 = .ok (.iload_n 3, 1) := by decide +kernel
theorem dX11_variable_35 : decode cX11_variable 35 = .ok (.bipush 98, 2) := by decide +kernel
theorem dX11_variable_37 : decode cX11_variable 37 = .ok (.if_icmp .eq 19, 3) := by decide +kernel
theorem dX11_variable_40 : decode cX11_variable 40 = .ok (.iload_n 3, 1) := by decide +kernel
theorem dX11_variable_41 : decode cX11_variable 41 = .ok (.bipush 99, 2) := by decide +kernel
theorem dX11_variable_43 : decode cX11_variable 43 = .ok (.if_icmp .eq 13, 3) := by decide +kernel
theorem dX11_variable_46 : decode cX11_variable 46 = .ok (.new 171, 3) := by decide +kernel
theorem dX11_variable_49 : decode cX11_variable 49 = .ok (.dup, 1) := by decide +kernel
theorem dX11_variable_50 : decode cX11_variable 50 = .ok (.ldc 232, 2) := by decide +kernel
theorem dX11_variable_52 : decode cX11_variable 52 = .ok (.invokespecial 175, 3) := by decide +kernel
theorem dX11_variable_55 : decode cX11_variable 55 = .ok (.athrow, 1) := by decide +kernel
theorem dX11_variable_56 : decode cX11_variable 56 = .ok (.iload 4, 2) := by decide +kernel
theorem dX11_variable_58 : decode cX11_variable 58 = .ok (.iconst 1, 1) := by decide +kernel
theorem dX11_variable_59 : decode cX11_variable 59 = .ok (.if_icmp .lt 9, 3) := by decide +kernel
theorem dX11_variable_62 : decode cX11_variable 62 = .ok (.iload 4, 2) := by decide +kernel
theorem dX11_variable_64 : decode cX11_variable 64 = .ok (.iconst 4, 1) := by decide +kernel
theorem dX11_variable_65 : decode cX11_variable 65 = .ok (.if_icmp .le 13, 3) := by decide +kernel
theorem dX11_variable_68 : decode cX11_variable 68 = .ok (.new 171, 3) := by decide +kernel
theorem dX11_variable_71 : decode cX11_variable 71 = .ok (.dup, 1) := by decide +kernel
theorem dX11_variable_72 : decode cX11_variable 72 = .ok (.ldc 234, 2) := by decide +kernel
theorem dX11_variable_74 : decode cX11_variable 74 = .ok (.invokespecial 175, 3) := by decide +kernel
theorem dX11_variable_77 : decode cX11_variable 77 = .ok (.athrow, 1) := by decide +kernel
theorem dX11_variable_78 : decode cX11_variable 78 = .ok (.aload_n 0, 1) := by decide +kernel
theorem dX11_variable_79 : decode cX11_variable 79 = .ok (.getfield 21, 3) := by decide +kernel
theorem dX11_variable_82 : decode cX11_variable 82 = .ok (.invokevirtual 236, 3) := by decide +kernel
theorem dX11_variable_85 : decode cX11_variable 85 = .ok (.ifCond .eq 13, 3) := by decide +kernel
theorem dX11_variable_88 : decode cX11_variable 88 = .ok (.new 106, 3) := by decide +kernel
theorem dX11_variable_91 : decode cX11_variable 91 = .ok (.dup, 1) := by decide +kernel
theorem dX11_variable_92 : decode cX11_variable 92 = .ok (.ldc 237, 2) := by decide +kernel
theorem dX11_variable_94 : decode cX11_variable 94 = .ok (.invokespecial 110, 3) := by decide +kernel
theorem dX11_variable_97 : decode cX11_variable 97 = .ok (.athrow, 1) := by decide +kernel
theorem dX11_variable_98 : decode cX11_variable 98 = .ok (.aload_n 0, 1) := by decide +kernel
theorem dX11_variable_99 : decode cX11_variable 99 = .ok (.getfield 21, 3) := by decide +kernel
theorem dX11_variable_102 : decode cX11_variable 102 = .ok (.iload_n 1, 1) := by decide +kernel
theorem dX11_variable_103 : decode cX11_variable 103 = .ok (.iload_n 2, 1) := by decide +kernel
theorem dX11_variable_104 : decode cX11_variable 104 = .ok (.iload_n 3, 1) := by decide +kernel
theorem dX11_variable_105 : decode cX11_variable 105 = .ok (.iload 4, 2) := by decide +kernel
theorem dX11_variable_107 : decode cX11_variable 107 = .ok (.invokevirtual 239, 3) := by decide +kernel
theorem dX11_variable_110 : decode cX11_variable 110 = .ok (.ireturn, 1) := by decide +kernel
theorem dX11_where_0 : decode cX11_where 0 = .ok (.aload_n 0, 1) := by decide +kernel
theorem dX11_where_1 : decode cX11_where 1 = .ok (.getfield 21, 3) := by decide +kernel
theorem dX11_where_4 : decode cX11_where 4 = .ok (.iload_n 1, 1) := by decide +kernel
theorem dX11_where_5 : decode cX11_where 5 = .ok (.invokevirtual 243, 3) := by decide +kernel
theorem dX11_where_8 : decode cX11_where 8 = .ok (.ifCond .ne 13, 3) := by decide +kernel
theorem dX11_where_11 : decode cX11_where 11 = .ok (.new 223, 3) := by decide +kernel
theorem dX11_where_14 : decode cX11_where 14 = .ok (.dup, 1) := by decide +kernel
theorem dX11_where_15 : decode cX11_where 15 = .ok (.ldc 246, 2) := by decide +kernel
theorem dX11_where_17 : decode cX11_where 17 = .ok (.invokespecial 227, 3) := by decide +kernel
theorem dX11_where_20 : decode cX11_where 20 = .ok (.athrow, 1) := by decide +kernel
theorem dX11_where_21 : decode cX11_where 21 = .ok (.aload_n 0, 1) := by decide +kernel
theorem dX11_where_22 : decode cX11_where 22 = .ok (.iload_n 2, 1) := by decide +kernel
theorem dX11_where_23 : decode cX11_where 23 = .ok (.invokevirtual 121, 3) := by decide +kernel
theorem dX11_where_26 : decode cX11_where 26 = .ok (.aload_n 0, 1) := by decide +kernel
theorem dX11_where_27 : decode cX11_where 27 = .ok (.iload_n 3, 1) := by decide +kernel
theorem dX11_where_28 : decode cX11_where 28 = .ok (.invokevirtual 121, 3) := by decide +kernel
theorem dX11_where_31 : decode cX11_where 31 = .ok (.iload_n 2, 1) := by decide +kernel
theorem dX11_where_32 : decode cX11_where 32 = .ok (.iload_n 3, 1) := by decide +kernel
theorem dX11_where_33 : decode cX11_where 33 = .ok (.invokestatic 136, 3) := by decide +kernel
theorem dX11_where_36 : decode cX11_where 36 = .ok (.iload 4, 2) := by decide +kernel
theorem dX11_where_38 : decode cX11_where 38 = .ok (.iload 5, 2) := by decide +kernel
theorem dX11_where_40 : decode cX11_where 40 = .ok (.invokestatic 248, 3) := by decide +kernel
theorem dX11_where_43 : decode cX11_where 43 = .ok (.ifCond .ne 13, 3) := by decide +kernel
theorem dX11_where_46 : decode cX11_where 46 = .ok (.new 171, 3) := by decide +kernel
theorem dX11_where_49 : decode cX11_where 49 = .ok (.dup, 1) := by decide +kernel
theorem dX11_where_50 : decode cX11_where 50 = .ok (.ldc 252, 2) := by decide +kernel
theorem dX11_where_52 : decode cX11_where 52 = .ok (.invokespecial 175, 3) := by decide +kernel
theorem dX11_where_55 : decode cX11_where 55 = .ok (.athrow, 1) := by decide +kernel
theorem dX11_where_56 : decode cX11_where 56 = .ok (.aload_n 0, 1) := by decide +kernel
theorem dX11_where_57 : decode cX11_where 57 = .ok (.getfield 21, 3) := by decide +kernel
theorem dX11_where_60 : decode cX11_where 60 = .ok (.getfield 254, 3) := by decide +kernel
theorem dX11_where_63 : decode cX11_where 63 = .ok (.invokevirtual 161, 3) := by decide +kernel
theorem dX11_where_66 : decode cX11_where 66 = .ok (.ifCond .eq 14, 3) := by decide +kernel
theorem dX11_where_69 : decode cX11_where 69 = .ok (.new 106, 3) := by decide +kernel
theorem dX11_where_72 : decode cX11_where 72 = .ok (.dup, 1) := by decide +kernel
theorem dX11_where_73 : decode cX11_where 73 = .ok (.ldc_w 257, 3) := by decide +kernel
theorem dX11_where_76 : decode cX11_where 76 = .ok (.invokespecial 110, 3) := by decide +kernel
theorem dX11_where_79 : decode cX11_where 79 = .ok (.athrow, 1) := by decide +kernel
theorem dX11_where_80 : decode cX11_where 80 = .ok (.aload_n 0, 1) := by decide +kernel
theorem dX11_where_81 : decode cX11_where 81 = .ok (.getfield 21, 3) := by decide +kernel
theorem dX11_where_84 : decode cX11_where 84 = .ok (.iload_n 1, 1) := by decide +kernel
theorem dX11_where_85 : decode cX11_where 85 = .ok (.iload_n 2, 1) := by decide +kernel
theorem dX11_where_86 : decode cX11_where 86 = .ok (.iload_n 3, 1) := by decide +kernel
theorem dX11_where_87 : decode cX11_where 87 = .ok (.iload 4, 2) := by decide +kernel
theorem dX11_where_89 : decode cX11_where 89 = .ok (.iload 5, 2) := by decide +kernel
theorem dX11_where_91 : decode cX11_where 91 = .ok (.invokevirtual 259, 3) := by decide +kernel
theorem dX11_where_94 : decode cX11_where 94 = .ok (.ireturn, 1) := by decide +kernel
theorem dX11_thread_0 : decode cX11_thread 0 = .ok (.aload_n 0, 1) := by decide +kernel
theorem dX11_thread_1 : decode cX11_thread 1 = .ok (.iload_n 1, 1) := by decide +kernel
theorem dX11_thread_2 : decode cX11_thread 2 = .ok (.invokevirtual 192, 3) := by decide +kernel
theorem dX11_thread_5 : decode cX11_thread 5 = .ok (.aload_n 0, 1) := by decide +kernel
theorem dX11_thread_6 : decode cX11_thread 6 = .ok (.getfield 44, 3) := by decide +kernel
theorem dX11_thread_9 : decode cX11_thread 9 = .ok (.invokevirtual 263, 3) := by decide +kernel
theorem dX11_thread_12 : decode cX11_thread 12 = .ok (.ifCond .eq 14, 3) := by decide +kernel
theorem dX11_thread_15 : decode cX11_thread 15 = .ok (.new 106, 3) := by decide +kernel
theorem dX11_thread_18 : decode cX11_thread 18 = .ok (.dup, 1) := by decide +kernel
theorem dX11_thread_19 : decode cX11_thread 19 = .ok (.ldc_w 264, 3) := by decide +kernel
theorem dX11_thread_22 : decode cX11_thread 22 = .ok (.invokespecial 110, 3) := by decide +kernel
theorem dX11_thread_25 : decode cX11_thread 25 = .ok (.athrow, 1) := by decide +kernel
theorem dX11_thread_26 : decode cX11_thread 26 = .ok (.aload_n 0, 1) := by decide +kernel
theorem dX11_thread_27 : decode cX11_thread 27 = .ok (.getfield 44, 3) := by decide +kernel
theorem dX11_thread_30 : decode cX11_thread 30 = .ok (.aload_n 0, 1) := by decide +kernel
theorem dX11_thread_31 : decode cX11_thread 31 = .ok (.getfield 10, 3) := by decide +kernel
theorem dX11_thread_34 : decode cX11_thread 34 = .ok (.getfield 140, 3) := by decide +kernel
theorem dX11_thread_37 : decode cX11_thread 37 = .ok (.iload_n 1, 1) := by decide +kernel
theorem dX11_thread_38 : decode cX11_thread 38 = .ok (.invokevirtual 266, 3) := by decide +kernel
theorem dX11_thread_41 : decode cX11_thread 41 = .ok (.invokevirtual 269, 3) := by decide +kernel
theorem dX11_thread_44 : decode cX11_thread 44 = .ok (.istore_n 2, 1) := by decide +kernel
theorem dX11_thread_45 : decode cX11_thread 45 = .ok (.aload_n 0, 1) := by decide +kernel
theorem dX11_thread_46 : decode cX11_thread 46 = .ok (.getfield 54, 3) := by decide +kernel
theorem dX11_thread_49 : decode cX11_thread 49 = .ok (.aload_n 0, 1) := by decide +kernel
theorem dX11_thread_50 : decode cX11_thread 50 = .ok (.getfield 44, 3) := by decide +kernel
theorem dX11_thread_53 : decode cX11_thread 53 = .ok (.invokevirtual 117, 3) := by decide +kernel
theorem dX11_thread_56 : decode cX11_thread 56 = .ok (.iload_n 2, 1) := by decide +kernel
theorem dX11_thread_57 : decode cX11_thread 57 = .ok (.ireturn, 1) := by decide +kernel
theorem dX11_state_0 : decode cX11_state 0 = .ok (.aload_n 0, 1) := by decide +kernel
theorem dX11_state_1 : decode cX11_state 1 = .ok (.iload_n 1, 1) := by decide +kernel
theorem dX11_state_2 : decode cX11_state 2 = .ok (.invokevirtual 272, 3) := by decide +kernel
theorem dX11_state_5 : decode cX11_state 5 = .ok (.aload_n 0, 1) := by decide +kernel
theorem dX11_state_6 : decode cX11_state 6 = .ok (.getfield 44, 3) := by decide +kernel
theorem dX11_state_9 : decode cX11_state 9 = .ok (.iload_n 1, 1) := by decide +kernel
theorem dX11_state_10 : decode cX11_state 10 = .ok (.invokevirtual 275, 3) := by decide +kernel
theorem dX11_state_13 : decode cX11_state 13 = .ok (.getfield 279, 3) := by decide +kernel
theorem dX11_state_16 : decode cX11_state 16 = .ok (.ireturn, 1) := by decide +kernel
theorem dX11_fault_0 : decode cX11_fault 0 = .ok (.aload_n 0, 1) := by decide +kernel
theorem dX11_fault_1 : decode cX11_fault 1 = .ok (.iload_n 1, 1) := by decide +kernel
theorem dX11_fault_2 : decode cX11_fault 2 = .ok (.invokevirtual 272, 3) := by decide +kernel
theorem dX11_fault_5 : decode cX11_fault 5 = .ok (.aload_n 0, 1) := by decide +kernel
theorem dX11_fault_6 : decode cX11_fault 6 = .ok (.getfield 44, 3) := by decide +kernel
theorem dX11_fault_9 : decode cX11_fault 9 = .ok (.iload_n 1, 1) := by decide +kernel
theorem dX11_fault_10 : decode cX11_fault 10 = .ok (.invokevirtual 275, 3) := by decide +kernel
theorem dX11_fault_13 : decode cX11_fault 13 = .ok (.getfield 284, 3) := by decide +kernel
theorem dX11_fault_16 : decode cX11_fault 16 = .ok (.istore_n 2, 1) := by decide +kernel
theorem dX11_fault_17 : decode cX11_fault 17 = .ok (.iload_n 2, 1) := by decide +kernel
theorem dX11_fault_18 : decode cX11_fault 18 = .ok (.bipush 45, 2) := by decide +kernel
theorem dX11_fault_20 : decode cX11_fault 20 = .ok (.if_icmp .ne 14, 3) := by decide +kernel
theorem dX11_fault_23 : decode cX11_fault 23 = .ok (.new 287, 3) := by decide +kernel
theorem dX11_fault_26 : decode cX11_fault 26 = .ok (.dup, 1) := by decide +kernel
theorem dX11_fault_27 : decode cX11_fault 27 = .ok (.ldc_w 289, 3) := by decide +kernel
theorem dX11_fault_30 : decode cX11_fault 30 = .ok (.invokespecial 291, 3) := by decide +kernel
theorem dX11_fault_33 : decode cX11_fault 33 = .ok (.athrow, 1) := by decide +kernel
theorem dX11_fault_34 : decode cX11_fault 34 = .ok (.iload_n 2, 1) := by decide +kernel
theorem dX11_fault_35 : decode cX11_fault 35 = .ok (.ireturn, 1) := by decide +kernel
theorem dX11_hold_0 : decode cX11_hold 0 = .ok (.aload_n 0, 1) := by decide +kernel
theorem dX11_hold_1 : decode cX11_hold 1 = .ok (.iload_n 1, 1) := by decide +kernel
theorem dX11_hold_2 : decode cX11_hold 2 = .ok (.invokevirtual 272, 3) := by decide +kernel
theorem dX11_hold_5 : decode cX11_hold 5 = .ok (.aload_n 0, 1) := by decide +kernel
theorem dX11_hold_6 : decode cX11_hold 6 = .ok (.iload_n 1, 1) := by decide +kernel
theorem dX11_hold_7 : decode cX11_hold 7 = .ok (.invokevirtual 292, 3) := by decide +kernel
theorem dX11_hold_10 : decode cX11_hold 10 = .ok (.istore_n 3, 1) := by decide +kernel
theorem dX11_hold_11 : decode cX11_hold 11 = .ok (.iload_n 1, 1) := by decide +kernel
theorem dX11_hold_12 : decode cX11_hold 12 = .ok (.iconst 3, 1) := by decide +kernel
theorem dX11_hold_13 : decode cX11_hold 13 = .ok (.invokestatic 168, 3) := by decide +kernel
theorem dX11_hold_16 : decode cX11_hold 16 = .ok (.ifCond .eq 10, 3) := by decide +kernel
theorem dX11_hold_19 : decode cX11_hold 19 = .ok (.aload_n 0, 1) := by decide +kernel
theorem dX11_hold_20 : decode cX11_hold 20 = .ok (.getfield 58, 3) := by decide +kernel
theorem dX11_hold_23 : decode cX11_hold 23 = .ok (.iload_n 1, 1) := by decide +kernel
theorem dX11_hold_24 : decode cX11_hold 24 = .ok (.iload_n 2, 1) := by decide +kernel
theorem dX11_hold_25 : decode cX11_hold 25 = .ok (.bastore, 1) := by decide +kernel
theorem dX11_hold_26 : decode cX11_hold 26 = .ok (.iload_n 3, 1) := by decide +kernel
theorem dX11_hold_27 : decode cX11_hold 27 = .ok (.ireturn, 1) := by decide +kernel
theorem dX11_register_0 : decode cX11_register 0 = .ok (.aload_n 0, 1) := by decide +kernel
theorem dX11_register_1 : decode cX11_register 1 = .ok (.iload_n 1, 1) := by decide +kernel
theorem dX11_register_2 : decode cX11_register 2 = .ok (.invokevirtual 272, 3) := by decide +kernel
theorem dX11_register_5 : decode cX11_register 5 = .ok (.iload_n 2, 1) := by decide +kernel
theorem dX11_register_6 : decode cX11_register 6 = .ok (.iconst 4, 1) := by decide +kernel
theorem dX11_register_7 : decode cX11_register 7 = .ok (.invokestatic 168, 3) := by decide +kernel
theorem dX11_register_10 : decode cX11_register 10 = .ok (.ifCond .ne 14, 3) := by decide +kernel
theorem dX11_register_13 : decode cX11_register 13 = .ok (.new 223, 3) := by decide +kernel
theorem dX11_register_16 : decode cX11_register 16 = .ok (.dup, 1) := by decide +kernel
theorem dX11_register_17 : decode cX11_register 17 = .ok (.ldc_w 295, 3) := by decide +kernel
theorem dX11_register_20 : decode cX11_register 20 = .ok (.invokespecial 227, 3) := by decide +kernel
theorem dX11_register_23 : decode cX11_register 23 = .ok (.athrow, 1) := by decide +kernel
theorem dX11_register_24 : decode cX11_register 24 = .ok (.aload_n 0, 1) := by decide +kernel
theorem dX11_register_25 : decode cX11_register 25 = .ok (.getfield 44, 3) := by decide +kernel
theorem dX11_register_28 : decode cX11_register 28 = .ok (.iload_n 1, 1) := by decide +kernel
theorem dX11_register_29 : decode cX11_register 29 = .ok (.invokevirtual 275, 3) := by decide +kernel
theorem dX11_register_32 : decode cX11_register 32 = .ok (.iload_n 2, 1) := by decide +kernel
theorem dX11_register_33 : decode cX11_register 33 = .ok (.invokevirtual 297, 3) := by decide +kernel
theorem dX11_register_36 : decode cX11_register 36 = .ok (.ireturn, 1) := by decide +kernel
theorem dX11_frames_0 : decode cX11_frames 0 = .ok (.aload_n 0, 1) := by decide +kernel
theorem dX11_frames_1 : decode cX11_frames 1 = .ok (.iload_n 1, 1) := by decide +kernel
theorem dX11_frames_2 : decode cX11_frames 2 = .ok (.invokevirtual 272, 3) := by decide +kernel
theorem dX11_frames_5 : decode cX11_frames 5 = .ok (.aload_n 0, 1) := by decide +kernel
theorem dX11_frames_6 : decode cX11_frames 6 = .ok (.getfield 65, 3) := by decide +kernel
theorem dX11_frames_9 : decode cX11_frames 9 = .ok (.aload_n 0, 1) := by decide +kernel
theorem dX11_frames_10 : decode cX11_frames 10 = .ok (.getfield 44, 3) := by decide +kernel
theorem dX11_frames_13 : decode cX11_frames 13 = .ok (.iload_n 1, 1) := by decide +kernel
theorem dX11_frames_14 : decode cX11_frames 14 = .ok (.invokevirtual 275, 3) := by decide +kernel
theorem dX11_frames_17 : decode cX11_frames 17 = .ok (.invokevirtual 309, 3) := by decide +kernel
theorem dX11_frames_20 : decode cX11_frames 20 = .ok (.aload_n 0, 1) := by decide +kernel
theorem dX11_frames_21 : decode cX11_frames 21 = .ok (.getfield 65, 3) := by decide +kernel
theorem dX11_frames_24 : decode cX11_frames 24 = .ok (.invokevirtual 313, 3) := by decide +kernel
theorem dX11_frames_27 : decode cX11_frames 27 = .ok (.ireturn, 1) := by decide +kernel
theorem dX11_frame_0 : decode cX11_frame 0 = .ok (.aload_n 0, 1) := by decide +kernel
theorem dX11_frame_1 : decode cX11_frame 1 = .ok (.iload_n 1, 1) := by decide +kernel
theorem dX11_frame_2 : decode cX11_frame 2 = .ok (.iload_n 2, 1) := by decide +kernel
theorem dX11_frame_3 : decode cX11_frame 3 = .ok (.invokevirtual 317, 3) := by decide +kernel
theorem dX11_frame_6 : decode cX11_frame 6 = .ok (.iload_n 3, 1) := by decide +kernel
theorem dX11_frame_7 : decode cX11_frame 7 = .ok (.tableswitch 157 98 112 #[149, 157, 157, 157, 73, 157, 157, 132, 157, 157, 124, 157, 157, 157, 116], 73) := by decide +kernel
theorem dX11_frame_80 : decode cX11_frame 80 = .ok (.aload_n 0, 1) := by decide +kernel
theorem dX11_frame_81 : decode cX11_frame 81 = .ok (.getfield 72, 3) := by decide +kernel
theorem dX11_frame_84 : decode cX11_frame 84 = .ok (.getfield 320, 3) := by decide +kernel
theorem dX11_frame_87 : decode cX11_frame 87 = .ok (.iconst (-1), 1) := by decide +kernel
theorem dX11_frame_88 : decode cX11_frame 88 = .ok (.if_icmp .ne 20, 3) := by decide +kernel
theorem dX11_frame_91 : decode cX11_frame 91 = .ok (.aload_n 0, 1) := by decide +kernel
theorem dX11_frame_92 : decode cX11_frame 92 = .ok (.getfield 10, 3) := by decide +kernel
theorem dX11_frame_95 : decode cX11_frame 95 = .ok (.aload_n 0, 1) := by decide +kernel
theorem dX11_frame_96 : decode cX11_frame 96 = .ok (.getfield 72, 3) := by decide +kernel
theorem dX11_frame_99 : decode cX11_frame 99 = .ok (.getfield 323, 3) := by decide +kernel
theorem dX11_frame_102 : decode cX11_frame 102 = .ok (.invokevirtual 326, 3) := by decide +kernel
theorem dX11_frame_105 : decode cX11_frame 105 = .ok (.goto 17, 3) := by decide +kernel
theorem dX11_frame_108 : decode cX11_frame 108 = .ok (.aload_n 0, 1) := by decide +kernel
theorem dX11_frame_109 : decode cX11_frame 109 = .ok (.getfield 10, 3) := by decide +kernel
theorem dX11_frame_112 : decode cX11_frame 112 = .ok (.aload_n 0, 1) := by decide +kernel
theorem dX11_frame_113 : decode cX11_frame 113 = .ok (.getfield 72, 3) := by decide +kernel
theorem dX11_frame_116 : decode cX11_frame 116 = .ok (.getfield 320, 3) := by decide +kernel
theorem dX11_frame_119 : decode cX11_frame 119 = .ok (.invokevirtual 329, 3) := by decide +kernel
theorem dX11_frame_122 : decode cX11_frame 122 = .ok (.ireturn, 1) := by decide +kernel
theorem dX11_frame_123 : decode cX11_frame 123 = .ok (.aload_n 0, 1) := by decide +kernel
theorem dX11_frame_124 : decode cX11_frame 124 = .ok (.getfield 72, 3) := by decide +kernel
theorem dX11_frame_127 : decode cX11_frame 127 = .ok (.getfield 323, 3) := by decide +kernel
theorem dX11_frame_130 : decode cX11_frame 130 = .ok (.ireturn, 1) := by decide +kernel
theorem dX11_frame_131 : decode cX11_frame 131 = .ok (.aload_n 0, 1) := by decide +kernel
theorem dX11_frame_132 : decode cX11_frame 132 = .ok (.getfield 72, 3) := by decide +kernel
theorem dX11_frame_135 : decode cX11_frame 135 = .ok (.getfield 332, 3) := by decide +kernel
theorem dX11_frame_138 : decode cX11_frame 138 = .ok (.ireturn, 1) := by decide +kernel
theorem dX11_frame_139 : decode cX11_frame 139 = .ok (.aload_n 0, 1) := by decide +kernel
theorem dX11_frame_140 : decode cX11_frame 140 = .ok (.getfield 72, 3) := by decide +kernel
theorem dX11_frame_143 : decode cX11_frame 143 = .ok (.getfield 320, 3) := by decide +kernel
theorem dX11_frame_146 : decode cX11_frame 146 = .ok (.iconst (-1), 1) := by decide +kernel
theorem dX11_frame_147 : decode cX11_frame 147 = .ok (.if_icmp .ne 7, 3) := by decide +kernel
theorem dX11_frame_150 : decode cX11_frame 150 = .ok (.iconst 0, 1) := by decide +kernel
theorem dX11_frame_151 : decode cX11_frame 151 = .ok (.goto 4, 3) := by decide +kernel
theorem dX11_frame_154 : decode cX11_frame 154 = .ok (.iconst 1, 1) := by decide +kernel
theorem dX11_frame_155 : decode cX11_frame 155 = .ok (.ireturn, 1) := by decide +kernel
theorem dX11_frame_156 : decode cX11_frame 156 = .ok (.aload_n 0, 1) := by decide +kernel
theorem dX11_frame_157 : decode cX11_frame 157 = .ok (.getfield 72, 3) := by decide +kernel
theorem dX11_frame_160 : decode cX11_frame 160 = .ok (.getfield 335, 3) := by decide +kernel
theorem dX11_frame_163 : decode cX11_frame 163 = .ok (.ireturn, 1) := by decide +kernel
theorem dX11_frame_164 : decode cX11_frame 164 = .ok (.new 171, 3) := by decide +kernel
theorem dX11_frame_167 : decode cX11_frame 167 = .ok (.dup, 1) := by decide +kernel
theorem dX11_frame_168 : decode cX11_frame 168 = .ok (.ldc_w 338, 3) := by decide +kernel
theorem dX11_frame_171 : decode cX11_frame 171 = .ok (.invokespecial 175, 3) := by decide +kernel
theorem dX11_frame_174 : decode cX11_frame 174 = .ok (.athrow, 1) := by decide +kernel
theorem dX11_see_0 : decode cX11_see 0 = .ok (.aload_n 0, 1) := by decide +kernel
theorem dX11_see_1 : decode cX11_see 1 = .ok (.iload_n 1, 1) := by decide +kernel
theorem dX11_see_2 : decode cX11_see 2 = .ok (.iload_n 2, 1) := by decide +kernel
theorem dX11_see_3 : decode cX11_see 3 = .ok (.invokevirtual 317, 3) := by decide +kernel
theorem dX11_see_6 : decode cX11_see 6 = .ok (.iload_n 3, 1) := by decide +kernel
theorem dX11_see_7 : decode cX11_see 7 = .ok (.invokestatic 228, 3) := by decide +kernel
theorem dX11_see_10 : decode cX11_see 10 = .ok (.aload_n 0, 1) := by decide +kernel
theorem dX11_see_11 : decode cX11_see 11 = .ok (.iload_n 3, 1) := by decide +kernel
theorem dX11_see_12 : decode cX11_see 12 = .ok (.invokevirtual 340, 3) := by decide +kernel
theorem dX11_see_15 : decode cX11_see 15 = .ok (.istore 4, 2) := by decide +kernel
theorem dX11_see_17 : decode cX11_see 17 = .ok (.iload 4, 2) := by decide +kernel
theorem dX11_see_19 : decode cX11_see 19 = .ok (.iconst (-1), 1) := by decide +kernel
theorem dX11_see_20 : decode cX11_see 20 = .ok (.if_icmp .ne 6, 3) := by decide +kernel
theorem dX11_see_23 : decode cX11_see 23 = .ok (.bipush 110, 2) := by decide +kernel
theorem dX11_see_25 : decode cX11_see 25 = .ok (.ireturn, 1) := by decide +kernel
theorem dX11_see_26 : decode cX11_see 26 = .ok (.aload_n 0, 1) := by decide +kernel
theorem dX11_see_27 : decode cX11_see 27 = .ok (.getfield 79, 3) := by decide +kernel
theorem dX11_see_30 : decode cX11_see 30 = .ok (.invokevirtual 344, 3) := by decide +kernel
theorem dX11_see_33 : decode cX11_see 33 = .ok (.ifCond .eq 8, 3) := by decide +kernel
theorem dX11_see_36 : decode cX11_see 36 = .ok (.bipush 103, 2) := by decide +kernel
theorem dX11_see_38 : decode cX11_see 38 = .ok (.goto 5, 3) := by decide +kernel
theorem dX11_see_41 : decode cX11_see 41 = .ok (.bipush 118, 2) := by decide +kernel
theorem dX11_see_43 : decode cX11_see 43 = .ok (.ireturn, 1) := by decide +kernel
theorem dX11_value_0 : decode cX11_value 0 = .ok (.aload_n 0, 1) := by decide +kernel
theorem dX11_value_1 : decode cX11_value 1 = .ok (.iload_n 1, 1) := by decide +kernel
theorem dX11_value_2 : decode cX11_value 2 = .ok (.iload_n 2, 1) := by decide +kernel
theorem dX11_value_3 : decode cX11_value 3 = .ok (.iload_n 3, 1) := by decide +kernel
theorem dX11_value_4 : decode cX11_value 4 = .ok (.iload 4, 2) := by decide +kernel
theorem dX11_value_6 : decode cX11_value 6 = .ok (.invokevirtual 347, 3) := by decide +kernel
theorem dX11_value_9 : decode cX11_value 9 = .ok (.aload_n 0, 1) := by decide +kernel
theorem dX11_value_10 : decode cX11_value 10 = .ok (.getfield 79, 3) := by decide +kernel
theorem dX11_value_13 : decode cX11_value 13 = .ok (.aload_n 0, 1) := by decide +kernel
theorem dX11_value_14 : decode cX11_value 14 = .ok (.getfield 44, 3) := by decide +kernel
theorem dX11_value_17 : decode cX11_value 17 = .ok (.iload 4, 2) := by decide +kernel
theorem dX11_value_19 : decode cX11_value 19 = .ok (.invokevirtual 351, 3) := by decide +kernel
theorem dX11_value_22 : decode cX11_value 22 = .ok (.ireturn, 1) := by decide +kernel
theorem dX11_show_0 : decode cX11_show 0 = .ok (.aload_n 0, 1) := by decide +kernel
theorem dX11_show_1 : decode cX11_show 1 = .ok (.iload_n 1, 1) := by decide +kernel
theorem dX11_show_2 : decode cX11_show 2 = .ok (.iload_n 2, 1) := by decide +kernel
theorem dX11_show_3 : decode cX11_show 3 = .ok (.invokevirtual 317, 3) := by decide +kernel
theorem dX11_show_6 : decode cX11_show 6 = .ok (.iload_n 3, 1) := by decide +kernel
theorem dX11_show_7 : decode cX11_show 7 = .ok (.invokestatic 228, 3) := by decide +kernel
theorem dX11_show_10 : decode cX11_show 10 = .ok (.aload_n 0, 1) := by decide +kernel
theorem dX11_show_11 : decode cX11_show 11 = .ok (.iload_n 3, 1) := by decide +kernel
theorem dX11_show_12 : decode cX11_show 12 = .ok (.invokevirtual 340, 3) := by decide +kernel
theorem dX11_show_15 : decode cX11_show 15 = .ok (.istore 4, 2) := by decide +kernel
theorem dX11_show_17 : decode cX11_show 17 = .ok (.iload 4, 2) := by decide +kernel
theorem dX11_show_19 : decode cX11_show 19 = .ok (.invokestatic 355, 3) := by decide +kernel
theorem dX11_show_22 : decode cX11_show 22 = .ok (.aload_n 0, 1) := by decide +kernel
theorem dX11_show_23 : decode cX11_show 23 = .ok (.getfield 86, 3) := by decide +kernel
theorem dX11_show_26 : decode cX11_show 26 = .ok (.iconst 0, 1) := by decide +kernel
theorem dX11_show_27 : decode cX11_show 27 = .ok (.invokevirtual 358, 3) := by decide +kernel
theorem dX11_show_30 : decode cX11_show 30 = .ok (.aload_n 0, 1) := by decide +kernel
theorem dX11_show_31 : decode cX11_show 31 = .ok (.getfield 79, 3) := by decide +kernel
theorem dX11_show_34 : decode cX11_show 34 = .ok (.invokevirtual 344, 3) := by decide +kernel
theorem dX11_show_37 : decode cX11_show 37 = .ok (.ifCond .eq 17, 3) := by decide +kernel
theorem dX11_show_40 : decode cX11_show 40 = .ok (.aload_n 0, 1) := by decide +kernel
theorem dX11_show_41 : decode cX11_show 41 = .ok (.getfield 86, 3) := by decide +kernel
theorem dX11_show_44 : decode cX11_show 44 = .ok (.ldc_w 361, 3) := by decide +kernel
theorem dX11_show_47 : decode cX11_show 47 = .ok (.invokevirtual 363, 3) := by decide +kernel
theorem dX11_show_50 : decode cX11_show 50 = .ok (.pop, 1) := by decide +kernel
theorem dX11_show_51 : decode cX11_show 51 = .ok (.goto 9, 3) := by decide +kernel
theorem dX11_show_54 : decode cX11_show 54 = .ok (.aload_n 0, 1) := by decide +kernel
theorem dX11_show_55 : decode cX11_show 55 = .ok (.iload 4, 2) := by decide +kernel
theorem dX11_show_57 : decode cX11_show 57 = .ok (.invokevirtual 366, 3) := by decide +kernel
theorem dX11_show_60 : decode cX11_show 60 = .ok (.aload_n 0, 1) := by decide +kernel
theorem dX11_show_61 : decode cX11_show 61 = .ok (.getfield 86, 3) := by decide +kernel
theorem dX11_show_64 : decode cX11_show 64 = .ok (.invokevirtual 369, 3) := by decide +kernel
theorem dX11_show_67 : decode cX11_show 67 = .ok (.ireturn, 1) := by decide +kernel
theorem dX11_stop_0 : decode cX11_stop 0 = .ok (.aload_n 0, 1) := by decide +kernel
theorem dX11_stop_1 : decode cX11_stop 1 = .ok (.iload_n 1, 1) := by decide +kernel
theorem dX11_stop_2 : decode cX11_stop 2 = .ok (.invokevirtual 121, 3) := by decide +kernel
theorem dX11_stop_5 : decode cX11_stop 5 = .ok (.aload_n 0, 1) := by decide +kernel
theorem dX11_stop_6 : decode cX11_stop 6 = .ok (.invokevirtual 377, 3) := by decide +kernel
theorem dX11_stop_9 : decode cX11_stop 9 = .ok (.aload_n 0, 1) := by decide +kernel
theorem dX11_stop_10 : decode cX11_stop 10 = .ok (.getfield 30, 3) := by decide +kernel
theorem dX11_stop_13 : decode cX11_stop 13 = .ok (.lconst 1, 1) := by decide +kernel
theorem dX11_stop_14 : decode cX11_stop 14 = .ok (.iload_n 1, 1) := by decide +kernel
theorem dX11_stop_15 : decode cX11_stop 15 = .ok (.lshl, 1) := by decide +kernel
theorem dX11_stop_16 : decode cX11_stop 16 = .ok (.invokevirtual 380, 3) := by decide +kernel
theorem dX11_stop_19 : decode cX11_stop 19 = .ok (.ireturn, 1) := by decide +kernel
theorem dX11_stopIn_0 : decode cX11_stopIn 0 = .ok (.aload_n 0, 1) := by decide +kernel
theorem dX11_stopIn_1 : decode cX11_stopIn 1 = .ok (.iload_n 1, 1) := by decide +kernel
theorem dX11_stopIn_2 : decode cX11_stopIn 2 = .ok (.invokevirtual 192, 3) := by decide +kernel
theorem dX11_stopIn_5 : decode cX11_stopIn 5 = .ok (.aload_n 0, 1) := by decide +kernel
theorem dX11_stopIn_6 : decode cX11_stopIn 6 = .ok (.invokevirtual 377, 3) := by decide +kernel
theorem dX11_stopIn_9 : decode cX11_stopIn 9 = .ok (.aload_n 0, 1) := by decide +kernel
theorem dX11_stopIn_10 : decode cX11_stopIn 10 = .ok (.getfield 30, 3) := by decide +kernel
theorem dX11_stopIn_13 : decode cX11_stopIn 13 = .ok (.lconst 1, 1) := by decide +kernel
theorem dX11_stopIn_14 : decode cX11_stopIn 14 = .ok (.aload_n 0, 1) := by decide +kernel
theorem dX11_stopIn_15 : decode cX11_stopIn 15 = .ok (.getfield 10, 3) := by decide +kernel
theorem dX11_stopIn_18 : decode cX11_stopIn 18 = .ok (.iload_n 1, 1) := by decide +kernel
theorem dX11_stopIn_19 : decode cX11_stopIn 19 = .ok (.invokevirtual 389, 3) := by decide +kernel
theorem dX11_stopIn_22 : decode cX11_stopIn 22 = .ok (.lshl, 1) := by decide +kernel
theorem dX11_stopIn_23 : decode cX11_stopIn 23 = .ok (.invokevirtual 380, 3) := by decide +kernel
theorem dX11_stopIn_26 : decode cX11_stopIn 26 = .ok (.ireturn, 1) := by decide +kernel
theorem dX11_when_0 : decode cX11_when 0 = .ok (.aload_n 0, 1) := by decide +kernel
theorem dX11_when_1 : decode cX11_when 1 = .ok (.iload_n 1, 1) := by decide +kernel
theorem dX11_when_2 : decode cX11_when 2 = .ok (.invokevirtual 392, 3) := by decide +kernel
theorem dX11_when_5 : decode cX11_when 5 = .ok (.iload_n 2, 1) := by decide +kernel
theorem dX11_when_6 : decode cX11_when 6 = .ok (.bipush 45, 2) := by decide +kernel
theorem dX11_when_8 : decode cX11_when 8 = .ok (.if_icmp .eq 21, 3) := by decide +kernel
theorem dX11_when_11 : decode cX11_when 11 = .ok (.iload_n 2, 1) := by decide +kernel
theorem dX11_when_12 : decode cX11_when 12 = .ok (.invokestatic 395, 3) := by decide +kernel
theorem dX11_when_15 : decode cX11_when 15 = .ok (.ifCond .ne 14, 3) := by decide +kernel
theorem dX11_when_18 : decode cX11_when 18 = .ok (.new 171, 3) := by decide +kernel
theorem dX11_when_21 : decode cX11_when 21 = .ok (.dup, 1) := by decide +kernel
theorem dX11_when_22 : decode cX11_when 22 = .ok (.ldc_w 399, 3) := by decide +kernel
theorem dX11_when_25 : decode cX11_when 25 = .ok (.invokespecial 175, 3) := by decide +kernel
theorem dX11_when_28 : decode cX11_when 28 = .ok (.athrow, 1) := by decide +kernel
theorem dX11_when_29 : decode cX11_when 29 = .ok (.iload_n 2, 1) := by decide +kernel
theorem dX11_when_30 : decode cX11_when 30 = .ok (.bipush 45, 2) := by decide +kernel
theorem dX11_when_32 : decode cX11_when 32 = .ok (.if_icmp .eq 32, 3) := by decide +kernel
theorem dX11_when_35 : decode cX11_when 35 = .ok (.iload_n 3, 1) := by decide +kernel
theorem dX11_when_36 : decode cX11_when 36 = .ok (.bipush 60, 2) := by decide +kernel
theorem dX11_when_38 : decode cX11_when 38 = .ok (.if_icmp .eq 26, 3) := by decide +kernel
theorem dX11_when_41 : decode cX11_when 41 = .ok (.iload_n 3, 1) := by decide +kernel
theorem dX11_when_42 : decode cX11_when 42 = .ok (.bipush 61, 2) := by decide +kernel
theorem dX11_when_44 : decode cX11_when 44 = .ok (.if_icmp .eq 20, 3) := by decide +kernel
theorem dX11_when_47 : decode cX11_when 47 = .ok (.iload_n 3, 1) := by decide +kernel
theorem dX11_when_48 : decode cX11_when 48 = .ok (.bipush 62, 2) := by decide +kernel
theorem dX11_when_50 : decode cX11_when 50 = .ok (.if_icmp .eq 14, 3) := by decide +kernel
theorem dX11_when_53 : decode cX11_when 53 = .ok (.new 171, 3) := by decide +kernel
theorem dX11_when_56 : decode cX11_when 56 = .ok (.dup, 1) := by decide +kernel
theorem dX11_when_57 : decode cX11_when 57 = .ok (.ldc_w 372, 3) := by decide +kernel
theorem dX11_when_60 : decode cX11_when 60 = .ok (.invokespecial 175, 3) := by decide +kernel
theorem dX11_when_63 : decode cX11_when 63 = .ok (.athrow, 1) := by decide +kernel
theorem dX11_when_64 : decode cX11_when 64 = .ok (.aload_n 0, 1) := by decide +kernel
theorem dX11_when_65 : decode cX11_when 65 = .ok (.getfield 30, 3) := by decide +kernel
theorem dX11_when_68 : decode cX11_when 68 = .ok (.iload_n 1, 1) := by decide +kernel
theorem dX11_when_69 : decode cX11_when 69 = .ok (.iload_n 2, 1) := by decide +kernel
theorem dX11_when_70 : decode cX11_when 70 = .ok (.iload_n 3, 1) := by decide +kernel
theorem dX11_when_71 : decode cX11_when 71 = .ok (.iload 4, 2) := by decide +kernel
theorem dX11_when_73 : decode cX11_when 73 = .ok (.invokevirtual 401, 3) := by decide +kernel
theorem dX11_when_76 : decode cX11_when 76 = .ok (.aload_n 0, 1) := by decide +kernel
theorem dX11_when_77 : decode cX11_when 77 = .ok (.getfield 30, 3) := by decide +kernel
theorem dX11_when_80 : decode cX11_when 80 = .ok (.iload_n 1, 1) := by decide +kernel
theorem dX11_when_81 : decode cX11_when 81 = .ok (.invokevirtual 405, 3) := by decide +kernel
theorem dX11_when_84 : decode cX11_when 84 = .ok (.ireturn, 1) := by decide +kernel
theorem dX11_hits_0 : decode cX11_hits 0 = .ok (.aload_n 0, 1) := by decide +kernel
theorem dX11_hits_1 : decode cX11_hits 1 = .ok (.iload_n 1, 1) := by decide +kernel
theorem dX11_hits_2 : decode cX11_hits 2 = .ok (.invokevirtual 392, 3) := by decide +kernel
theorem dX11_hits_5 : decode cX11_hits 5 = .ok (.aload_n 0, 1) := by decide +kernel
theorem dX11_hits_6 : decode cX11_hits 6 = .ok (.getfield 30, 3) := by decide +kernel
theorem dX11_hits_9 : decode cX11_hits 9 = .ok (.iload_n 1, 1) := by decide +kernel
theorem dX11_hits_10 : decode cX11_hits 10 = .ok (.invokevirtual 405, 3) := by decide +kernel
theorem dX11_hits_13 : decode cX11_hits 13 = .ok (.ireturn, 1) := by decide +kernel
theorem dX11_watchName_0 : decode cX11_watchName 0 = .ok (.aload_n 0, 1) := by decide +kernel
theorem dX11_watchName_1 : decode cX11_watchName 1 = .ok (.iload_n 1, 1) := by decide +kernel
theorem dX11_watchName_2 : decode cX11_watchName 2 = .ok (.iload_n 2, 1) := by decide +kernel
theorem dX11_watchName_3 : decode cX11_watchName 3 = .ok (.invokevirtual 317, 3) := by decide +kernel
theorem dX11_watchName_6 : decode cX11_watchName 6 = .ok (.iload_n 3, 1) := by decide +kernel
theorem dX11_watchName_7 : decode cX11_watchName 7 = .ok (.invokestatic 228, 3) := by decide +kernel
theorem dX11_watchName_10 : decode cX11_watchName 10 = .ok (.aload_n 0, 1) := by decide +kernel
theorem dX11_watchName_11 : decode cX11_watchName 11 = .ok (.iload_n 3, 1) := by decide +kernel
theorem dX11_watchName_12 : decode cX11_watchName 12 = .ok (.invokevirtual 340, 3) := by decide +kernel
theorem dX11_watchName_15 : decode cX11_watchName 15 = .ok (.invokestatic 355, 3) := by decide +kernel
theorem dX11_watchName_18 : decode cX11_watchName 18 = .ok (.aload_n 0, 1) := by decide +kernel
theorem dX11_watchName_19 : decode cX11_watchName 19 = .ok (.getfield 79, 3) := by decide +kernel
theorem dX11_watchName_22 : decode cX11_watchName 22 = .ok (.invokevirtual 422, 3) := by decide +kernel
theorem dX11_watchName_25 : decode cX11_watchName 25 = .ok (.ifCond .ne 14, 3) := by decide +kernel
theorem dX11_watchName_28 : decode cX11_watchName 28 = .ok (.new 156, 3) := by decide +kernel
theorem dX11_watchName_31 : decode cX11_watchName 31 = .ok (.dup, 1) := by decide +kernel
theorem dX11_watchName_32 : decode cX11_watchName 32 = .ok (.ldc_w 425, 3) := by decide +kernel
theorem dX11_watchName_35 : decode cX11_watchName 35 = .ok (.invokespecial 160, 3) := by decide +kernel
theorem dX11_watchName_38 : decode cX11_watchName 38 = .ok (.athrow, 1) := by decide +kernel
theorem dX11_watchName_39 : decode cX11_watchName 39 = .ok (.aload_n 0, 1) := by decide +kernel
theorem dX11_watchName_40 : decode cX11_watchName 40 = .ok (.invokevirtual 413, 3) := by decide +kernel
theorem dX11_watchName_43 : decode cX11_watchName 43 = .ok (.aload_n 0, 1) := by decide +kernel
theorem dX11_watchName_44 : decode cX11_watchName 44 = .ok (.getfield 37, 3) := by decide +kernel
theorem dX11_watchName_47 : decode cX11_watchName 47 = .ok (.aload_n 0, 1) := by decide +kernel
theorem dX11_watchName_48 : decode cX11_watchName 48 = .ok (.getfield 79, 3) := by decide +kernel
theorem dX11_watchName_51 : decode cX11_watchName 51 = .ok (.aload_n 0, 1) := by decide +kernel
theorem dX11_watchName_52 : decode cX11_watchName 52 = .ok (.getfield 44, 3) := by decide +kernel
theorem dX11_watchName_55 : decode cX11_watchName 55 = .ok (.invokevirtual 419, 3) := by decide +kernel
theorem dX11_watchName_58 : decode cX11_watchName 58 = .ok (.ireturn, 1) := by decide +kernel
theorem dX11_stepLine_0 : decode cX11_stepLine 0 = .ok (.aload_n 0, 1) := by decide +kernel
theorem dX11_stepLine_1 : decode cX11_stepLine 1 = .ok (.iload_n 1, 1) := by decide +kernel
theorem dX11_stepLine_2 : decode cX11_stepLine 2 = .ok (.invokevirtual 272, 3) := by decide +kernel
theorem dX11_stepLine_5 : decode cX11_stepLine 5 = .ok (.iload_n 2, 1) := by decide +kernel
theorem dX11_stepLine_6 : decode cX11_stepLine 6 = .ok (.bipush 105, 2) := by decide +kernel
theorem dX11_stepLine_8 : decode cX11_stepLine 8 = .ok (.if_icmp .eq 26, 3) := by decide +kernel
theorem dX11_stepLine_11 : decode cX11_stepLine 11 = .ok (.iload_n 2, 1) := by decide +kernel
theorem dX11_stepLine_12 : decode cX11_stepLine 12 = .ok (.bipush 111, 2) := by decide +kernel
theorem dX11_stepLine_14 : decode cX11_stepLine 14 = .ok (.if_icmp .eq 20, 3) := by decide +kernel
theorem dX11_stepLine_17 : decode cX11_stepLine 17 = .ok (.iload_n 2, 1) := by decide +kernel
theorem dX11_stepLine_18 : decode cX11_stepLine 18 = .ok (.bipush 117, 2) := by decide +kernel
theorem dX11_stepLine_20 : decode cX11_stepLine 20 = .ok (.if_icmp .eq 14, 3) := by decide +kernel
theorem dX11_stepLine_23 : decode cX11_stepLine 23 = .ok (.new 171, 3) := by decide +kernel
theorem dX11_stepLine_26 : decode cX11_stepLine 26 = .ok (.dup, 1) := by decide +kernel
theorem dX11_stepLine_27 : decode cX11_stepLine 27 = .ok (.ldc_w 443, 3) := by decide +kernel
theorem dX11_stepLine_30 : decode cX11_stepLine 30 = .ok (.invokespecial 175, 3) := by decide +kernel
theorem dX11_stepLine_33 : decode cX11_stepLine 33 = .ok (.athrow, 1) := by decide +kernel
theorem dX11_stepLine_34 : decode cX11_stepLine 34 = .ok (.aload_n 0, 1) := by decide +kernel
theorem dX11_stepLine_35 : decode cX11_stepLine 35 = .ok (.getfield 44, 3) := by decide +kernel
theorem dX11_stepLine_38 : decode cX11_stepLine 38 = .ok (.iload_n 1, 1) := by decide +kernel
theorem dX11_stepLine_39 : decode cX11_stepLine 39 = .ok (.invokevirtual 275, 3) := by decide +kernel
theorem dX11_stepLine_42 : decode cX11_stepLine 42 = .ok (.astore_n 3, 1) := by decide +kernel
theorem dX11_stepLine_43 : decode cX11_stepLine 43 = .ok (.aload_n 3, 1) := by decide +kernel
theorem dX11_stepLine_44 : decode cX11_stepLine 44 = .ok (.invokevirtual 445, 3) := by decide +kernel
theorem dX11_stepLine_47 : decode cX11_stepLine 47 = .ok (.ifCond .eq 11, 3) := by decide +kernel
theorem dX11_stepLine_50 : decode cX11_stepLine 50 = .ok (.aload_n 0, 1) := by decide +kernel
theorem dX11_stepLine_51 : decode cX11_stepLine 51 = .ok (.iload_n 1, 1) := by decide +kernel
theorem dX11_stepLine_52 : decode cX11_stepLine 52 = .ok (.invokevirtual 292, 3) := by decide +kernel
theorem dX11_stepLine_55 : decode cX11_stepLine 55 = .ok (.ifCond .eq 14, 3) := by decide +kernel
theorem dX11_stepLine_58 : decode cX11_stepLine 58 = .ok (.new 156, 3) := by decide +kernel
theorem dX11_stepLine_61 : decode cX11_stepLine 61 = .ok (.dup, 1) := by decide +kernel
theorem dX11_stepLine_62 : decode cX11_stepLine 62 = .ok (.ldc_w 448, 3) := by decide +kernel
theorem dX11_stepLine_65 : decode cX11_stepLine 65 = .ok (.invokespecial 160, 3) := by decide +kernel
theorem dX11_stepLine_68 : decode cX11_stepLine 68 = .ok (.athrow, 1) := by decide +kernel
theorem dX11_stepLine_69 : decode cX11_stepLine 69 = .ok (.aload_n 0, 1) := by decide +kernel
theorem dX11_stepLine_70 : decode cX11_stepLine 70 = .ok (.getfield 65, 3) := by decide +kernel
theorem dX11_stepLine_73 : decode cX11_stepLine 73 = .ok (.aload_n 3, 1) := by decide +kernel
theorem dX11_stepLine_74 : decode cX11_stepLine 74 = .ok (.invokevirtual 309, 3) := by decide +kernel
theorem dX11_stepLine_77 : decode cX11_stepLine 77 = .ok (.iload_n 2, 1) := by decide +kernel
theorem dX11_stepLine_78 : decode cX11_stepLine 78 = .ok (.bipush 117, 2) := by decide +kernel
theorem dX11_stepLine_80 : decode cX11_stepLine 80 = .ok (.if_icmp .ne 13, 3) := by decide +kernel
theorem dX11_stepLine_83 : decode cX11_stepLine 83 = .ok (.aload_n 0, 1) := by decide +kernel
theorem dX11_stepLine_84 : decode cX11_stepLine 84 = .ok (.getfield 65, 3) := by decide +kernel
theorem dX11_stepLine_87 : decode cX11_stepLine 87 = .ok (.invokevirtual 450, 3) := by decide +kernel
theorem dX11_stepLine_90 : decode cX11_stepLine 90 = .ok (.goto 10, 3) := by decide +kernel
theorem dX11_stepLine_93 : decode cX11_stepLine 93 = .ok (.aload_n 0, 1) := by decide +kernel
theorem dX11_stepLine_94 : decode cX11_stepLine 94 = .ok (.getfield 65, 3) := by decide +kernel
theorem dX11_stepLine_97 : decode cX11_stepLine 97 = .ok (.getfield 453, 3) := by decide +kernel
theorem dX11_stepLine_100 : decode cX11_stepLine 100 = .ok (.istore 4, 2) := by decide +kernel
theorem dX11_stepLine_102 : decode cX11_stepLine 102 = .ok (.aload_n 0, 1) := by decide +kernel
theorem dX11_stepLine_103 : decode cX11_stepLine 103 = .ok (.getfield 10, 3) := by decide +kernel
theorem dX11_stepLine_106 : decode cX11_stepLine 106 = .ok (.aload_n 3, 1) := by decide +kernel
theorem dX11_stepLine_107 : decode cX11_stepLine 107 = .ok (.getfield 456, 3) := by decide +kernel
theorem dX11_stepLine_110 : decode cX11_stepLine 110 = .ok (.invokevirtual 457, 3) := by decide +kernel
theorem dX11_stepLine_113 : decode cX11_stepLine 113 = .ok (.lstore 5, 2) := by decide +kernel
theorem dX11_stepLine_115 : decode cX11_stepLine 115 = .ok (.aload_n 0, 1) := by decide +kernel
theorem dX11_stepLine_116 : decode cX11_stepLine 116 = .ok (.bipush 110, 2) := by decide +kernel
theorem dX11_stepLine_118 : decode cX11_stepLine 118 = .ok (.iconst (-1), 1) := by decide +kernel
theorem dX11_stepLine_119 : decode cX11_stepLine 119 = .ok (.invokevirtual 427, 3) := by decide +kernel
theorem dX11_stepLine_122 : decode cX11_stepLine 122 = .ok (.iconst 0, 1) := by decide +kernel
theorem dX11_stepLine_123 : decode cX11_stepLine 123 = .ok (.istore 7, 2) := by decide +kernel
theorem dX11_stepLine_125 : decode cX11_stepLine 125 = .ok (.iload 7, 2) := by decide +kernel
theorem dX11_stepLine_127 : decode cX11_stepLine 127 = .ok (.sipush 200, 3) := by decide +kernel
theorem dX11_stepLine_130 : decode cX11_stepLine 130 = .ok (.if_icmp .ge 74, 3) := by decide +kernel
theorem dX11_stepLine_133 : decode cX11_stepLine 133 = .ok (.aload_n 0, 1) := by decide +kernel
theorem dX11_stepLine_134 : decode cX11_stepLine 134 = .ok (.iload_n 1, 1) := by decide +kernel
theorem dX11_stepLine_135 : decode cX11_stepLine 135 = .ok (.invokevirtual 434, 3) := by decide +kernel
theorem dX11_stepLine_138 : decode cX11_stepLine 138 = .ok (.ifCond .eq 6, 3) := by decide +kernel
theorem dX11_stepLine_141 : decode cX11_stepLine 141 = .ok (.iload 7, 2) := by decide +kernel
theorem dX11_stepLine_143 : decode cX11_stepLine 143 = .ok (.ireturn, 1) := by decide +kernel
theorem dX11_stepLine_144 : decode cX11_stepLine 144 = .ok (.aload_n 0, 1) := by decide +kernel
theorem dX11_stepLine_145 : decode cX11_stepLine 145 = .ok (.iload_n 1, 1) := by decide +kernel
theorem dX11_stepLine_146 : decode cX11_stepLine 146 = .ok (.invokevirtual 437, 3) := by decide +kernel
theorem dX11_stepLine_149 : decode cX11_stepLine 149 = .ok (.aload_n 0, 1) := by decide +kernel
theorem dX11_stepLine_150 : decode cX11_stepLine 150 = .ok (.invokevirtual 440, 3) := by decide +kernel
theorem dX11_stepLine_153 : decode cX11_stepLine 153 = .ok (.ifCond .eq 8, 3) := by decide +kernel
theorem dX11_stepLine_156 : decode cX11_stepLine 156 = .ok (.iload 7, 2) := by decide +kernel
theorem dX11_stepLine_158 : decode cX11_stepLine 158 = .ok (.iconst 1, 1) := by decide +kernel
theorem dX11_stepLine_159 : decode cX11_stepLine 159 = .ok (.iadd, 1) := by decide +kernel
theorem dX11_stepLine_160 : decode cX11_stepLine 160 = .ok (.ireturn, 1) := by decide +kernel
theorem dX11_stepLine_161 : decode cX11_stepLine 161 = .ok (.aload_n 3, 1) := by decide +kernel
theorem dX11_stepLine_162 : decode cX11_stepLine 162 = .ok (.invokevirtual 445, 3) := by decide +kernel
theorem dX11_stepLine_165 : decode cX11_stepLine 165 = .ok (.ifCond .ne 15, 3) := by decide +kernel
theorem dX11_stepLine_168 : decode cX11_stepLine 168 = .ok (.aload_n 0, 1) := by decide +kernel
theorem dX11_stepLine_169 : decode cX11_stepLine 169 = .ok (.bipush 100, 2) := by decide +kernel
theorem dX11_stepLine_171 : decode cX11_stepLine 171 = .ok (.iconst (-1), 1) := by decide +kernel
theorem dX11_stepLine_172 : decode cX11_stepLine 172 = .ok (.invokevirtual 427, 3) := by decide +kernel
theorem dX11_stepLine_175 : decode cX11_stepLine 175 = .ok (.iload 7, 2) := by decide +kernel
theorem dX11_stepLine_177 : decode cX11_stepLine 177 = .ok (.iconst 1, 1) := by decide +kernel
theorem dX11_stepLine_178 : decode cX11_stepLine 178 = .ok (.iadd, 1) := by decide +kernel
theorem dX11_stepLine_179 : decode cX11_stepLine 179 = .ok (.ireturn, 1) := by decide +kernel
theorem dX11_stepLine_180 : decode cX11_stepLine 180 = .ok (.aload_n 0, 1) := by decide +kernel
theorem dX11_stepLine_181 : decode cX11_stepLine 181 = .ok (.aload_n 3, 1) := by decide +kernel
theorem dX11_stepLine_182 : decode cX11_stepLine 182 = .ok (.iload_n 2, 1) := by decide +kernel
theorem dX11_stepLine_183 : decode cX11_stepLine 183 = .ok (.iload 4, 2) := by decide +kernel
theorem dX11_stepLine_185 : decode cX11_stepLine 185 = .ok (.lload 5, 2) := by decide +kernel
theorem dX11_stepLine_187 : decode cX11_stepLine 187 = .ok (.invokevirtual 460, 3) := by decide +kernel
theorem dX11_stepLine_190 : decode cX11_stepLine 190 = .ok (.ifCond .eq 8, 3) := by decide +kernel
theorem dX11_stepLine_193 : decode cX11_stepLine 193 = .ok (.iload 7, 2) := by decide +kernel
theorem dX11_stepLine_195 : decode cX11_stepLine 195 = .ok (.iconst 1, 1) := by decide +kernel
theorem dX11_stepLine_196 : decode cX11_stepLine 196 = .ok (.iadd, 1) := by decide +kernel
theorem dX11_stepLine_197 : decode cX11_stepLine 197 = .ok (.ireturn, 1) := by decide +kernel
theorem dX11_stepLine_198 : decode cX11_stepLine 198 = .ok (.iinc 7 1, 3) := by decide +kernel
theorem dX11_stepLine_201 : decode cX11_stepLine 201 = .ok (.goto (-76), 3) := by decide +kernel
theorem dX11_stepLine_204 : decode cX11_stepLine 204 = .ok (.sipush 200, 3) := by decide +kernel
theorem dX11_stepLine_207 : decode cX11_stepLine 207 = .ok (.ireturn, 1) := by decide +kernel
theorem dX11_set_0 : decode cX11_set 0 = .ok (.aload_n 0, 1) := by decide +kernel
theorem dX11_set_1 : decode cX11_set 1 = .ok (.iload_n 1, 1) := by decide +kernel
theorem dX11_set_2 : decode cX11_set 2 = .ok (.iload_n 2, 1) := by decide +kernel
theorem dX11_set_3 : decode cX11_set 3 = .ok (.iload_n 3, 1) := by decide +kernel
theorem dX11_set_4 : decode cX11_set 4 = .ok (.iload 4, 2) := by decide +kernel
theorem dX11_set_6 : decode cX11_set 6 = .ok (.invokevirtual 347, 3) := by decide +kernel
theorem dX11_set_9 : decode cX11_set 9 = .ok (.aload_n 0, 1) := by decide +kernel
theorem dX11_set_10 : decode cX11_set 10 = .ok (.getfield 79, 3) := by decide +kernel
theorem dX11_set_13 : decode cX11_set 13 = .ok (.getfield 477, 3) := by decide +kernel
theorem dX11_set_16 : decode cX11_set 16 = .ok (.bipush 35, 2) := by decide +kernel
theorem dX11_set_18 : decode cX11_set 18 = .ok (.if_icmp .ne 14, 3) := by decide +kernel
theorem dX11_set_21 : decode cX11_set 21 = .ok (.new 156, 3) := by decide +kernel
theorem dX11_set_24 : decode cX11_set 24 = .ok (.dup, 1) := by decide +kernel
theorem dX11_set_25 : decode cX11_set 25 = .ok (.ldc_w 480, 3) := by decide +kernel
theorem dX11_set_28 : decode cX11_set 28 = .ok (.invokespecial 160, 3) := by decide +kernel
theorem dX11_set_31 : decode cX11_set 31 = .ok (.athrow, 1) := by decide +kernel
theorem dX11_set_32 : decode cX11_set 32 = .ok (.aload_n 0, 1) := by decide +kernel
theorem dX11_set_33 : decode cX11_set 33 = .ok (.getfield 79, 3) := by decide +kernel
theorem dX11_set_36 : decode cX11_set 36 = .ok (.aload_n 0, 1) := by decide +kernel
theorem dX11_set_37 : decode cX11_set 37 = .ok (.getfield 44, 3) := by decide +kernel
theorem dX11_set_40 : decode cX11_set 40 = .ok (.iload 4, 2) := by decide +kernel
theorem dX11_set_42 : decode cX11_set 42 = .ok (.invokevirtual 351, 3) := by decide +kernel
theorem dX11_set_45 : decode cX11_set 45 = .ok (.istore 6, 2) := by decide +kernel
theorem dX11_set_47 : decode cX11_set 47 = .ok (.aload_n 0, 1) := by decide +kernel
theorem dX11_set_48 : decode cX11_set 48 = .ok (.getfield 79, 3) := by decide +kernel
theorem dX11_set_51 : decode cX11_set 51 = .ok (.aload_n 0, 1) := by decide +kernel
theorem dX11_set_52 : decode cX11_set 52 = .ok (.getfield 44, 3) := by decide +kernel
theorem dX11_set_55 : decode cX11_set 55 = .ok (.iload 4, 2) := by decide +kernel
theorem dX11_set_57 : decode cX11_set 57 = .ok (.iload 5, 2) := by decide +kernel
theorem dX11_set_59 : decode cX11_set 59 = .ok (.invokevirtual 482, 3) := by decide +kernel
theorem dX11_set_62 : decode cX11_set 62 = .ok (.aload_n 0, 1) := by decide +kernel
theorem dX11_set_63 : decode cX11_set 63 = .ok (.invokevirtual 133, 3) := by decide +kernel
theorem dX11_set_66 : decode cX11_set 66 = .ok (.iload 6, 2) := by decide +kernel
theorem dX11_set_68 : decode cX11_set 68 = .ok (.ireturn, 1) := by decide +kernel
theorem dX11_jump_0 : decode cX11_jump 0 = .ok (.aload_n 0, 1) := by decide +kernel
theorem dX11_jump_1 : decode cX11_jump 1 = .ok (.iload_n 1, 1) := by decide +kernel
theorem dX11_jump_2 : decode cX11_jump 2 = .ok (.invokevirtual 272, 3) := by decide +kernel
theorem dX11_jump_5 : decode cX11_jump 5 = .ok (.aload_n 0, 1) := by decide +kernel
theorem dX11_jump_6 : decode cX11_jump 6 = .ok (.iload_n 2, 1) := by decide +kernel
theorem dX11_jump_7 : decode cX11_jump 7 = .ok (.invokevirtual 121, 3) := by decide +kernel
theorem dX11_jump_10 : decode cX11_jump 10 = .ok (.aload_n 0, 1) := by decide +kernel
theorem dX11_jump_11 : decode cX11_jump 11 = .ok (.getfield 44, 3) := by decide +kernel
theorem dX11_jump_14 : decode cX11_jump 14 = .ok (.iload_n 1, 1) := by decide +kernel
theorem dX11_jump_15 : decode cX11_jump 15 = .ok (.invokevirtual 275, 3) := by decide +kernel
theorem dX11_jump_18 : decode cX11_jump 18 = .ok (.astore_n 3, 1) := by decide +kernel
theorem dX11_jump_19 : decode cX11_jump 19 = .ok (.aload_n 3, 1) := by decide +kernel
theorem dX11_jump_20 : decode cX11_jump 20 = .ok (.invokevirtual 445, 3) := by decide +kernel
theorem dX11_jump_23 : decode cX11_jump 23 = .ok (.ifCond .ne 14, 3) := by decide +kernel
theorem dX11_jump_26 : decode cX11_jump 26 = .ok (.new 156, 3) := by decide +kernel
theorem dX11_jump_29 : decode cX11_jump 29 = .ok (.dup, 1) := by decide +kernel
theorem dX11_jump_30 : decode cX11_jump 30 = .ok (.ldc_w 486, 3) := by decide +kernel
theorem dX11_jump_33 : decode cX11_jump 33 = .ok (.invokespecial 160, 3) := by decide +kernel
theorem dX11_jump_36 : decode cX11_jump 36 = .ok (.athrow, 1) := by decide +kernel
theorem dX11_jump_37 : decode cX11_jump 37 = .ok (.aload_n 3, 1) := by decide +kernel
theorem dX11_jump_38 : decode cX11_jump 38 = .ok (.getfield 456, 3) := by decide +kernel
theorem dX11_jump_41 : decode cX11_jump 41 = .ok (.istore 4, 2) := by decide +kernel
theorem dX11_jump_43 : decode cX11_jump 43 = .ok (.aload_n 3, 1) := by decide +kernel
theorem dX11_jump_44 : decode cX11_jump 44 = .ok (.iload_n 2, 1) := by decide +kernel
theorem dX11_jump_45 : decode cX11_jump 45 = .ok (.putfield 456, 3) := by decide +kernel
theorem dX11_jump_48 : decode cX11_jump 48 = .ok (.aload_n 0, 1) := by decide +kernel
theorem dX11_jump_49 : decode cX11_jump 49 = .ok (.invokevirtual 133, 3) := by decide +kernel
theorem dX11_jump_52 : decode cX11_jump 52 = .ok (.iload 4, 2) := by decide +kernel
theorem dX11_jump_54 : decode cX11_jump 54 = .ok (.ireturn, 1) := by decide +kernel
theorem dX11_call_0 : decode cX11_call 0 = .ok (.aload_n 0, 1) := by decide +kernel
theorem dX11_call_1 : decode cX11_call 1 = .ok (.iload_n 1, 1) := by decide +kernel
theorem dX11_call_2 : decode cX11_call 2 = .ok (.invokevirtual 272, 3) := by decide +kernel
theorem dX11_call_5 : decode cX11_call 5 = .ok (.aload_n 0, 1) := by decide +kernel
theorem dX11_call_6 : decode cX11_call 6 = .ok (.iload_n 2, 1) := by decide +kernel
theorem dX11_call_7 : decode cX11_call 7 = .ok (.invokevirtual 192, 3) := by decide +kernel
theorem dX11_call_10 : decode cX11_call 10 = .ok (.aload_n 0, 1) := by decide +kernel
theorem dX11_call_11 : decode cX11_call 11 = .ok (.getfield 44, 3) := by decide +kernel
theorem dX11_call_14 : decode cX11_call 14 = .ok (.iload_n 1, 1) := by decide +kernel
theorem dX11_call_15 : decode cX11_call 15 = .ok (.invokevirtual 275, 3) := by decide +kernel
theorem dX11_call_18 : decode cX11_call 18 = .ok (.invokevirtual 445, 3) := by decide +kernel
theorem dX11_call_21 : decode cX11_call 21 = .ok (.ifCond .ne 14, 3) := by decide +kernel
theorem dX11_call_24 : decode cX11_call 24 = .ok (.new 156, 3) := by decide +kernel
theorem dX11_call_27 : decode cX11_call 27 = .ok (.dup, 1) := by decide +kernel
theorem dX11_call_28 : decode cX11_call 28 = .ok (.ldc_w 486, 3) := by decide +kernel
theorem dX11_call_31 : decode cX11_call 31 = .ok (.invokespecial 160, 3) := by decide +kernel
theorem dX11_call_34 : decode cX11_call 34 = .ok (.athrow, 1) := by decide +kernel
theorem dX11_call_35 : decode cX11_call 35 = .ok (.aload_n 0, 1) := by decide +kernel
theorem dX11_call_36 : decode cX11_call 36 = .ok (.getfield 48, 3) := by decide +kernel
theorem dX11_call_39 : decode cX11_call 39 = .ok (.aload_n 0, 1) := by decide +kernel
theorem dX11_call_40 : decode cX11_call 40 = .ok (.getfield 44, 3) := by decide +kernel
theorem dX11_call_43 : decode cX11_call 43 = .ok (.invokevirtual 488, 3) := by decide +kernel
theorem dX11_call_46 : decode cX11_call 46 = .ok (.aload_n 0, 1) := by decide +kernel
theorem dX11_call_47 : decode cX11_call 47 = .ok (.iload_n 1, 1) := by decide +kernel
theorem dX11_call_48 : decode cX11_call 48 = .ok (.iload_n 2, 1) := by decide +kernel
theorem dX11_call_49 : decode cX11_call 49 = .ok (.iload_n 3, 1) := by decide +kernel
theorem dX11_call_50 : decode cX11_call 50 = .ok (.invokevirtual 491, 3) := by decide +kernel
theorem dX11_call_53 : decode cX11_call 53 = .ok (.ifCond .ne 14, 3) := by decide +kernel
theorem dX11_call_56 : decode cX11_call 56 = .ok (.new 156, 3) := by decide +kernel
theorem dX11_call_59 : decode cX11_call 59 = .ok (.dup, 1) := by decide +kernel
theorem dX11_call_60 : decode cX11_call 60 = .ok (.ldc_w 495, 3) := by decide +kernel
theorem dX11_call_63 : decode cX11_call 63 = .ok (.invokespecial 160, 3) := by decide +kernel
theorem dX11_call_66 : decode cX11_call 66 = .ok (.athrow, 1) := by decide +kernel
theorem dX11_call_67 : decode cX11_call 67 = .ok (.aload_n 0, 1) := by decide +kernel
theorem dX11_call_68 : decode cX11_call 68 = .ok (.getfield 48, 3) := by decide +kernel
theorem dX11_call_71 : decode cX11_call 71 = .ok (.iload_n 1, 1) := by decide +kernel
theorem dX11_call_72 : decode cX11_call 72 = .ok (.invokevirtual 275, 3) := by decide +kernel
theorem dX11_call_75 : decode cX11_call 75 = .ok (.iconst 0, 1) := by decide +kernel
theorem dX11_call_76 : decode cX11_call 76 = .ok (.invokevirtual 297, 3) := by decide +kernel
theorem dX11_call_79 : decode cX11_call 79 = .ok (.istore 4, 2) := by decide +kernel
theorem dX11_call_81 : decode cX11_call 81 = .ok (.aload_n 0, 1) := by decide +kernel
theorem dX11_call_82 : decode cX11_call 82 = .ok (.getfield 48, 3) := by decide +kernel
theorem dX11_call_85 : decode cX11_call 85 = .ok (.iload_n 1, 1) := by decide +kernel
theorem dX11_call_86 : decode cX11_call 86 = .ok (.invokevirtual 275, 3) := by decide +kernel
theorem dX11_call_89 : decode cX11_call 89 = .ok (.aload_n 0, 1) := by decide +kernel
theorem dX11_call_90 : decode cX11_call 90 = .ok (.getfield 44, 3) := by decide +kernel
theorem dX11_call_93 : decode cX11_call 93 = .ok (.iload_n 1, 1) := by decide +kernel
theorem dX11_call_94 : decode cX11_call 94 = .ok (.invokevirtual 275, 3) := by decide +kernel
theorem dX11_call_97 : decode cX11_call 97 = .ok (.invokevirtual 497, 3) := by decide +kernel
theorem dX11_call_100 : decode cX11_call 100 = .ok (.aload_n 0, 1) := by decide +kernel
theorem dX11_call_101 : decode cX11_call 101 = .ok (.getfield 44, 3) := by decide +kernel
theorem dX11_call_104 : decode cX11_call 104 = .ok (.aload_n 0, 1) := by decide +kernel
theorem dX11_call_105 : decode cX11_call 105 = .ok (.getfield 48, 3) := by decide +kernel
theorem dX11_call_108 : decode cX11_call 108 = .ok (.invokevirtual 488, 3) := by decide +kernel
theorem dX11_call_111 : decode cX11_call 111 = .ok (.aload_n 0, 1) := by decide +kernel
theorem dX11_call_112 : decode cX11_call 112 = .ok (.invokevirtual 133, 3) := by decide +kernel
theorem dX11_call_115 : decode cX11_call 115 = .ok (.iload 4, 2) := by decide +kernel
theorem dX11_call_117 : decode cX11_call 117 = .ok (.ireturn, 1) := by decide +kernel
theorem dX11_pass_0 : decode cX11_pass 0 = .ok (.aload_n 0, 1) := by decide +kernel
theorem dX11_pass_1 : decode cX11_pass 1 = .ok (.iload_n 1, 1) := by decide +kernel
theorem dX11_pass_2 : decode cX11_pass 2 = .ok (.invokevirtual 392, 3) := by decide +kernel
theorem dX11_pass_5 : decode cX11_pass 5 = .ok (.iload_n 2, 1) := by decide +kernel
theorem dX11_pass_6 : decode cX11_pass 6 = .ok (.iconst (-1), 1) := by decide +kernel
theorem dX11_pass_7 : decode cX11_pass 7 = .ok (.if_icmp .lt 9, 3) := by decide +kernel
theorem dX11_pass_10 : decode cX11_pass 10 = .ok (.iload_n 2, 1) := by decide +kernel
theorem dX11_pass_11 : decode cX11_pass 11 = .ok (.bipush 99, 2) := by decide +kernel
theorem dX11_pass_13 : decode cX11_pass 13 = .ok (.if_icmp .le 14, 3) := by decide +kernel
theorem dX11_pass_16 : decode cX11_pass 16 = .ok (.new 171, 3) := by decide +kernel
theorem dX11_pass_19 : decode cX11_pass 19 = .ok (.dup, 1) := by decide +kernel
theorem dX11_pass_20 : decode cX11_pass 20 = .ok (.ldc_w 408, 3) := by decide +kernel
theorem dX11_pass_23 : decode cX11_pass 23 = .ok (.invokespecial 175, 3) := by decide +kernel
theorem dX11_pass_26 : decode cX11_pass 26 = .ok (.athrow, 1) := by decide +kernel
theorem dX11_pass_27 : decode cX11_pass 27 = .ok (.aload_n 0, 1) := by decide +kernel
theorem dX11_pass_28 : decode cX11_pass 28 = .ok (.getfield 30, 3) := by decide +kernel
theorem dX11_pass_31 : decode cX11_pass 31 = .ok (.iload_n 1, 1) := by decide +kernel
theorem dX11_pass_32 : decode cX11_pass 32 = .ok (.iload_n 2, 1) := by decide +kernel
theorem dX11_pass_33 : decode cX11_pass 33 = .ok (.invokevirtual 410, 3) := by decide +kernel
theorem dX11_pass_36 : decode cX11_pass 36 = .ok (.aload_n 0, 1) := by decide +kernel
theorem dX11_pass_37 : decode cX11_pass 37 = .ok (.getfield 30, 3) := by decide +kernel
theorem dX11_pass_40 : decode cX11_pass 40 = .ok (.iload_n 1, 1) := by decide +kernel
theorem dX11_pass_41 : decode cX11_pass 41 = .ok (.invokevirtual 405, 3) := by decide +kernel
theorem dX11_pass_44 : decode cX11_pass 44 = .ok (.ireturn, 1) := by decide +kernel
