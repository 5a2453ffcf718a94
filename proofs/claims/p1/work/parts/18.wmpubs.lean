theorem HD_yX15_isLetter : yX15_isLetter.cls ≠ "java/lang/invoke/MethodHandle" ∧ yX15_isLetter.cls ≠ "java/lang/invoke/VarHandle" ∧ (parseMethodDescriptor yX15_isLetter.desc).map (fun d => d.parameters.length) = some 1 := by decide +kernel
theorem K2464 : (Cond.code yX15_isLetter cX15_isLetter 1 (some .boolean)) ∈ ALL := mAC ch_t10 (i := 228) (by decide +kernel) rfl
theorem K2462 : (Cond.methodLink RX15 206 yX15_isLetter) ∈ ALL := mAC ch_t10 (i := 226) (by decide +kernel) rfl
theorem K2463 : (Cond.static yX15_isLetter) ∈ ALL := mAC ch_t10 (i := 227) (by decide +kernel) rfl
theorem GS_RX15_206 : GoodIn ALL (va_wsS RX15 206 yX15_isLetter (Cond.code yX15_isLetter cX15_isLetter 1 (some .boolean) :: ALL)) := gS K2462 K2463 K94 K2464
theorem K2096 : (Cond.fieldLink RX15 63 "UnwindlensModel" "scopes" "Ljava/util/List;") ∈ ALL := mAC ch_t9 (i := 100) (by decide +kernel) rfl
theorem K2097 : (Cond.fieldLink RX15 66 "UnwindlensModel" "variables" "Ljava/util/List;") ∈ ALL := mAC ch_t9 (i := 101) (by decide +kernel) rfl
theorem HD_yX15_isPlace : yX15_isPlace.cls ≠ "java/lang/invoke/MethodHandle" ∧ yX15_isPlace.cls ≠ "java/lang/invoke/VarHandle" ∧ (parseMethodDescriptor yX15_isPlace.desc).map (fun d => d.parameters.length) = some 1 := by decide +kernel
theorem K2308 : (Cond.code yX15_isPlace cX15_isPlace 2 (some .boolean)) ∈ ALL := mAC ch_t10 (i := 72) (by decide +kernel) rfl
theorem K2305 : (Cond.methodLink RX15 164 yX15_isPlace) ∈ ALL := mAC ch_t10 (i := 69) (by decide +kernel) rfl
theorem K2307 : (Cond.instanceMethod yX15_isPlace) ∈ ALL := mAC ch_t10 (i := 71) (by decide +kernel) rfl
theorem K42 : (Cond.selects RX15 yX15_isPlace yX15_isPlace) ∈ ALL := mAC ch_sel (i := 42) (by decide +kernel) rfl
theorem GV_RX15_164 : GoodIn ALL (wsV RX15 164 RX15 yX15_isPlace (Cond.code yX15_isPlace cX15_isPlace 2 (some .boolean) :: ALL)) := gV K2305 K2307 K42 K94 K2308
theorem K2092 : (Cond.fieldLink RX15 48 "UnwindlensModel" "functions" "Ljava/util/List;") ∈ ALL := mAC ch_t9 (i := 96) (by decide +kernel) rfl
theorem HD_yX15_noThread : yX15_noThread.cls ≠ "java/lang/invoke/MethodHandle" ∧ yX15_noThread.cls ≠ "java/lang/invoke/VarHandle" ∧ (parseMethodDescriptor yX15_noThread.desc).map (fun d => d.parameters.length) = some 1 := by decide +kernel
theorem K2517 : (Cond.code yX15_noThread cX15_noThread 2 (some .boolean)) ∈ ALL := mAC ch_t11 (i := 41) (by decide +kernel) rfl
theorem K2514 : (Cond.methodLink RX15 218 yX15_noThread) ∈ ALL := mAC ch_t11 (i := 38) (by decide +kernel) rfl
theorem K2516 : (Cond.instanceMethod yX15_noThread) ∈ ALL := mAC ch_t11 (i := 40) (by decide +kernel) rfl
theorem K49 : (Cond.selects RX15 yX15_noThread yX15_noThread) ∈ ALL := mAC ch_sel (i := 49) (by decide +kernel) rfl
theorem GV_RX15_218 : GoodIn ALL (wsV RX15 218 RX15 yX15_noThread (Cond.code yX15_noThread cX15_noThread 2 (some .boolean) :: ALL)) := gV K2514 K2516 K49 K94 K2517
theorem HD_yX15_noFrame : yX15_noFrame.cls ≠ "java/lang/invoke/MethodHandle" ∧ yX15_noFrame.cls ≠ "java/lang/invoke/VarHandle" ∧ (parseMethodDescriptor yX15_noFrame.desc).map (fun d => d.parameters.length) = some 2 := by decide +kernel
theorem K2569 : (Cond.code yX15_noFrame cX15_noFrame 3 (some .boolean)) ∈ ALL := mAC ch_t11 (i := 93) (by decide +kernel) rfl
theorem K2566 : (Cond.methodLink RX15 296 yX15_noFrame) ∈ ALL := mAC ch_t11 (i := 90) (by decide +kernel) rfl
theorem K2568 : (Cond.instanceMethod yX15_noFrame) ∈ ALL := mAC ch_t11 (i := 92) (by decide +kernel) rfl
theorem K54 : (Cond.selects RX15 yX15_noFrame yX15_noFrame) ∈ ALL := mAC ch_sel (i := 54) (by decide +kernel) rfl
theorem GV_RX15_296 : GoodIn ALL (wsV RX15 296 RX15 yX15_noFrame (Cond.code yX15_noFrame cX15_noFrame 3 (some .boolean) :: ALL)) := gV K2566 K2568 K54 K94 K2569
theorem K2099 : (Cond.fieldLink RX15 74 "UnwindlensModel" "shown" "Ljava/lang/String;") ∈ ALL := mAC ch_t9 (i := 103) (by decide +kernel) rfl
theorem K2622 : (Cond.methodLink RX15 362 yJ0_length_8abf5) ∈ ALL := mAC ch_t11 (i := 146) (by decide +kernel) rfl
theorem GV_RX15_362 : GoodIn ALL (wsV RX15 362 RJ0 yJ0_length_8abf5 (Cond.code yJ0_length_8abf5 cJ0_length_8abf5 1 (some .int) :: ALL)) := gV K2622 K1433 K1434 K92 K1435
theorem HD_yX15_noBreak : yX15_noBreak.cls ≠ "java/lang/invoke/MethodHandle" ∧ yX15_noBreak.cls ≠ "java/lang/invoke/VarHandle" ∧ (parseMethodDescriptor yX15_noBreak.desc).map (fun d => d.parameters.length) = some 1 := by decide +kernel
theorem K2696 : (Cond.code yX15_noBreak cX15_noBreak 2 (some .boolean)) ∈ ALL := mAC ch_t11 (i := 220) (by decide +kernel) rfl
theorem K2693 : (Cond.methodLink RX15 379 yX15_noBreak) ∈ ALL := mAC ch_t11 (i := 217) (by decide +kernel) rfl
theorem K2695 : (Cond.instanceMethod yX15_noBreak) ∈ ALL := mAC ch_t11 (i := 219) (by decide +kernel) rfl
theorem K62 : (Cond.selects RX15 yX15_noBreak yX15_noBreak) ∈ ALL := mAC ch_sel (i := 62) (by decide +kernel) rfl
theorem GV_RX15_379 : GoodIn ALL (wsV RX15 379 RX15 yX15_noBreak (Cond.code yX15_noBreak cX15_noBreak 2 (some .boolean) :: ALL)) := gV K2693 K2695 K62 K94 K2696
theorem K2642 : (Cond.classLink RX15 367 RX12) ∈ ALL := mAC ch_t11 (i := 166) (by decide +kernel) rfl
theorem K2643 : (Cond.instantiable RX12 7) ∈ ALL := mAC ch_t11 (i := 167) (by decide +kernel) rfl
theorem K121 : (Cond.initialized RX12) ∈ ALL := mAC ch_t1 (i := 45) (by decide +kernel) rfl
theorem HD_yX12_init : yX12_init.cls ≠ "java/lang/invoke/MethodHandle" ∧ yX12_init.cls ≠ "java/lang/invoke/VarHandle" ∧ (parseMethodDescriptor yX12_init.desc).map (fun d => d.parameters.length) = some 0 := by decide +kernel
theorem K2646 : (Cond.code yX12_init cX12_init 1 none) ∈ ALL := mAC ch_t11 (i := 170) (by decide +kernel) rfl
theorem GI_K2646 : GoodIn ALL (Cond.code yX12_init cX12_init 1 none :: ALL) := gI K2646
theorem K2644 : (Cond.methodLinkNest RX15 369 yX12_init RX15) ∈ NGS := mNC ch_t11 (i := 168) (by decide +kernel) rfl
theorem K2645 : (Cond.instanceMethod yX12_init) ∈ ALL := mAC ch_t11 (i := 169) (by decide +kernel) rfl
theorem dX15_variable_0 : decode cX15_variable 0 = .ok (.aload_n 0, 1) := by decide +kernel
theorem dX15_variable_1 : decode cX15_variable 1 = .ok (.invokevirtual 124, 3) := by decide +kernel
theorem dX15_variable_4 : decode cX15_variable 4 = .ok (.iload_n 2, 1) := by decide +kernel
theorem dX15_variable_5 : decode cX15_variable 5 = .ok (.invokestatic 206, 3) := by decide +kernel
theorem dX15_variable_8 : decode cX15_variable 8 = .ok (.ifCond .eq 29, 3) := by decide +kernel
theorem dX15_variable_11 : decode cX15_variable 11 = .ok (.ldc 210, 2) := by decide +kernel
theorem dX15_variable_13 : decode cX15_variable 13 = .ok (.iload_n 3, 1) := by decide +kernel
theorem dX15_variable_14 : decode cX15_variable 14 = .ok (.invokevirtual 104, 3) := by decide +kernel
theorem dX15_variable_17 : decode cX15_variable 17 = .ok (.ifCond .lt 20, 3) := by decide +kernel
theorem dX15_variable_20 : decode cX15_variable 20 = .ok (.iload 4, 2) := by decide +kernel
theorem dX15_variable_22 : decode cX15_variable 22 = .ok (.i2l, 1) := by decide +kernel
theorem dX15_variable_23 : decode cX15_variable 23 = .ok (.lconst 1, 1) := by decide +kernel
theorem dX15_variable_24 : decode cX15_variable 24 = .ok (.ldc2_w 122, 3) := by decide +kernel
theorem dX15_variable_27 : decode cX15_variable 27 = .ok (.invokestatic 13, 3) := by decide +kernel
theorem dX15_variable_30 : decode cX15_variable 30 = .ok (.ifCond .eq 7, 3) := by decide +kernel
theorem dX15_variable_33 : decode cX15_variable 33 = .ok (.iconst 1, 1) := by decide +kernel
theorem dX15_variable_34 : decode cX15_variable 34 = .ok (.goto 4, 3) := by decide +kernel
theorem dX15_variable_37 : decode cX15_variable 37 = .ok (.iconst 0, 1) := by decide +kernel
theorem dX15_variable_38 : decode cX15_variable 38 = .ok (.istore 5, 2) := by decide +kernel
theorem dX15_variable_40 : decode cX15_variable 40 = .ok (.aload_n 0, 1) := by decide +kernel
theorem dX15_variable_41 : decode cX15_variable 41 = .ok (.aload_n 0, 1) := by decide +kernel
theorem dX15_variable_42 : decode cX15_variable 42 = .ok (.getfield 63, 3) := by decide +kernel
theorem dX15_variable_45 : decode cX15_variable 45 = .ok (.iload_n 1, 1) := by decide +kernel
theorem dX15_variable_46 : decode cX15_variable 46 = .ok (.invokestatic 94, 3) := by decide +kernel
theorem dX15_variable_49 : decode cX15_variable 49 = .ok (.ifCond .ne 7, 3) := by decide +kernel
theorem dX15_variable_52 : decode cX15_variable 52 = .ok (.iconst 1, 1) := by decide +kernel
theorem dX15_variable_53 : decode cX15_variable 53 = .ok (.goto 4, 3) := by decide +kernel
theorem dX15_variable_56 : decode cX15_variable 56 = .ok (.iconst 0, 1) := by decide +kernel
theorem dX15_variable_57 : decode cX15_variable 57 = .ok (.iconst 1, 1) := by decide +kernel
theorem dX15_variable_58 : decode cX15_variable 58 = .ok (.invokevirtual 98, 3) := by decide +kernel
theorem dX15_variable_61 : decode cX15_variable 61 = .ok (.ifCond .ne 48, 3) := by decide +kernel
theorem dX15_variable_64 : decode cX15_variable 64 = .ok (.aload_n 0, 1) := by decide +kernel
theorem dX15_variable_65 : decode cX15_variable 65 = .ok (.iload 5, 2) := by decide +kernel
theorem dX15_variable_67 : decode cX15_variable 67 = .ok (.ifCond .ne 7, 3) := by decide +kernel
theorem dX15_variable_70 : decode cX15_variable 70 = .ok (.iconst 1, 1) := by decide +kernel
theorem dX15_variable_71 : decode cX15_variable 71 = .ok (.goto 4, 3) := by decide +kernel
theorem dX15_variable_74 : decode cX15_variable 74 = .ok (.iconst 0, 1) := by decide +kernel
theorem dX15_variable_75 : decode cX15_variable 75 = .ok (.iconst 2, 1) := by decide +kernel
theorem dX15_variable_76 : decode cX15_variable 76 = .ok (.invokevirtual 98, 3) := by decide +kernel
theorem dX15_variable_79 : decode cX15_variable 79 = .ok (.ifCond .ne 30, 3) := by decide +kernel
theorem dX15_variable_82 : decode cX15_variable 82 = .ok (.aload_n 0, 1) := by decide +kernel
theorem dX15_variable_83 : decode cX15_variable 83 = .ok (.aload_n 0, 1) := by decide +kernel
theorem dX15_variable_84 : decode cX15_variable 84 = .ok (.getfield 66, 3) := by decide +kernel
theorem dX15_variable_87 : decode cX15_variable 87 = .ok (.invokeinterface 7 1, 5) := by decide +kernel
theorem dX15_variable_92 : decode cX15_variable 92 = .ok (.bipush 20, 2) := by decide +kernel
theorem dX15_variable_94 : decode cX15_variable 94 = .ok (.if_icmp .ne 7, 3) := by decide +kernel
theorem dX15_variable_97 : decode cX15_variable 97 = .ok (.iconst 1, 1) := by decide +kernel
theorem dX15_variable_98 : decode cX15_variable 98 = .ok (.goto 4, 3) := by decide +kernel
theorem dX15_variable_101 : decode cX15_variable 101 = .ok (.iconst 0, 1) := by decide +kernel
theorem dX15_variable_102 : decode cX15_variable 102 = .ok (.iconst 3, 1) := by decide +kernel
theorem dX15_variable_103 : decode cX15_variable 103 = .ok (.invokevirtual 98, 3) := by decide +kernel
theorem dX15_variable_106 : decode cX15_variable 106 = .ok (.ifCond .eq 5, 3) := by decide +kernel
theorem dX15_variable_109 : decode cX15_variable 109 = .ok (.iconst (-1), 1) := by decide +kernel
theorem dX15_variable_110 : decode cX15_variable 110 = .ok (.ireturn, 1) := by decide +kernel
theorem dX15_variable_111 : decode cX15_variable 111 = .ok (.aload_n 0, 1) := by decide +kernel
theorem dX15_variable_112 : decode cX15_variable 112 = .ok (.getfield 66, 3) := by decide +kernel
theorem dX15_variable_115 : decode cX15_variable 115 = .ok (.iconst 4, 1) := by decide +kernel
theorem dX15_variable_116 : decode cX15_variable 116 = .ok (.newarray .int, 2) := by decide +kernel
theorem dX15_variable_118 : decode cX15_variable 118 = .ok (.dup, 1) := by decide +kernel
theorem dX15_variable_119 : decode cX15_variable 119 = .ok (.iconst 0, 1) := by decide +kernel
theorem dX15_variable_120 : decode cX15_variable 120 = .ok (.iload_n 1, 1) := by decide +kernel
theorem dX15_variable_121 : decode cX15_variable 121 = .ok (.iastore, 1) := by decide +kernel
theorem dX15_variable_122 : decode cX15_variable 122 = .ok (.dup, 1) := by decide +kernel
theorem dX15_variable_123 : decode cX15_variable 123 = .ok (.iconst 1, 1) := by decide +kernel
theorem dX15_variable_124 : decode cX15_variable 124 = .ok (.iload_n 2, 1) := by decide +kernel
theorem dX15_variable_125 : decode cX15_variable 125 = .ok (.iastore, 1) := by decide +kernel
theorem dX15_variable_126 : decode cX15_variable 126 = .ok (.dup, 1) := by decide +kernel
theorem dX15_variable_127 : decode cX15_variable 127 = .ok (.iconst 2, 1) := by decide +kernel
theorem dX15_variable_128 : decode cX15_variable 128 = .ok (.iload_n 3, 1) := by decide +kernel
theorem dX15_variable_129 : decode cX15_variable 129 = .ok (.iastore, 1) := by decide +kernel
theorem dX15_variable_130 : decode cX15_variable 130 = .ok (.dup, 1) := by decide +kernel
theorem dX15_variable_131 : decode cX15_variable 131 = .ok (.iconst 3, 1) := by decide +kernel
theorem dX15_variable_132 : decode cX15_variable 132 = .ok (.iload 4, 2) := by decide +kernel
theorem dX15_variable_134 : decode cX15_variable 134 = .ok (.iastore, 1) := by decide +kernel
theorem dX15_variable_135 : decode cX15_variable 135 = .ok (.invokeinterface 131 2, 5) := by decide +kernel
theorem dX15_variable_140 : decode cX15_variable 140 = .ok (.pop, 1) := by decide +kernel
theorem dX15_variable_141 : decode cX15_variable 141 = .ok (.aload_n 0, 1) := by decide +kernel
theorem dX15_variable_142 : decode cX15_variable 142 = .ok (.getfield 66, 3) := by decide +kernel
theorem dX15_variable_145 : decode cX15_variable 145 = .ok (.invokeinterface 7 1, 5) := by decide +kernel
theorem dX15_variable_150 : decode cX15_variable 150 = .ok (.iconst 1, 1) := by decide +kernel
theorem dX15_variable_151 : decode cX15_variable 151 = .ok (.isub, 1) := by decide +kernel
theorem dX15_variable_152 : decode cX15_variable 152 = .ok (.ireturn, 1) := by decide +kernel
theorem dX15_where_0 : decode cX15_where 0 = .ok (.aload_n 0, 1) := by decide +kernel
theorem dX15_where_1 : decode cX15_where 1 = .ok (.invokevirtual 124, 3) := by decide +kernel
theorem dX15_where_4 : decode cX15_where 4 = .ok (.iload 4, 2) := by decide +kernel
theorem dX15_where_6 : decode cX15_where 6 = .ok (.bipush 114, 2) := by decide +kernel
theorem dX15_where_8 : decode cX15_where 8 = .ok (.if_icmp .eq 10, 3) := by decide +kernel
theorem dX15_where_11 : decode cX15_where 11 = .ok (.iload 4, 2) := by decide +kernel
theorem dX15_where_13 : decode cX15_where 13 = .ok (.bipush 115, 2) := by decide +kernel
theorem dX15_where_15 : decode cX15_where 15 = .ok (.if_icmp .ne 16, 3) := by decide +kernel
theorem dX15_where_18 : decode cX15_where 18 = .ok (.iload 5, 2) := by decide +kernel
theorem dX15_where_20 : decode cX15_where 20 = .ok (.i2l, 1) := by decide +kernel
theorem dX15_where_21 : decode cX15_where 21 = .ok (.lconst 0, 1) := by decide +kernel
theorem dX15_where_22 : decode cX15_where 22 = .ok (.ldc2_w 112, 3) := by decide +kernel
theorem dX15_where_25 : decode cX15_where 25 = .ok (.invokestatic 13, 3) := by decide +kernel
theorem dX15_where_28 : decode cX15_where 28 = .ok (.goto 35, 3) := by decide +kernel
theorem dX15_where_31 : decode cX15_where 31 = .ok (.iload 4, 2) := by decide +kernel
theorem dX15_where_33 : decode cX15_where 33 = .ok (.bipush 103, 2) := by decide +kernel
theorem dX15_where_35 : decode cX15_where 35 = .ok (.if_icmp .ne 16, 3) := by decide +kernel
theorem dX15_where_38 : decode cX15_where 38 = .ok (.iload 5, 2) := by decide +kernel
theorem dX15_where_40 : decode cX15_where 40 = .ok (.i2l, 1) := by decide +kernel
theorem dX15_where_41 : decode cX15_where 41 = .ok (.lconst 0, 1) := by decide +kernel
theorem dX15_where_42 : decode cX15_where 42 = .ok (.ldc2_w 116, 3) := by decide +kernel
theorem dX15_where_45 : decode cX15_where 45 = .ok (.invokestatic 13, 3) := by decide +kernel
theorem dX15_where_48 : decode cX15_where 48 = .ok (.goto 15, 3) := by decide +kernel
theorem dX15_where_51 : decode cX15_where 51 = .ok (.iload 4, 2) := by decide +kernel
theorem dX15_where_53 : decode cX15_where 53 = .ok (.bipush 35, 2) := by decide +kernel
theorem dX15_where_55 : decode cX15_where 55 = .ok (.if_icmp .ne 7, 3) := by decide +kernel
theorem dX15_where_58 : decode cX15_where 58 = .ok (.iconst 1, 1) := by decide +kernel
theorem dX15_where_59 : decode cX15_where 59 = .ok (.goto 4, 3) := by decide +kernel
theorem dX15_where_62 : decode cX15_where 62 = .ok (.iconst 0, 1) := by decide +kernel
theorem dX15_where_63 : decode cX15_where 63 = .ok (.istore 6, 2) := by decide +kernel
theorem dX15_where_65 : decode cX15_where 65 = .ok (.aload_n 0, 1) := by decide +kernel
theorem dX15_where_66 : decode cX15_where 66 = .ok (.aload_n 0, 1) := by decide +kernel
theorem dX15_where_67 : decode cX15_where 67 = .ok (.getfield 66, 3) := by decide +kernel
theorem dX15_where_70 : decode cX15_where 70 = .ok (.iload_n 1, 1) := by decide +kernel
theorem dX15_where_71 : decode cX15_where 71 = .ok (.invokestatic 94, 3) := by decide +kernel
theorem dX15_where_74 : decode cX15_where 74 = .ok (.ifCond .eq 19, 3) := by decide +kernel
theorem dX15_where_77 : decode cX15_where 77 = .ok (.aload_n 0, 1) := by decide +kernel
theorem dX15_where_78 : decode cX15_where 78 = .ok (.iload_n 2, 1) := by decide +kernel
theorem dX15_where_79 : decode cX15_where 79 = .ok (.invokevirtual 164, 3) := by decide +kernel
theorem dX15_where_82 : decode cX15_where 82 = .ok (.ifCond .eq 11, 3) := by decide +kernel
theorem dX15_where_85 : decode cX15_where 85 = .ok (.aload_n 0, 1) := by decide +kernel
theorem dX15_where_86 : decode cX15_where 86 = .ok (.iload_n 3, 1) := by decide +kernel
theorem dX15_where_87 : decode cX15_where 87 = .ok (.invokevirtual 164, 3) := by decide +kernel
theorem dX15_where_90 : decode cX15_where 90 = .ok (.ifCond .ne 7, 3) := by decide +kernel
theorem dX15_where_93 : decode cX15_where 93 = .ok (.iconst 1, 1) := by decide +kernel
theorem dX15_where_94 : decode cX15_where 94 = .ok (.goto 4, 3) := by decide +kernel
theorem dX15_where_97 : decode cX15_where 97 = .ok (.iconst 0, 1) := by decide +kernel
theorem dX15_where_98 : decode cX15_where 98 = .ok (.iconst 1, 1) := by decide +kernel
theorem dX15_where_99 : decode cX15_where 99 = .ok (.invokevirtual 98, 3) := by decide +kernel
theorem dX15_where_102 : decode cX15_where 102 = .ok (.ifCond .ne 53, 3) := by decide +kernel
theorem dX15_where_105 : decode cX15_where 105 = .ok (.aload_n 0, 1) := by decide +kernel
theorem dX15_where_106 : decode cX15_where 106 = .ok (.iload_n 3, 1) := by decide +kernel
theorem dX15_where_107 : decode cX15_where 107 = .ok (.iload_n 2, 1) := by decide +kernel
theorem dX15_where_108 : decode cX15_where 108 = .ok (.if_icmp .lt 8, 3) := by decide +kernel
theorem dX15_where_111 : decode cX15_where 111 = .ok (.iload 6, 2) := by decide +kernel
theorem dX15_where_113 : decode cX15_where 113 = .ok (.ifCond .ne 7, 3) := by decide +kernel
theorem dX15_where_116 : decode cX15_where 116 = .ok (.iconst 1, 1) := by decide +kernel
theorem dX15_where_117 : decode cX15_where 117 = .ok (.goto 4, 3) := by decide +kernel
theorem dX15_where_120 : decode cX15_where 120 = .ok (.iconst 0, 1) := by decide +kernel
theorem dX15_where_121 : decode cX15_where 121 = .ok (.iconst 2, 1) := by decide +kernel
theorem dX15_where_122 : decode cX15_where 122 = .ok (.invokevirtual 98, 3) := by decide +kernel
theorem dX15_where_125 : decode cX15_where 125 = .ok (.ifCond .ne 30, 3) := by decide +kernel
theorem dX15_where_128 : decode cX15_where 128 = .ok (.aload_n 0, 1) := by decide +kernel
theorem dX15_where_129 : decode cX15_where 129 = .ok (.aload_n 0, 1) := by decide +kernel
theorem dX15_where_130 : decode cX15_where 130 = .ok (.getfield 69, 3) := by decide +kernel
theorem dX15_where_133 : decode cX15_where 133 = .ok (.invokeinterface 7 1, 5) := by decide +kernel
theorem dX15_where_138 : decode cX15_where 138 = .ok (.bipush 24, 2) := by decide +kernel
theorem dX15_where_140 : decode cX15_where 140 = .ok (.if_icmp .ne 7, 3) := by decide +kernel
theorem dX15_where_143 : decode cX15_where 143 = .ok (.iconst 1, 1) := by decide +kernel
theorem dX15_where_144 : decode cX15_where 144 = .ok (.goto 4, 3) := by decide +kernel
theorem dX15_where_147 : decode cX15_where 147 = .ok (.iconst 0, 1) := by decide +kernel
theorem dX15_where_148 : decode cX15_where 148 = .ok (.iconst 3, 1) := by decide +kernel
theorem dX15_where_149 : decode cX15_where 149 = .ok (.invokevirtual 98, 3) := by decide +kernel
theorem dX15_where_152 : decode cX15_where 152 = .ok (.ifCond .eq 5, 3) := by decide +kernel
theorem dX15_where_155 : decode cX15_where 155 = .ok (.iconst (-1), 1) := by decide +kernel
theorem dX15_where_156 : decode cX15_where 156 = .ok (.ireturn, 1) := by decide +kernel
theorem dX15_where_157 : decode cX15_where 157 = .ok (.aload_n 0, 1) := by decide +kernel
theorem dX15_where_158 : decode cX15_where 158 = .ok (.getfield 69, 3) := by decide +kernel
theorem dX15_where_161 : decode cX15_where 161 = .ok (.iconst 5, 1) := by decide +kernel
theorem dX15_where_162 : decode cX15_where 162 = .ok (.newarray .int, 2) := by decide +kernel
theorem dX15_where_164 : decode cX15_where 164 = .ok (.dup, 1) := by decide +kernel
theorem dX15_where_165 : decode cX15_where 165 = .ok (.iconst 0, 1) := by decide +kernel
theorem dX15_where_166 : decode cX15_where 166 = .ok (.iload_n 1, 1) := by decide +kernel
theorem dX15_where_167 : decode cX15_where 167 = .ok (.iastore, 1) := by decide +kernel
theorem dX15_where_168 : decode cX15_where 168 = .ok (.dup, 1) := by decide +kernel
theorem dX15_where_169 : decode cX15_where 169 = .ok (.iconst 1, 1) := by decide +kernel
theorem dX15_where_170 : decode cX15_where 170 = .ok (.iload_n 2, 1) := by decide +kernel
theorem dX15_where_171 : decode cX15_where 171 = .ok (.iastore, 1) := by decide +kernel
theorem dX15_where_172 : decode cX15_where 172 = .ok (.dup, 1) := by decide +kernel
theorem dX15_where_173 : decode cX15_where 173 = .ok (.iconst 2, 1) := by decide +kernel
theorem dX15_where_174 : decode cX15_where 174 = .ok (.iload_n 3, 1) := by decide +kernel
theorem dX15_where_175 : decode cX15_where 175 = .ok (.iastore, 1) := by decide +kernel
theorem dX15_where_176 : decode cX15_where 176 = .ok (.dup, 1) := by decide +kernel
theorem dX15_where_177 : decode cX15_where 177 = .ok (.iconst 3, 1) := by decide +kernel
theorem dX15_where_178 : decode cX15_where 178 = .ok (.iload 4, 2) := by decide +kernel
theorem dX15_where_180 : decode cX15_where 180 = .ok (.iastore, 1) := by decide +kernel
theorem dX15_where_181 : decode cX15_where 181 = .ok (.dup, 1) := by decide +kernel
theorem dX15_where_182 : decode cX15_where 182 = .ok (.iconst 4, 1) := by decide +kernel
theorem dX15_where_183 : decode cX15_where 183 = .ok (.iload 5, 2) := by decide +kernel
theorem dX15_where_185 : decode cX15_where 185 = .ok (.iastore, 1) := by decide +kernel
theorem dX15_where_186 : decode cX15_where 186 = .ok (.invokeinterface 131 2, 5) := by decide +kernel
theorem dX15_where_191 : decode cX15_where 191 = .ok (.pop, 1) := by decide +kernel
theorem dX15_where_192 : decode cX15_where 192 = .ok (.aload_n 0, 1) := by decide +kernel
theorem dX15_where_193 : decode cX15_where 193 = .ok (.getfield 69, 3) := by decide +kernel
theorem dX15_where_196 : decode cX15_where 196 = .ok (.invokeinterface 7 1, 5) := by decide +kernel
theorem dX15_where_201 : decode cX15_where 201 = .ok (.ireturn, 1) := by decide +kernel
theorem dX15_patch_0 : decode cX15_patch 0 = .ok (.aload_n 0, 1) := by decide +kernel
theorem dX15_patch_1 : decode cX15_patch 1 = .ok (.invokevirtual 124, 3) := by decide +kernel
theorem dX15_patch_4 : decode cX15_patch 4 = .ok (.aload_n 0, 1) := by decide +kernel
theorem dX15_patch_5 : decode cX15_patch 5 = .ok (.aload_n 0, 1) := by decide +kernel
theorem dX15_patch_6 : decode cX15_patch 6 = .ok (.iload_n 1, 1) := by decide +kernel
theorem dX15_patch_7 : decode cX15_patch 7 = .ok (.invokevirtual 164, 3) := by decide +kernel
theorem dX15_patch_10 : decode cX15_patch 10 = .ok (.ifCond .ne 7, 3) := by decide +kernel
theorem dX15_patch_13 : decode cX15_patch 13 = .ok (.iconst 1, 1) := by decide +kernel
theorem dX15_patch_14 : decode cX15_patch 14 = .ok (.goto 4, 3) := by decide +kernel
theorem dX15_patch_17 : decode cX15_patch 17 = .ok (.iconst 0, 1) := by decide +kernel
theorem dX15_patch_18 : decode cX15_patch 18 = .ok (.iconst 1, 1) := by decide +kernel
theorem dX15_patch_19 : decode cX15_patch 19 = .ok (.invokevirtual 98, 3) := by decide +kernel
theorem dX15_patch_22 : decode cX15_patch 22 = .ok (.ifCond .ne 26, 3) := by decide +kernel
theorem dX15_patch_25 : decode cX15_patch 25 = .ok (.aload_n 0, 1) := by decide +kernel
theorem dX15_patch_26 : decode cX15_patch 26 = .ok (.iload_n 2, 1) := by decide +kernel
theorem dX15_patch_27 : decode cX15_patch 27 = .ok (.iload_n 3, 1) := by decide +kernel
theorem dX15_patch_28 : decode cX15_patch 28 = .ok (.iload 4, 2) := by decide +kernel
theorem dX15_patch_30 : decode cX15_patch 30 = .ok (.invokestatic 127, 3) := by decide +kernel
theorem dX15_patch_33 : decode cX15_patch 33 = .ok (.ifCond .ne 7, 3) := by decide +kernel
theorem dX15_patch_36 : decode cX15_patch 36 = .ok (.iconst 1, 1) := by decide +kernel
theorem dX15_patch_37 : decode cX15_patch 37 = .ok (.goto 4, 3) := by decide +kernel
theorem dX15_patch_40 : decode cX15_patch 40 = .ok (.iconst 0, 1) := by decide +kernel
theorem dX15_patch_41 : decode cX15_patch 41 = .ok (.iconst 2, 1) := by decide +kernel
theorem dX15_patch_42 : decode cX15_patch 42 = .ok (.invokevirtual 98, 3) := by decide +kernel
theorem dX15_patch_45 : decode cX15_patch 45 = .ok (.ifCond .eq 6, 3) := by decide +kernel
theorem dX15_patch_48 : decode cX15_patch 48 = .ok (.bipush 32, 2) := by decide +kernel
theorem dX15_patch_50 : decode cX15_patch 50 = .ok (.ireturn, 1) := by decide +kernel
theorem dX15_patch_51 : decode cX15_patch 51 = .ok (.aload_n 0, 1) := by decide +kernel
theorem dX15_patch_52 : decode cX15_patch 52 = .ok (.getfield 37, 3) := by decide +kernel
theorem dX15_patch_55 : decode cX15_patch 55 = .ok (.iload_n 1, 1) := by decide +kernel
theorem dX15_patch_56 : decode cX15_patch 56 = .ok (.invokeinterface 168 2, 5) := by decide +kernel
theorem dX15_patch_61 : decode cX15_patch 61 = .ok (.checkcast 152, 3) := by decide +kernel
theorem dX15_patch_64 : decode cX15_patch 64 = .ok (.iconst 0, 1) := by decide +kernel
theorem dX15_patch_65 : decode cX15_patch 65 = .ok (.iaload, 1) := by decide +kernel
theorem dX15_patch_66 : decode cX15_patch 66 = .ok (.i2c, 1) := by decide +kernel
theorem dX15_patch_67 : decode cX15_patch 67 = .ok (.istore 5, 2) := by decide +kernel
theorem dX15_patch_69 : decode cX15_patch 69 = .ok (.aload_n 0, 1) := by decide +kernel
theorem dX15_patch_70 : decode cX15_patch 70 = .ok (.getfield 37, 3) := by decide +kernel
theorem dX15_patch_73 : decode cX15_patch 73 = .ok (.iload_n 1, 1) := by decide +kernel
theorem dX15_patch_74 : decode cX15_patch 74 = .ok (.iconst 3, 1) := by decide +kernel
theorem dX15_patch_75 : decode cX15_patch 75 = .ok (.newarray .int, 2) := by decide +kernel
theorem dX15_patch_77 : decode cX15_patch 77 = .ok (.dup, 1) := by decide +kernel
theorem dX15_patch_78 : decode cX15_patch 78 = .ok (.iconst 0, 1) := by decide +kernel
theorem dX15_patch_79 : decode cX15_patch 79 = .ok (.iload_n 2, 1) := by decide +kernel
theorem dX15_patch_80 : decode cX15_patch 80 = .ok (.iastore, 1) := by decide +kernel
theorem dX15_patch_81 : decode cX15_patch 81 = .ok (.dup, 1) := by decide +kernel
theorem dX15_patch_82 : decode cX15_patch 82 = .ok (.iconst 1, 1) := by decide +kernel
theorem dX15_patch_83 : decode cX15_patch 83 = .ok (.iload_n 3, 1) := by decide +kernel
theorem dX15_patch_84 : decode cX15_patch 84 = .ok (.iastore, 1) := by decide +kernel
theorem dX15_patch_85 : decode cX15_patch 85 = .ok (.dup, 1) := by decide +kernel
theorem dX15_patch_86 : decode cX15_patch 86 = .ok (.iconst 2, 1) := by decide +kernel
theorem dX15_patch_87 : decode cX15_patch 87 = .ok (.iload 4, 2) := by decide +kernel
theorem dX15_patch_89 : decode cX15_patch 89 = .ok (.iastore, 1) := by decide +kernel
theorem dX15_patch_90 : decode cX15_patch 90 = .ok (.invokeinterface 172 3, 5) := by decide +kernel
theorem dX15_patch_95 : decode cX15_patch 95 = .ok (.pop, 1) := by decide +kernel
theorem dX15_patch_96 : decode cX15_patch 96 = .ok (.aload_n 0, 1) := by decide +kernel
theorem dX15_patch_97 : decode cX15_patch 97 = .ok (.invokevirtual 176, 3) := by decide +kernel
theorem dX15_patch_100 : decode cX15_patch 100 = .ok (.iload 5, 2) := by decide +kernel
theorem dX15_patch_102 : decode cX15_patch 102 = .ok (.ireturn, 1) := by decide +kernel
theorem dX15_function_0 : decode cX15_function 0 = .ok (.aload_n 0, 1) := by decide +kernel
theorem dX15_function_1 : decode cX15_function 1 = .ok (.invokevirtual 124, 3) := by decide +kernel
theorem dX15_function_4 : decode cX15_function 4 = .ok (.aload_n 0, 1) := by decide +kernel
theorem dX15_function_5 : decode cX15_function 5 = .ok (.aload_n 0, 1) := by decide +kernel
theorem dX15_function_6 : decode cX15_function 6 = .ok (.iload_n 1, 1) := by decide +kernel
theorem dX15_function_7 : decode cX15_function 7 = .ok (.invokevirtual 164, 3) := by decide +kernel
theorem dX15_function_10 : decode cX15_function 10 = .ok (.ifCond .eq 11, 3) := by decide +kernel
theorem dX15_function_13 : decode cX15_function 13 = .ok (.aload_n 0, 1) := by decide +kernel
theorem dX15_function_14 : decode cX15_function 14 = .ok (.iload_n 2, 1) := by decide +kernel
theorem dX15_function_15 : decode cX15_function 15 = .ok (.invokevirtual 164, 3) := by decide +kernel
theorem dX15_function_18 : decode cX15_function 18 = .ok (.ifCond .ne 7, 3) := by decide +kernel
theorem dX15_function_21 : decode cX15_function 21 = .ok (.iconst 1, 1) := by decide +kernel
theorem dX15_function_22 : decode cX15_function 22 = .ok (.goto 4, 3) := by decide +kernel
theorem dX15_function_25 : decode cX15_function 25 = .ok (.iconst 0, 1) := by decide +kernel
theorem dX15_function_26 : decode cX15_function 26 = .ok (.iconst 1, 1) := by decide +kernel
theorem dX15_function_27 : decode cX15_function 27 = .ok (.invokevirtual 98, 3) := by decide +kernel
theorem dX15_function_30 : decode cX15_function 30 = .ok (.ifCond .ne 21, 3) := by decide +kernel
theorem dX15_function_33 : decode cX15_function 33 = .ok (.aload_n 0, 1) := by decide +kernel
theorem dX15_function_34 : decode cX15_function 34 = .ok (.iload_n 2, 1) := by decide +kernel
theorem dX15_function_35 : decode cX15_function 35 = .ok (.iload_n 1, 1) := by decide +kernel
theorem dX15_function_36 : decode cX15_function 36 = .ok (.if_icmp .ge 7, 3) := by decide +kernel
theorem dX15_function_39 : decode cX15_function 39 = .ok (.iconst 1, 1) := by decide +kernel
theorem dX15_function_40 : decode cX15_function 40 = .ok (.goto 4, 3) := by decide +kernel
theorem dX15_function_43 : decode cX15_function 43 = .ok (.iconst 0, 1) := by decide +kernel
theorem dX15_function_44 : decode cX15_function 44 = .ok (.iconst 2, 1) := by decide +kernel
theorem dX15_function_45 : decode cX15_function 45 = .ok (.invokevirtual 98, 3) := by decide +kernel
theorem dX15_function_48 : decode cX15_function 48 = .ok (.ifCond .eq 5, 3) := by decide +kernel
theorem dX15_function_51 : decode cX15_function 51 = .ok (.iconst (-1), 1) := by decide +kernel
theorem dX15_function_52 : decode cX15_function 52 = .ok (.ireturn, 1) := by decide +kernel
theorem dX15_function_53 : decode cX15_function 53 = .ok (.iconst 2, 1) := by decide +kernel
theorem dX15_function_54 : decode cX15_function 54 = .ok (.newarray .int, 2) := by decide +kernel
theorem dX15_function_56 : decode cX15_function 56 = .ok (.dup, 1) := by decide +kernel
theorem dX15_function_57 : decode cX15_function 57 = .ok (.iconst 0, 1) := by decide +kernel
theorem dX15_function_58 : decode cX15_function 58 = .ok (.iload_n 1, 1) := by decide +kernel
theorem dX15_function_59 : decode cX15_function 59 = .ok (.iastore, 1) := by decide +kernel
theorem dX15_function_60 : decode cX15_function 60 = .ok (.dup, 1) := by decide +kernel
theorem dX15_function_61 : decode cX15_function 61 = .ok (.iconst 1, 1) := by decide +kernel
theorem dX15_function_62 : decode cX15_function 62 = .ok (.iload_n 2, 1) := by decide +kernel
theorem dX15_function_63 : decode cX15_function 63 = .ok (.iastore, 1) := by decide +kernel
theorem dX15_function_64 : decode cX15_function 64 = .ok (.astore_n 3, 1) := by decide +kernel
theorem dX15_function_65 : decode cX15_function 65 = .ok (.iconst 1, 1) := by decide +kernel
theorem dX15_function_66 : decode cX15_function 66 = .ok (.istore 4, 2) := by decide +kernel
theorem dX15_function_68 : decode cX15_function 68 = .ok (.aload_n 0, 1) := by decide +kernel
theorem dX15_function_69 : decode cX15_function 69 = .ok (.getfield 48, 3) := by decide +kernel
theorem dX15_function_72 : decode cX15_function 72 = .ok (.invokeinterface 138 1, 5) := by decide +kernel
theorem dX15_function_77 : decode cX15_function 77 = .ok (.astore 5, 2) := by decide +kernel
theorem dX15_function_79 : decode cX15_function 79 = .ok (.aload 5, 2) := by decide +kernel
theorem dX15_function_81 : decode cX15_function 81 = .ok (.invokeinterface 142 1, 5) := by decide +kernel
theorem dX15_function_86 : decode cX15_function 86 = .ok (.ifCond .eq 39, 3) := by decide +kernel
theorem dX15_function_89 : decode cX15_function 89 = .ok (.aload 5, 2) := by decide +kernel
theorem dX15_function_91 : decode cX15_function 91 = .ok (.invokeinterface 148 1, 5) := by decide +kernel
theorem dX15_function_96 : decode cX15_function 96 = .ok (.checkcast 152, 3) := by decide +kernel
theorem dX15_function_99 : decode cX15_function 99 = .ok (.astore 6, 2) := by decide +kernel
theorem dX15_function_101 : decode cX15_function 101 = .ok (.iload 4, 2) := by decide +kernel
theorem dX15_function_103 : decode cX15_function 103 = .ok (.ifCond .eq 16, 3) := by decide +kernel
theorem dX15_function_106 : decode cX15_function 106 = .ok (.aload 6, 2) := by decide +kernel
theorem dX15_function_108 : decode cX15_function 108 = .ok (.aload_n 3, 1) := by decide +kernel
theorem dX15_function_109 : decode cX15_function 109 = .ok (.invokestatic 179, 3) := by decide +kernel
theorem dX15_function_112 : decode cX15_function 112 = .ok (.ifCond .eq 7, 3) := by decide +kernel
theorem dX15_function_115 : decode cX15_function 115 = .ok (.iconst 1, 1) := by decide +kernel
theorem dX15_function_116 : decode cX15_function 116 = .ok (.goto 4, 3) := by decide +kernel
theorem dX15_function_119 : decode cX15_function 119 = .ok (.iconst 0, 1) := by decide +kernel
theorem dX15_function_120 : decode cX15_function 120 = .ok (.istore 4, 2) := by decide +kernel
theorem dX15_function_122 : decode cX15_function 122 = .ok (.goto (-43), 3) := by decide +kernel
theorem dX15_function_125 : decode cX15_function 125 = .ok (.aload_n 0, 1) := by decide +kernel
theorem dX15_function_126 : decode cX15_function 126 = .ok (.getfield 60, 3) := by decide +kernel
theorem dX15_function_129 : decode cX15_function 129 = .ok (.invokeinterface 138 1, 5) := by decide +kernel
theorem dX15_function_134 : decode cX15_function 134 = .ok (.astore 5, 2) := by decide +kernel
theorem dX15_function_136 : decode cX15_function 136 = .ok (.aload 5, 2) := by decide +kernel
theorem dX15_function_138 : decode cX15_function 138 = .ok (.invokeinterface 142 1, 5) := by decide +kernel
theorem dX15_function_143 : decode cX15_function 143 = .ok (.ifCond .eq 48, 3) := by decide +kernel
theorem dX15_function_146 : decode cX15_function 146 = .ok (.aload 5, 2) := by decide +kernel
theorem dX15_function_148 : decode cX15_function 148 = .ok (.invokeinterface 148 1, 5) := by decide +kernel
theorem dX15_function_153 : decode cX15_function 153 = .ok (.checkcast 152, 3) := by decide +kernel
theorem dX15_function_156 : decode cX15_function 156 = .ok (.astore 6, 2) := by decide +kernel
theorem dX15_function_158 : decode cX15_function 158 = .ok (.iload 4, 2) := by decide +kernel
theorem dX15_function_160 : decode cX15_function 160 = .ok (.ifCond .eq 25, 3) := by decide +kernel
theorem dX15_function_163 : decode cX15_function 163 = .ok (.aload 6, 2) := by decide +kernel
theorem dX15_function_165 : decode cX15_function 165 = .ok (.aload_n 3, 1) := by decide +kernel
theorem dX15_function_166 : decode cX15_function 166 = .ok (.invokestatic 179, 3) := by decide +kernel
theorem dX15_function_169 : decode cX15_function 169 = .ok (.ifCond .ne 12, 3) := by decide +kernel
theorem dX15_function_172 : decode cX15_function 172 = .ok (.aload 6, 2) := by decide +kernel
theorem dX15_function_174 : decode cX15_function 174 = .ok (.aload_n 3, 1) := by decide +kernel
theorem dX15_function_175 : decode cX15_function 175 = .ok (.invokestatic 183, 3) := by decide +kernel
theorem dX15_function_178 : decode cX15_function 178 = .ok (.ifCond .eq 7, 3) := by decide +kernel
theorem dX15_function_181 : decode cX15_function 181 = .ok (.iconst 1, 1) := by decide +kernel
theorem dX15_function_182 : decode cX15_function 182 = .ok (.goto 4, 3) := by decide +kernel
theorem dX15_function_185 : decode cX15_function 185 = .ok (.iconst 0, 1) := by decide +kernel
theorem dX15_function_186 : decode cX15_function 186 = .ok (.istore 4, 2) := by decide +kernel
theorem dX15_function_188 : decode cX15_function 188 = .ok (.goto (-52), 3) := by decide +kernel
theorem dX15_function_191 : decode cX15_function 191 = .ok (.aload_n 0, 1) := by decide +kernel
theorem dX15_function_192 : decode cX15_function 192 = .ok (.iload 4, 2) := by decide +kernel
theorem dX15_function_194 : decode cX15_function 194 = .ok (.ifCond .ne 7, 3) := by decide +kernel
theorem dX15_function_197 : decode cX15_function 197 = .ok (.iconst 1, 1) := by decide +kernel
theorem dX15_function_198 : decode cX15_function 198 = .ok (.goto 4, 3) := by decide +kernel
theorem dX15_function_201 : decode cX15_function 201 = .ok (.iconst 0, 1) := by decide +kernel
theorem dX15_function_202 : decode cX15_function 202 = .ok (.iconst 3, 1) := by decide +kernel
theorem dX15_function_203 : decode cX15_function 203 = .ok (.invokevirtual 98, 3) := by decide +kernel
theorem dX15_function_206 : decode cX15_function 206 = .ok (.ifCond .ne 30, 3) := by decide +kernel
theorem dX15_function_209 : decode cX15_function 209 = .ok (.aload_n 0, 1) := by decide +kernel
theorem dX15_function_210 : decode cX15_function 210 = .ok (.aload_n 0, 1) := by decide +kernel
theorem dX15_function_211 : decode cX15_function 211 = .ok (.getfield 48, 3) := by decide +kernel
theorem dX15_function_214 : decode cX15_function 214 = .ok (.invokeinterface 7 1, 5) := by decide +kernel
theorem dX15_function_219 : decode cX15_function 219 = .ok (.bipush 6, 2) := by decide +kernel
theorem dX15_function_221 : decode cX15_function 221 = .ok (.if_icmp .ne 7, 3) := by decide +kernel
theorem dX15_function_224 : decode cX15_function 224 = .ok (.iconst 1, 1) := by decide +kernel
theorem dX15_function_225 : decode cX15_function 225 = .ok (.goto 4, 3) := by decide +kernel
theorem dX15_function_228 : decode cX15_function 228 = .ok (.iconst 0, 1) := by decide +kernel
theorem dX15_function_229 : decode cX15_function 229 = .ok (.iconst 4, 1) := by decide +kernel
theorem dX15_function_230 : decode cX15_function 230 = .ok (.invokevirtual 98, 3) := by decide +kernel
theorem dX15_function_233 : decode cX15_function 233 = .ok (.ifCond .eq 5, 3) := by decide +kernel
theorem dX15_function_236 : decode cX15_function 236 = .ok (.iconst (-1), 1) := by decide +kernel
theorem dX15_function_237 : decode cX15_function 237 = .ok (.ireturn, 1) := by decide +kernel
theorem dX15_function_238 : decode cX15_function 238 = .ok (.aload_n 0, 1) := by decide +kernel
theorem dX15_function_239 : decode cX15_function 239 = .ok (.getfield 48, 3) := by decide +kernel
theorem dX15_function_242 : decode cX15_function 242 = .ok (.aload_n 3, 1) := by decide +kernel
theorem dX15_function_243 : decode cX15_function 243 = .ok (.invokeinterface 131 2, 5) := by decide +kernel
theorem dX15_function_248 : decode cX15_function 248 = .ok (.pop, 1) := by decide +kernel
theorem dX15_function_249 : decode cX15_function 249 = .ok (.aload_n 0, 1) := by decide +kernel
theorem dX15_function_250 : decode cX15_function 250 = .ok (.getfield 33, 3) := by decide +kernel
theorem dX15_function_253 : decode cX15_function 253 = .ok (.invokeinterface 135 1, 5) := by decide +kernel
theorem dX15_function_258 : decode cX15_function 258 = .ok (.aload_n 0, 1) := by decide +kernel
theorem dX15_function_259 : decode cX15_function 259 = .ok (.getfield 48, 3) := by decide +kernel
theorem dX15_function_262 : decode cX15_function 262 = .ok (.invokeinterface 7 1, 5) := by decide +kernel
theorem dX15_function_267 : decode cX15_function 267 = .ok (.iconst 1, 1) := by decide +kernel
theorem dX15_function_268 : decode cX15_function 268 = .ok (.isub, 1) := by decide +kernel
theorem dX15_function_269 : decode cX15_function 269 = .ok (.ireturn, 1) := by decide +kernel
theorem dX15_line_0 : decode cX15_line 0 = .ok (.aload_n 0, 1) := by decide +kernel
theorem dX15_line_1 : decode cX15_line 1 = .ok (.invokevirtual 124, 3) := by decide +kernel
theorem dX15_line_4 : decode cX15_line 4 = .ok (.aload_n 0, 1) := by decide +kernel
theorem dX15_line_5 : decode cX15_line 5 = .ok (.aload_n 0, 1) := by decide +kernel
theorem dX15_line_6 : decode cX15_line 6 = .ok (.iload_n 1, 1) := by decide +kernel
theorem dX15_line_7 : decode cX15_line 7 = .ok (.invokevirtual 164, 3) := by decide +kernel
theorem dX15_line_10 : decode cX15_line 10 = .ok (.ifCond .ne 7, 3) := by decide +kernel
theorem dX15_line_13 : decode cX15_line 13 = .ok (.iconst 1, 1) := by decide +kernel
theorem dX15_line_14 : decode cX15_line 14 = .ok (.goto 4, 3) := by decide +kernel
theorem dX15_line_17 : decode cX15_line 17 = .ok (.iconst 0, 1) := by decide +kernel
theorem dX15_line_18 : decode cX15_line 18 = .ok (.iconst 1, 1) := by decide +kernel
theorem dX15_line_19 : decode cX15_line 19 = .ok (.invokevirtual 98, 3) := by decide +kernel
theorem dX15_line_22 : decode cX15_line 22 = .ok (.ifCond .ne 30, 3) := by decide +kernel
theorem dX15_line_25 : decode cX15_line 25 = .ok (.aload_n 0, 1) := by decide +kernel
theorem dX15_line_26 : decode cX15_line 26 = .ok (.iload_n 2, 1) := by decide +kernel
theorem dX15_line_27 : decode cX15_line 27 = .ok (.i2l, 1) := by decide +kernel
theorem dX15_line_28 : decode cX15_line 28 = .ok (.ldc2_w 186, 3) := by decide +kernel
theorem dX15_line_31 : decode cX15_line 31 = .ok (.ldc2_w 188, 3) := by decide +kernel
theorem dX15_line_34 : decode cX15_line 34 = .ok (.invokestatic 13, 3) := by decide +kernel
theorem dX15_line_37 : decode cX15_line 37 = .ok (.ifCond .ne 7, 3) := by decide +kernel
theorem dX15_line_40 : decode cX15_line 40 = .ok (.iconst 1, 1) := by decide +kernel
theorem dX15_line_41 : decode cX15_line 41 = .ok (.goto 4, 3) := by decide +kernel
theorem dX15_line_44 : decode cX15_line 44 = .ok (.iconst 0, 1) := by decide +kernel
theorem dX15_line_45 : decode cX15_line 45 = .ok (.iconst 2, 1) := by decide +kernel
theorem dX15_line_46 : decode cX15_line 46 = .ok (.invokevirtual 98, 3) := by decide +kernel
theorem dX15_line_49 : decode cX15_line 49 = .ok (.ifCond .eq 5, 3) := by decide +kernel
theorem dX15_line_52 : decode cX15_line 52 = .ok (.iconst (-1), 1) := by decide +kernel
theorem dX15_line_53 : decode cX15_line 53 = .ok (.ireturn, 1) := by decide +kernel
theorem dX15_line_54 : decode cX15_line 54 = .ok (.aload_n 0, 1) := by decide +kernel
theorem dX15_line_55 : decode cX15_line 55 = .ok (.getfield 40, 3) := by decide +kernel
theorem dX15_line_58 : decode cX15_line 58 = .ok (.iload_n 1, 1) := by decide +kernel
theorem dX15_line_59 : decode cX15_line 59 = .ok (.iaload, 1) := by decide +kernel
theorem dX15_line_60 : decode cX15_line 60 = .ok (.istore_n 3, 1) := by decide +kernel
theorem dX15_line_61 : decode cX15_line 61 = .ok (.aload_n 0, 1) := by decide +kernel
theorem dX15_line_62 : decode cX15_line 62 = .ok (.getfield 40, 3) := by decide +kernel
theorem dX15_line_65 : decode cX15_line 65 = .ok (.iload_n 1, 1) := by decide +kernel
theorem dX15_line_66 : decode cX15_line 66 = .ok (.iload_n 2, 1) := by decide +kernel
theorem dX15_line_67 : decode cX15_line 67 = .ok (.iastore, 1) := by decide +kernel
theorem dX15_line_68 : decode cX15_line 68 = .ok (.iload_n 3, 1) := by decide +kernel
theorem dX15_line_69 : decode cX15_line 69 = .ok (.ireturn, 1) := by decide +kernel
theorem dX15_rule_0 : decode cX15_rule 0 = .ok (.aload_n 0, 1) := by decide +kernel
theorem dX15_rule_1 : decode cX15_rule 1 = .ok (.invokevirtual 124, 3) := by decide +kernel
theorem dX15_rule_4 : decode cX15_rule 4 = .ok (.aload_n 0, 1) := by decide +kernel
theorem dX15_rule_5 : decode cX15_rule 5 = .ok (.aload_n 0, 1) := by decide +kernel
theorem dX15_rule_6 : decode cX15_rule 6 = .ok (.iload_n 1, 1) := by decide +kernel
theorem dX15_rule_7 : decode cX15_rule 7 = .ok (.invokevirtual 164, 3) := by decide +kernel
theorem dX15_rule_10 : decode cX15_rule 10 = .ok (.ifCond .ne 7, 3) := by decide +kernel
theorem dX15_rule_13 : decode cX15_rule 13 = .ok (.iconst 1, 1) := by decide +kernel
theorem dX15_rule_14 : decode cX15_rule 14 = .ok (.goto 4, 3) := by decide +kernel
theorem dX15_rule_17 : decode cX15_rule 17 = .ok (.iconst 0, 1) := by decide +kernel
theorem dX15_rule_18 : decode cX15_rule 18 = .ok (.iconst 1, 1) := by decide +kernel
theorem dX15_rule_19 : decode cX15_rule 19 = .ok (.invokevirtual 98, 3) := by decide +kernel
theorem dX15_rule_22 : decode cX15_rule 22 = .ok (.ifCond .ne 25, 3) := by decide +kernel
theorem dX15_rule_25 : decode cX15_rule 25 = .ok (.aload_n 0, 1) := by decide +kernel
theorem dX15_rule_26 : decode cX15_rule 26 = .ok (.ldc 193, 2) := by decide +kernel
theorem dX15_rule_28 : decode cX15_rule 28 = .ok (.iload_n 2, 1) := by decide +kernel
theorem dX15_rule_29 : decode cX15_rule 29 = .ok (.invokevirtual 104, 3) := by decide +kernel
theorem dX15_rule_32 : decode cX15_rule 32 = .ok (.ifCond .ge 7, 3) := by decide +kernel
theorem dX15_rule_35 : decode cX15_rule 35 = .ok (.iconst 1, 1) := by decide +kernel
theorem dX15_rule_36 : decode cX15_rule 36 = .ok (.goto 4, 3) := by decide +kernel
theorem dX15_rule_39 : decode cX15_rule 39 = .ok (.iconst 0, 1) := by decide +kernel
theorem dX15_rule_40 : decode cX15_rule 40 = .ok (.iconst 2, 1) := by decide +kernel
theorem dX15_rule_41 : decode cX15_rule 41 = .ok (.invokevirtual 98, 3) := by decide +kernel
theorem dX15_rule_44 : decode cX15_rule 44 = .ok (.ifCond .eq 6, 3) := by decide +kernel
theorem dX15_rule_47 : decode cX15_rule 47 = .ok (.bipush 32, 2) := by decide +kernel
theorem dX15_rule_49 : decode cX15_rule 49 = .ok (.ireturn, 1) := by decide +kernel
theorem dX15_rule_50 : decode cX15_rule 50 = .ok (.aload_n 0, 1) := by decide +kernel
theorem dX15_rule_51 : decode cX15_rule 51 = .ok (.iload_n 1, 1) := by decide +kernel
theorem dX15_rule_52 : decode cX15_rule 52 = .ok (.invokevirtual 195, 3) := by decide +kernel
theorem dX15_rule_55 : decode cX15_rule 55 = .ok (.istore_n 3, 1) := by decide +kernel
theorem dX15_rule_56 : decode cX15_rule 56 = .ok (.aload_n 0, 1) := by decide +kernel
theorem dX15_rule_57 : decode cX15_rule 57 = .ok (.getfield 44, 3) := by decide +kernel
theorem dX15_rule_60 : decode cX15_rule 60 = .ok (.iload_n 1, 1) := by decide +kernel
theorem dX15_rule_61 : decode cX15_rule 61 = .ok (.iload_n 2, 1) := by decide +kernel
theorem dX15_rule_62 : decode cX15_rule 62 = .ok (.castore, 1) := by decide +kernel
theorem dX15_rule_63 : decode cX15_rule 63 = .ok (.iload_n 3, 1) := by decide +kernel
theorem dX15_rule_64 : decode cX15_rule 64 = .ok (.ireturn, 1) := by decide +kernel
theorem dX15_inlined_0 : decode cX15_inlined 0 = .ok (.aload_n 0, 1) := by decide +kernel
theorem dX15_inlined_1 : decode cX15_inlined 1 = .ok (.invokevirtual 124, 3) := by decide +kernel
theorem dX15_inlined_4 : decode cX15_inlined 4 = .ok (.aload_n 0, 1) := by decide +kernel
theorem dX15_inlined_5 : decode cX15_inlined 5 = .ok (.aload_n 0, 1) := by decide +kernel
theorem dX15_inlined_6 : decode cX15_inlined 6 = .ok (.iload_n 1, 1) := by decide +kernel
theorem dX15_inlined_7 : decode cX15_inlined 7 = .ok (.invokevirtual 164, 3) := by decide +kernel
theorem dX15_inlined_10 : decode cX15_inlined 10 = .ok (.ifCond .eq 22, 3) := by decide +kernel
theorem dX15_inlined_13 : decode cX15_inlined 13 = .ok (.aload_n 0, 1) := by decide +kernel
theorem dX15_inlined_14 : decode cX15_inlined 14 = .ok (.iload_n 2, 1) := by decide +kernel
theorem dX15_inlined_15 : decode cX15_inlined 15 = .ok (.invokevirtual 164, 3) := by decide +kernel
theorem dX15_inlined_18 : decode cX15_inlined 18 = .ok (.ifCond .eq 14, 3) := by decide +kernel
theorem dX15_inlined_21 : decode cX15_inlined 21 = .ok (.aload_n 0, 1) := by decide +kernel
theorem dX15_inlined_22 : decode cX15_inlined 22 = .ok (.getfield 48, 3) := by decide +kernel
theorem dX15_inlined_25 : decode cX15_inlined 25 = .ok (.iload_n 3, 1) := by decide +kernel
theorem dX15_inlined_26 : decode cX15_inlined 26 = .ok (.invokestatic 94, 3) := by decide +kernel
theorem dX15_inlined_29 : decode cX15_inlined 29 = .ok (.ifCond .ne 7, 3) := by decide +kernel
theorem dX15_inlined_32 : decode cX15_inlined 32 = .ok (.iconst 1, 1) := by decide +kernel
theorem dX15_inlined_33 : decode cX15_inlined 33 = .ok (.goto 4, 3) := by decide +kernel
theorem dX15_inlined_36 : decode cX15_inlined 36 = .ok (.iconst 0, 1) := by decide +kernel
theorem dX15_inlined_37 : decode cX15_inlined 37 = .ok (.iconst 1, 1) := by decide +kernel
theorem dX15_inlined_38 : decode cX15_inlined 38 = .ok (.invokevirtual 98, 3) := by decide +kernel
theorem dX15_inlined_41 : decode cX15_inlined 41 = .ok (.ifCond .ne 34, 3) := by decide +kernel
theorem dX15_inlined_44 : decode cX15_inlined 44 = .ok (.aload_n 0, 1) := by decide +kernel
theorem dX15_inlined_45 : decode cX15_inlined 45 = .ok (.iload_n 2, 1) := by decide +kernel
theorem dX15_inlined_46 : decode cX15_inlined 46 = .ok (.iload_n 1, 1) := by decide +kernel
theorem dX15_inlined_47 : decode cX15_inlined 47 = .ok (.if_icmp .lt 16, 3) := by decide +kernel
theorem dX15_inlined_50 : decode cX15_inlined 50 = .ok (.iload 4, 2) := by decide +kernel
theorem dX15_inlined_52 : decode cX15_inlined 52 = .ok (.i2l, 1) := by decide +kernel
theorem dX15_inlined_53 : decode cX15_inlined 53 = .ok (.lconst 0, 1) := by decide +kernel
theorem dX15_inlined_54 : decode cX15_inlined 54 = .ok (.ldc2_w 188, 3) := by decide +kernel
theorem dX15_inlined_57 : decode cX15_inlined 57 = .ok (.invokestatic 13, 3) := by decide +kernel
theorem dX15_inlined_60 : decode cX15_inlined 60 = .ok (.ifCond .ne 7, 3) := by decide +kernel
theorem dX15_inlined_63 : decode cX15_inlined 63 = .ok (.iconst 1, 1) := by decide +kernel
theorem dX15_inlined_64 : decode cX15_inlined 64 = .ok (.goto 4, 3) := by decide +kernel
theorem dX15_inlined_67 : decode cX15_inlined 67 = .ok (.iconst 0, 1) := by decide +kernel
theorem dX15_inlined_68 : decode cX15_inlined 68 = .ok (.iconst 2, 1) := by decide +kernel
theorem dX15_inlined_69 : decode cX15_inlined 69 = .ok (.invokevirtual 98, 3) := by decide +kernel
theorem dX15_inlined_72 : decode cX15_inlined 72 = .ok (.ifCond .eq 5, 3) := by decide +kernel
theorem dX15_inlined_75 : decode cX15_inlined 75 = .ok (.iconst (-1), 1) := by decide +kernel
theorem dX15_inlined_76 : decode cX15_inlined 76 = .ok (.ireturn, 1) := by decide +kernel
theorem dX15_inlined_77 : decode cX15_inlined 77 = .ok (.iconst 4, 1) := by decide +kernel
theorem dX15_inlined_78 : decode cX15_inlined 78 = .ok (.newarray .int, 2) := by decide +kernel
theorem dX15_inlined_80 : decode cX15_inlined 80 = .ok (.dup, 1) := by decide +kernel
theorem dX15_inlined_81 : decode cX15_inlined 81 = .ok (.iconst 0, 1) := by decide +kernel
theorem dX15_inlined_82 : decode cX15_inlined 82 = .ok (.iload_n 1, 1) := by decide +kernel
theorem dX15_inlined_83 : decode cX15_inlined 83 = .ok (.iastore, 1) := by decide +kernel
theorem dX15_inlined_84 : decode cX15_inlined 84 = .ok (.dup, 1) := by decide +kernel
theorem dX15_inlined_85 : decode cX15_inlined 85 = .ok (.iconst 1, 1) := by decide +kernel
theorem dX15_inlined_86 : decode cX15_inlined 86 = .ok (.iload_n 2, 1) := by decide +kernel
theorem dX15_inlined_87 : decode cX15_inlined 87 = .ok (.iastore, 1) := by decide +kernel
theorem dX15_inlined_88 : decode cX15_inlined 88 = .ok (.dup, 1) := by decide +kernel
theorem dX15_inlined_89 : decode cX15_inlined 89 = .ok (.iconst 2, 1) := by decide +kernel
theorem dX15_inlined_90 : decode cX15_inlined 90 = .ok (.iload_n 3, 1) := by decide +kernel
theorem dX15_inlined_91 : decode cX15_inlined 91 = .ok (.iastore, 1) := by decide +kernel
theorem dX15_inlined_92 : decode cX15_inlined 92 = .ok (.dup, 1) := by decide +kernel
theorem dX15_inlined_93 : decode cX15_inlined 93 = .ok (.iconst 3, 1) := by decide +kernel
theorem dX15_inlined_94 : decode cX15_inlined 94 = .ok (.iload 4, 2) := by decide +kernel
theorem dX15_inlined_96 : decode cX15_inlined 96 = .ok (.iastore, 1) := by decide +kernel
theorem dX15_inlined_97 : decode cX15_inlined 97 = .ok (.astore 5, 2) := by decide +kernel
theorem dX15_inlined_99 : decode cX15_inlined 99 = .ok (.iconst 1, 1) := by decide +kernel
theorem dX15_inlined_100 : decode cX15_inlined 100 = .ok (.istore 6, 2) := by decide +kernel
theorem dX15_inlined_102 : decode cX15_inlined 102 = .ok (.aload_n 0, 1) := by decide +kernel
theorem dX15_inlined_103 : decode cX15_inlined 103 = .ok (.getfield 48, 3) := by decide +kernel
theorem dX15_inlined_106 : decode cX15_inlined 106 = .ok (.invokeinterface 138 1, 5) := by decide +kernel
theorem dX15_inlined_111 : decode cX15_inlined 111 = .ok (.astore 7, 2) := by decide +kernel
theorem dX15_inlined_113 : decode cX15_inlined 113 = .ok (.aload 7, 2) := by decide +kernel
theorem dX15_inlined_115 : decode cX15_inlined 115 = .ok (.invokeinterface 142 1, 5) := by decide +kernel
theorem dX15_inlined_120 : decode cX15_inlined 120 = .ok (.ifCond .eq 50, 3) := by decide +kernel
theorem dX15_inlined_123 : decode cX15_inlined 123 = .ok (.aload 7, 2) := by decide +kernel
theorem dX15_inlined_125 : decode cX15_inlined 125 = .ok (.invokeinterface 148 1, 5) := by decide +kernel
theorem dX15_inlined_130 : decode cX15_inlined 130 = .ok (.checkcast 152, 3) := by decide +kernel
theorem dX15_inlined_133 : decode cX15_inlined 133 = .ok (.astore 8, 2) := by decide +kernel
theorem dX15_inlined_135 : decode cX15_inlined 135 = .ok (.iload 6, 2) := by decide +kernel
theorem dX15_inlined_137 : decode cX15_inlined 137 = .ok (.ifCond .eq 27, 3) := by decide +kernel
theorem dX15_inlined_140 : decode cX15_inlined 140 = .ok (.aload 8, 2) := by decide +kernel
theorem dX15_inlined_142 : decode cX15_inlined 142 = .ok (.aload 5, 2) := by decide +kernel
theorem dX15_inlined_144 : decode cX15_inlined 144 = .ok (.invokestatic 179, 3) := by decide +kernel
theorem dX15_inlined_147 : decode cX15_inlined 147 = .ok (.ifCond .ne 13, 3) := by decide +kernel
theorem dX15_inlined_150 : decode cX15_inlined 150 = .ok (.aload 5, 2) := by decide +kernel
theorem dX15_inlined_152 : decode cX15_inlined 152 = .ok (.aload 8, 2) := by decide +kernel
theorem dX15_inlined_154 : decode cX15_inlined 154 = .ok (.invokestatic 183, 3) := by decide +kernel
theorem dX15_inlined_157 : decode cX15_inlined 157 = .ok (.ifCond .eq 7, 3) := by decide +kernel
theorem dX15_inlined_160 : decode cX15_inlined 160 = .ok (.iconst 1, 1) := by decide +kernel
theorem dX15_inlined_161 : decode cX15_inlined 161 = .ok (.goto 4, 3) := by decide +kernel
theorem dX15_inlined_164 : decode cX15_inlined 164 = .ok (.iconst 0, 1) := by decide +kernel
theorem dX15_inlined_165 : decode cX15_inlined 165 = .ok (.istore 6, 2) := by decide +kernel
theorem dX15_inlined_167 : decode cX15_inlined 167 = .ok (.goto (-54), 3) := by decide +kernel
theorem dX15_inlined_170 : decode cX15_inlined 170 = .ok (.aload_n 0, 1) := by decide +kernel
theorem dX15_inlined_171 : decode cX15_inlined 171 = .ok (.getfield 60, 3) := by decide +kernel
theorem dX15_inlined_174 : decode cX15_inlined 174 = .ok (.invokeinterface 138 1, 5) := by decide +kernel
theorem dX15_inlined_179 : decode cX15_inlined 179 = .ok (.astore 7, 2) := by decide +kernel
theorem dX15_inlined_181 : decode cX15_inlined 181 = .ok (.aload 7, 2) := by decide +kernel
theorem dX15_inlined_183 : decode cX15_inlined 183 = .ok (.invokeinterface 142 1, 5) := by decide +kernel
theorem dX15_inlined_188 : decode cX15_inlined 188 = .ok (.ifCond .eq 60, 3) := by decide +kernel
theorem dX15_inlined_191 : decode cX15_inlined 191 = .ok (.aload 7, 2) := by decide +kernel
theorem dX15_inlined_193 : decode cX15_inlined 193 = .ok (.invokeinterface 148 1, 5) := by decide +kernel
theorem dX15_inlined_198 : decode cX15_inlined 198 = .ok (.checkcast 152, 3) := by decide +kernel
theorem dX15_inlined_201 : decode cX15_inlined 201 = .ok (.astore 8, 2) := by decide +kernel
theorem dX15_inlined_203 : decode cX15_inlined 203 = .ok (.iload 6, 2) := by decide +kernel
theorem dX15_inlined_205 : decode cX15_inlined 205 = .ok (.ifCond .eq 37, 3) := by decide +kernel
theorem dX15_inlined_208 : decode cX15_inlined 208 = .ok (.aload 8, 2) := by decide +kernel
theorem dX15_inlined_210 : decode cX15_inlined 210 = .ok (.aload 5, 2) := by decide +kernel
theorem dX15_inlined_212 : decode cX15_inlined 212 = .ok (.invokestatic 199, 3) := by decide +kernel
theorem dX15_inlined_215 : decode cX15_inlined 215 = .ok (.ifCond .eq 27, 3) := by decide +kernel
theorem dX15_inlined_218 : decode cX15_inlined 218 = .ok (.aload 8, 2) := by decide +kernel
theorem dX15_inlined_220 : decode cX15_inlined 220 = .ok (.aload 5, 2) := by decide +kernel
theorem dX15_inlined_222 : decode cX15_inlined 222 = .ok (.invokestatic 183, 3) := by decide +kernel
theorem dX15_inlined_225 : decode cX15_inlined 225 = .ok (.ifCond .eq 13, 3) := by decide +kernel
theorem dX15_inlined_228 : decode cX15_inlined 228 = .ok (.aload 5, 2) := by decide +kernel
theorem dX15_inlined_230 : decode cX15_inlined 230 = .ok (.aload 8, 2) := by decide +kernel
theorem dX15_inlined_232 : decode cX15_inlined 232 = .ok (.invokestatic 183, 3) := by decide +kernel
theorem dX15_inlined_235 : decode cX15_inlined 235 = .ok (.ifCond .ne 7, 3) := by decide +kernel
theorem dX15_inlined_238 : decode cX15_inlined 238 = .ok (.iconst 1, 1) := by decide +kernel
theorem dX15_inlined_239 : decode cX15_inlined 239 = .ok (.goto 4, 3) := by decide +kernel
theorem dX15_inlined_242 : decode cX15_inlined 242 = .ok (.iconst 0, 1) := by decide +kernel
theorem dX15_inlined_243 : decode cX15_inlined 243 = .ok (.istore 6, 2) := by decide +kernel
theorem dX15_inlined_245 : decode cX15_inlined 245 = .ok (.goto (-64), 3) := by decide +kernel
theorem dX15_inlined_248 : decode cX15_inlined 248 = .ok (.aload_n 0, 1) := by decide +kernel
theorem dX15_inlined_249 : decode cX15_inlined 249 = .ok (.getfield 63, 3) := by decide +kernel
theorem dX15_inlined_252 : decode cX15_inlined 252 = .ok (.invokeinterface 138 1, 5) := by decide +kernel
theorem dX15_inlined_257 : decode cX15_inlined 257 = .ok (.astore 7, 2) := by decide +kernel
theorem dX15_inlined_259 : decode cX15_inlined 259 = .ok (.aload 7, 2) := by decide +kernel
theorem dX15_inlined_261 : decode cX15_inlined 261 = .ok (.invokeinterface 142 1, 5) := by decide +kernel
theorem dX15_inlined_266 : decode cX15_inlined 266 = .ok (.ifCond .eq 40, 3) := by decide +kernel
theorem dX15_inlined_269 : decode cX15_inlined 269 = .ok (.aload 7, 2) := by decide +kernel
theorem dX15_inlined_271 : decode cX15_inlined 271 = .ok (.invokeinterface 148 1, 5) := by decide +kernel
theorem dX15_inlined_276 : decode cX15_inlined 276 = .ok (.checkcast 152, 3) := by decide +kernel
theorem dX15_inlined_279 : decode cX15_inlined 279 = .ok (.astore 8, 2) := by decide +kernel
theorem dX15_inlined_281 : decode cX15_inlined 281 = .ok (.iload 6, 2) := by decide +kernel
theorem dX15_inlined_283 : decode cX15_inlined 283 = .ok (.ifCond .eq 17, 3) := by decide +kernel
theorem dX15_inlined_286 : decode cX15_inlined 286 = .ok (.aload 8, 2) := by decide +kernel
theorem dX15_inlined_288 : decode cX15_inlined 288 = .ok (.aload 5, 2) := by decide +kernel
theorem dX15_inlined_290 : decode cX15_inlined 290 = .ok (.invokestatic 199, 3) := by decide +kernel
theorem dX15_inlined_293 : decode cX15_inlined 293 = .ok (.ifCond .eq 7, 3) := by decide +kernel
theorem dX15_inlined_296 : decode cX15_inlined 296 = .ok (.iconst 1, 1) := by decide +kernel
theorem dX15_inlined_297 : decode cX15_inlined 297 = .ok (.goto 4, 3) := by decide +kernel
theorem dX15_inlined_300 : decode cX15_inlined 300 = .ok (.iconst 0, 1) := by decide +kernel
theorem dX15_inlined_301 : decode cX15_inlined 301 = .ok (.istore 6, 2) := by decide +kernel
theorem dX15_inlined_303 : decode cX15_inlined 303 = .ok (.goto (-44), 3) := by decide +kernel
theorem dX15_inlined_306 : decode cX15_inlined 306 = .ok (.aload_n 0, 1) := by decide +kernel
theorem dX15_inlined_307 : decode cX15_inlined 307 = .ok (.iload 6, 2) := by decide +kernel
theorem dX15_inlined_309 : decode cX15_inlined 309 = .ok (.ifCond .ne 7, 3) := by decide +kernel
theorem dX15_inlined_312 : decode cX15_inlined 312 = .ok (.iconst 1, 1) := by decide +kernel
theorem dX15_inlined_313 : decode cX15_inlined 313 = .ok (.goto 4, 3) := by decide +kernel
theorem dX15_inlined_316 : decode cX15_inlined 316 = .ok (.iconst 0, 1) := by decide +kernel
theorem dX15_inlined_317 : decode cX15_inlined 317 = .ok (.iconst 3, 1) := by decide +kernel
theorem dX15_inlined_318 : decode cX15_inlined 318 = .ok (.invokevirtual 98, 3) := by decide +kernel
theorem dX15_inlined_321 : decode cX15_inlined 321 = .ok (.ifCond .ne 30, 3) := by decide +kernel
theorem dX15_inlined_324 : decode cX15_inlined 324 = .ok (.aload_n 0, 1) := by decide +kernel
theorem dX15_inlined_325 : decode cX15_inlined 325 = .ok (.aload_n 0, 1) := by decide +kernel
theorem dX15_inlined_326 : decode cX15_inlined 326 = .ok (.getfield 60, 3) := by decide +kernel
theorem dX15_inlined_329 : decode cX15_inlined 329 = .ok (.invokeinterface 7 1, 5) := by decide +kernel
theorem dX15_inlined_334 : decode cX15_inlined 334 = .ok (.bipush 6, 2) := by decide +kernel
theorem dX15_inlined_336 : decode cX15_inlined 336 = .ok (.if_icmp .ne 7, 3) := by decide +kernel
theorem dX15_inlined_339 : decode cX15_inlined 339 = .ok (.iconst 1, 1) := by decide +kernel
theorem dX15_inlined_340 : decode cX15_inlined 340 = .ok (.goto 4, 3) := by decide +kernel
theorem dX15_inlined_343 : decode cX15_inlined 343 = .ok (.iconst 0, 1) := by decide +kernel
theorem dX15_inlined_344 : decode cX15_inlined 344 = .ok (.iconst 4, 1) := by decide +kernel
theorem dX15_inlined_345 : decode cX15_inlined 345 = .ok (.invokevirtual 98, 3) := by decide +kernel
theorem dX15_inlined_348 : decode cX15_inlined 348 = .ok (.ifCond .eq 5, 3) := by decide +kernel
theorem dX15_inlined_351 : decode cX15_inlined 351 = .ok (.iconst (-1), 1) := by decide +kernel
theorem dX15_inlined_352 : decode cX15_inlined 352 = .ok (.ireturn, 1) := by decide +kernel
theorem dX15_inlined_353 : decode cX15_inlined 353 = .ok (.aload_n 0, 1) := by decide +kernel
theorem dX15_inlined_354 : decode cX15_inlined 354 = .ok (.getfield 60, 3) := by decide +kernel
theorem dX15_inlined_357 : decode cX15_inlined 357 = .ok (.aload 5, 2) := by decide +kernel
theorem dX15_inlined_359 : decode cX15_inlined 359 = .ok (.invokeinterface 131 2, 5) := by decide +kernel
theorem dX15_inlined_364 : decode cX15_inlined 364 = .ok (.pop, 1) := by decide +kernel
theorem dX15_inlined_365 : decode cX15_inlined 365 = .ok (.aload_n 0, 1) := by decide +kernel
theorem dX15_inlined_366 : decode cX15_inlined 366 = .ok (.getfield 60, 3) := by decide +kernel
theorem dX15_inlined_369 : decode cX15_inlined 369 = .ok (.invokeinterface 7 1, 5) := by decide +kernel
theorem dX15_inlined_374 : decode cX15_inlined 374 = .ok (.iconst 1, 1) := by decide +kernel
theorem dX15_inlined_375 : decode cX15_inlined 375 = .ok (.isub, 1) := by decide +kernel
theorem dX15_inlined_376 : decode cX15_inlined 376 = .ok (.ireturn, 1) := by decide +kernel
theorem dX15_scope_0 : decode cX15_scope 0 = .ok (.aload_n 0, 1) := by decide +kernel
theorem dX15_scope_1 : decode cX15_scope 1 = .ok (.invokevirtual 124, 3) := by decide +kernel
theorem dX15_scope_4 : decode cX15_scope 4 = .ok (.aload_n 0, 1) := by decide +kernel
theorem dX15_scope_5 : decode cX15_scope 5 = .ok (.aload_n 0, 1) := by decide +kernel
theorem dX15_scope_6 : decode cX15_scope 6 = .ok (.iload_n 1, 1) := by decide +kernel
theorem dX15_scope_7 : decode cX15_scope 7 = .ok (.invokevirtual 164, 3) := by decide +kernel
theorem dX15_scope_10 : decode cX15_scope 10 = .ok (.ifCond .eq 11, 3) := by decide +kernel
theorem dX15_scope_13 : decode cX15_scope 13 = .ok (.aload_n 0, 1) := by decide +kernel
theorem dX15_scope_14 : decode cX15_scope 14 = .ok (.iload_n 2, 1) := by decide +kernel
theorem dX15_scope_15 : decode cX15_scope 15 = .ok (.invokevirtual 164, 3) := by decide +kernel
theorem dX15_scope_18 : decode cX15_scope 18 = .ok (.ifCond .ne 7, 3) := by decide +kernel
theorem dX15_scope_21 : decode cX15_scope 21 = .ok (.iconst 1, 1) := by decide +kernel
theorem dX15_scope_22 : decode cX15_scope 22 = .ok (.goto 4, 3) := by decide +kernel
theorem dX15_scope_25 : decode cX15_scope 25 = .ok (.iconst 0, 1) := by decide +kernel
theorem dX15_scope_26 : decode cX15_scope 26 = .ok (.iconst 1, 1) := by decide +kernel
theorem dX15_scope_27 : decode cX15_scope 27 = .ok (.invokevirtual 98, 3) := by decide +kernel
theorem dX15_scope_30 : decode cX15_scope 30 = .ok (.ifCond .ne 21, 3) := by decide +kernel
theorem dX15_scope_33 : decode cX15_scope 33 = .ok (.aload_n 0, 1) := by decide +kernel
theorem dX15_scope_34 : decode cX15_scope 34 = .ok (.iload_n 2, 1) := by decide +kernel
theorem dX15_scope_35 : decode cX15_scope 35 = .ok (.iload_n 1, 1) := by decide +kernel
theorem dX15_scope_36 : decode cX15_scope 36 = .ok (.if_icmp .ge 7, 3) := by decide +kernel
theorem dX15_scope_39 : decode cX15_scope 39 = .ok (.iconst 1, 1) := by decide +kernel
theorem dX15_scope_40 : decode cX15_scope 40 = .ok (.goto 4, 3) := by decide +kernel
theorem dX15_scope_43 : decode cX15_scope 43 = .ok (.iconst 0, 1) := by decide +kernel
theorem dX15_scope_44 : decode cX15_scope 44 = .ok (.iconst 2, 1) := by decide +kernel
theorem dX15_scope_45 : decode cX15_scope 45 = .ok (.invokevirtual 98, 3) := by decide +kernel
theorem dX15_scope_48 : decode cX15_scope 48 = .ok (.ifCond .eq 5, 3) := by decide +kernel
theorem dX15_scope_51 : decode cX15_scope 51 = .ok (.iconst (-1), 1) := by decide +kernel
theorem dX15_scope_52 : decode cX15_scope 52 = .ok (.ireturn, 1) := by decide +kernel
theorem dX15_scope_53 : decode cX15_scope 53 = .ok (.iconst 2, 1) := by decide +kernel
theorem dX15_scope_54 : decode cX15_scope 54 = .ok (.newarray .int, 2) := by decide +kernel
theorem dX15_scope_56 : decode cX15_scope 56 = .ok (.dup, 1) := by decide +kernel
theorem dX15_scope_57 : decode cX15_scope 57 = .ok (.iconst 0, 1) := by decide +kernel
theorem dX15_scope_58 : decode cX15_scope 58 = .ok (.iload_n 1, 1) := by decide +kernel
theorem dX15_scope_59 : decode cX15_scope 59 = .ok (.iastore, 1) := by decide +kernel
theorem dX15_scope_60 : decode cX15_scope 60 = .ok (.dup, 1) := by decide +kernel
theorem dX15_scope_61 : decode cX15_scope 61 = .ok (.iconst 1, 1) := by decide +kernel
theorem dX15_scope_62 : decode cX15_scope 62 = .ok (.iload_n 2, 1) := by decide +kernel
theorem dX15_scope_63 : decode cX15_scope 63 = .ok (.iastore, 1) := by decide +kernel
theorem dX15_scope_64 : decode cX15_scope 64 = .ok (.astore_n 3, 1) := by decide +kernel
theorem dX15_scope_65 : decode cX15_scope 65 = .ok (.iconst 1, 1) := by decide +kernel
theorem dX15_scope_66 : decode cX15_scope 66 = .ok (.istore 4, 2) := by decide +kernel
theorem dX15_scope_68 : decode cX15_scope 68 = .ok (.aload_n 0, 1) := by decide +kernel
theorem dX15_scope_69 : decode cX15_scope 69 = .ok (.getfield 63, 3) := by decide +kernel
theorem dX15_scope_72 : decode cX15_scope 72 = .ok (.invokeinterface 138 1, 5) := by decide +kernel
theorem dX15_scope_77 : decode cX15_scope 77 = .ok (.astore 5, 2) := by decide +kernel
theorem dX15_scope_79 : decode cX15_scope 79 = .ok (.aload 5, 2) := by decide +kernel
theorem dX15_scope_81 : decode cX15_scope 81 = .ok (.invokeinterface 142 1, 5) := by decide +kernel
theorem dX15_scope_86 : decode cX15_scope 86 = .ok (.ifCond .eq 39, 3) := by decide +kernel
theorem dX15_scope_89 : decode cX15_scope 89 = .ok (.aload 5, 2) := by decide +kernel
theorem dX15_scope_91 : decode cX15_scope 91 = .ok (.invokeinterface 148 1, 5) := by decide +kernel
theorem dX15_scope_96 : decode cX15_scope 96 = .ok (.checkcast 152, 3) := by decide +kernel
theorem dX15_scope_99 : decode cX15_scope 99 = .ok (.astore 6, 2) := by decide +kernel
theorem dX15_scope_101 : decode cX15_scope 101 = .ok (.iload 4, 2) := by decide +kernel
theorem dX15_scope_103 : decode cX15_scope 103 = .ok (.ifCond .eq 16, 3) := by decide +kernel
theorem dX15_scope_106 : decode cX15_scope 106 = .ok (.aload 6, 2) := by decide +kernel
theorem dX15_scope_108 : decode cX15_scope 108 = .ok (.aload_n 3, 1) := by decide +kernel
theorem dX15_scope_109 : decode cX15_scope 109 = .ok (.invokestatic 199, 3) := by decide +kernel
theorem dX15_scope_112 : decode cX15_scope 112 = .ok (.ifCond .eq 7, 3) := by decide +kernel
theorem dX15_scope_115 : decode cX15_scope 115 = .ok (.iconst 1, 1) := by decide +kernel
theorem dX15_scope_116 : decode cX15_scope 116 = .ok (.goto 4, 3) := by decide +kernel
theorem dX15_scope_119 : decode cX15_scope 119 = .ok (.iconst 0, 1) := by decide +kernel
theorem dX15_scope_120 : decode cX15_scope 120 = .ok (.istore 4, 2) := by decide +kernel
theorem dX15_scope_122 : decode cX15_scope 122 = .ok (.goto (-43), 3) := by decide +kernel
theorem dX15_scope_125 : decode cX15_scope 125 = .ok (.aload_n 0, 1) := by decide +kernel
theorem dX15_scope_126 : decode cX15_scope 126 = .ok (.getfield 60, 3) := by decide +kernel
theorem dX15_scope_129 : decode cX15_scope 129 = .ok (.invokeinterface 138 1, 5) := by decide +kernel
theorem dX15_scope_134 : decode cX15_scope 134 = .ok (.astore 5, 2) := by decide +kernel
theorem dX15_scope_136 : decode cX15_scope 136 = .ok (.aload 5, 2) := by decide +kernel
theorem dX15_scope_138 : decode cX15_scope 138 = .ok (.invokeinterface 142 1, 5) := by decide +kernel
theorem dX15_scope_143 : decode cX15_scope 143 = .ok (.ifCond .eq 39, 3) := by decide +kernel
theorem dX15_scope_146 : decode cX15_scope 146 = .ok (.aload 5, 2) := by decide +kernel
theorem dX15_scope_148 : decode cX15_scope 148 = .ok (.invokeinterface 148 1, 5) := by decide +kernel
theorem dX15_scope_153 : decode cX15_scope 153 = .ok (.checkcast 152, 3) := by decide +kernel
theorem dX15_scope_156 : decode cX15_scope 156 = .ok (.astore 6, 2) := by decide +kernel
theorem dX15_scope_158 : decode cX15_scope 158 = .ok (.iload 4, 2) := by decide +kernel
theorem dX15_scope_160 : decode cX15_scope 160 = .ok (.ifCond .eq 16, 3) := by decide +kernel
theorem dX15_scope_163 : decode cX15_scope 163 = .ok (.aload 6, 2) := by decide +kernel
theorem dX15_scope_165 : decode cX15_scope 165 = .ok (.aload_n 3, 1) := by decide +kernel
theorem dX15_scope_166 : decode cX15_scope 166 = .ok (.invokestatic 199, 3) := by decide +kernel
theorem dX15_scope_169 : decode cX15_scope 169 = .ok (.ifCond .eq 7, 3) := by decide +kernel
theorem dX15_scope_172 : decode cX15_scope 172 = .ok (.iconst 1, 1) := by decide +kernel
theorem dX15_scope_173 : decode cX15_scope 173 = .ok (.goto 4, 3) := by decide +kernel
theorem dX15_scope_176 : decode cX15_scope 176 = .ok (.iconst 0, 1) := by decide +kernel
theorem dX15_scope_177 : decode cX15_scope 177 = .ok (.istore 4, 2) := by decide +kernel
theorem dX15_scope_179 : decode cX15_scope 179 = .ok (.goto (-43), 3) := by decide +kernel
theorem dX15_scope_182 : decode cX15_scope 182 = .ok (.aload_n 0, 1) := by decide +kernel
theorem dX15_scope_183 : decode cX15_scope 183 = .ok (.iload 4, 2) := by decide +kernel
theorem dX15_scope_185 : decode cX15_scope 185 = .ok (.ifCond .ne 7, 3) := by decide +kernel
theorem dX15_scope_188 : decode cX15_scope 188 = .ok (.iconst 1, 1) := by decide +kernel
theorem dX15_scope_189 : decode cX15_scope 189 = .ok (.goto 4, 3) := by decide +kernel
theorem dX15_scope_192 : decode cX15_scope 192 = .ok (.iconst 0, 1) := by decide +kernel
theorem dX15_scope_193 : decode cX15_scope 193 = .ok (.iconst 3, 1) := by decide +kernel
theorem dX15_scope_194 : decode cX15_scope 194 = .ok (.invokevirtual 98, 3) := by decide +kernel
theorem dX15_scope_197 : decode cX15_scope 197 = .ok (.ifCond .ne 30, 3) := by decide +kernel
theorem dX15_scope_200 : decode cX15_scope 200 = .ok (.aload_n 0, 1) := by decide +kernel
theorem dX15_scope_201 : decode cX15_scope 201 = .ok (.aload_n 0, 1) := by decide +kernel
theorem dX15_scope_202 : decode cX15_scope 202 = .ok (.getfield 63, 3) := by decide +kernel
theorem dX15_scope_205 : decode cX15_scope 205 = .ok (.invokeinterface 7 1, 5) := by decide +kernel
theorem dX15_scope_210 : decode cX15_scope 210 = .ok (.bipush 12, 2) := by decide +kernel
theorem dX15_scope_212 : decode cX15_scope 212 = .ok (.if_icmp .ne 7, 3) := by decide +kernel
theorem dX15_scope_215 : decode cX15_scope 215 = .ok (.iconst 1, 1) := by decide +kernel
theorem dX15_scope_216 : decode cX15_scope 216 = .ok (.goto 4, 3) := by decide +kernel
theorem dX15_scope_219 : decode cX15_scope 219 = .ok (.iconst 0, 1) := by decide +kernel
theorem dX15_scope_220 : decode cX15_scope 220 = .ok (.iconst 4, 1) := by decide +kernel
theorem dX15_scope_221 : decode cX15_scope 221 = .ok (.invokevirtual 98, 3) := by decide +kernel
theorem dX15_scope_224 : decode cX15_scope 224 = .ok (.ifCond .eq 5, 3) := by decide +kernel
theorem dX15_scope_227 : decode cX15_scope 227 = .ok (.iconst (-1), 1) := by decide +kernel
theorem dX15_scope_228 : decode cX15_scope 228 = .ok (.ireturn, 1) := by decide +kernel
theorem dX15_scope_229 : decode cX15_scope 229 = .ok (.aload_n 0, 1) := by decide +kernel
theorem dX15_scope_230 : decode cX15_scope 230 = .ok (.getfield 63, 3) := by decide +kernel
theorem dX15_scope_233 : decode cX15_scope 233 = .ok (.aload_n 3, 1) := by decide +kernel
theorem dX15_scope_234 : decode cX15_scope 234 = .ok (.invokeinterface 131 2, 5) := by decide +kernel
theorem dX15_scope_239 : decode cX15_scope 239 = .ok (.pop, 1) := by decide +kernel
theorem dX15_scope_240 : decode cX15_scope 240 = .ok (.aload_n 0, 1) := by decide +kernel
theorem dX15_scope_241 : decode cX15_scope 241 = .ok (.getfield 63, 3) := by decide +kernel
theorem dX15_scope_244 : decode cX15_scope 244 = .ok (.invokeinterface 7 1, 5) := by decide +kernel
theorem dX15_scope_249 : decode cX15_scope 249 = .ok (.iconst 1, 1) := by decide +kernel
theorem dX15_scope_250 : decode cX15_scope 250 = .ok (.isub, 1) := by decide +kernel
theorem dX15_scope_251 : decode cX15_scope 251 = .ok (.ireturn, 1) := by decide +kernel
theorem dX15_thread_0 : decode cX15_thread 0 = .ok (.aload_n 0, 1) := by decide +kernel
theorem dX15_thread_1 : decode cX15_thread 1 = .ok (.invokevirtual 124, 3) := by decide +kernel
theorem dX15_thread_4 : decode cX15_thread 4 = .ok (.aload_n 0, 1) := by decide +kernel
theorem dX15_thread_5 : decode cX15_thread 5 = .ok (.aload_n 0, 1) := by decide +kernel
theorem dX15_thread_6 : decode cX15_thread 6 = .ok (.getfield 48, 3) := by decide +kernel
theorem dX15_thread_9 : decode cX15_thread 9 = .ok (.iload_n 1, 1) := by decide +kernel
theorem dX15_thread_10 : decode cX15_thread 10 = .ok (.invokestatic 94, 3) := by decide +kernel
theorem dX15_thread_13 : decode cX15_thread 13 = .ok (.ifCond .ne 7, 3) := by decide +kernel
theorem dX15_thread_16 : decode cX15_thread 16 = .ok (.iconst 1, 1) := by decide +kernel
theorem dX15_thread_17 : decode cX15_thread 17 = .ok (.goto 4, 3) := by decide +kernel
theorem dX15_thread_20 : decode cX15_thread 20 = .ok (.iconst 0, 1) := by decide +kernel
theorem dX15_thread_21 : decode cX15_thread 21 = .ok (.iconst 1, 1) := by decide +kernel
theorem dX15_thread_22 : decode cX15_thread 22 = .ok (.invokevirtual 98, 3) := by decide +kernel
theorem dX15_thread_25 : decode cX15_thread 25 = .ok (.ifCond .ne 32, 3) := by decide +kernel
theorem dX15_thread_28 : decode cX15_thread 28 = .ok (.aload_n 0, 1) := by decide +kernel
theorem dX15_thread_29 : decode cX15_thread 29 = .ok (.aload_n 0, 1) := by decide +kernel
theorem dX15_thread_30 : decode cX15_thread 30 = .ok (.getfield 26, 3) := by decide +kernel
theorem dX15_thread_33 : decode cX15_thread 33 = .ok (.getfield 91, 3) := by decide +kernel
theorem dX15_thread_36 : decode cX15_thread 36 = .ok (.invokeinterface 7 1, 5) := by decide +kernel
theorem dX15_thread_41 : decode cX15_thread 41 = .ok (.iconst 3, 1) := by decide +kernel
theorem dX15_thread_42 : decode cX15_thread 42 = .ok (.if_icmp .ne 7, 3) := by decide +kernel
theorem dX15_thread_45 : decode cX15_thread 45 = .ok (.iconst 1, 1) := by decide +kernel
theorem dX15_thread_46 : decode cX15_thread 46 = .ok (.goto 4, 3) := by decide +kernel
theorem dX15_thread_49 : decode cX15_thread 49 = .ok (.iconst 0, 1) := by decide +kernel
theorem dX15_thread_50 : decode cX15_thread 50 = .ok (.iconst 2, 1) := by decide +kernel
theorem dX15_thread_51 : decode cX15_thread 51 = .ok (.invokevirtual 98, 3) := by decide +kernel
theorem dX15_thread_54 : decode cX15_thread 54 = .ok (.ifCond .eq 5, 3) := by decide +kernel
theorem dX15_thread_57 : decode cX15_thread 57 = .ok (.iconst (-1), 1) := by decide +kernel
theorem dX15_thread_58 : decode cX15_thread 58 = .ok (.ireturn, 1) := by decide +kernel
theorem dX15_thread_59 : decode cX15_thread 59 = .ok (.new 212, 3) := by decide +kernel
theorem dX15_thread_62 : decode cX15_thread 62 = .ok (.dup, 1) := by decide +kernel
theorem dX15_thread_63 : decode cX15_thread 63 = .ok (.invokespecial 214, 3) := by decide +kernel
theorem dX15_thread_66 : decode cX15_thread 66 = .ok (.astore_n 2, 1) := by decide +kernel
theorem dX15_thread_67 : decode cX15_thread 67 = .ok (.aload_n 2, 1) := by decide +kernel
theorem dX15_thread_68 : decode cX15_thread 68 = .ok (.aload_n 0, 1) := by decide +kernel
theorem dX15_thread_69 : decode cX15_thread 69 = .ok (.getfield 48, 3) := by decide +kernel
theorem dX15_thread_72 : decode cX15_thread 72 = .ok (.iload_n 1, 1) := by decide +kernel
theorem dX15_thread_73 : decode cX15_thread 73 = .ok (.invokeinterface 168 2, 5) := by decide +kernel
theorem dX15_thread_78 : decode cX15_thread 78 = .ok (.checkcast 152, 3) := by decide +kernel
theorem dX15_thread_81 : decode cX15_thread 81 = .ok (.iconst 0, 1) := by decide +kernel
theorem dX15_thread_82 : decode cX15_thread 82 = .ok (.iaload, 1) := by decide +kernel
theorem dX15_thread_83 : decode cX15_thread 83 = .ok (.putfield 215, 3) := by decide +kernel
theorem dX15_thread_86 : decode cX15_thread 86 = .ok (.aload_n 0, 1) := by decide +kernel
theorem dX15_thread_87 : decode cX15_thread 87 = .ok (.getfield 26, 3) := by decide +kernel
theorem dX15_thread_90 : decode cX15_thread 90 = .ok (.getfield 91, 3) := by decide +kernel
theorem dX15_thread_93 : decode cX15_thread 93 = .ok (.aload_n 2, 1) := by decide +kernel
theorem dX15_thread_94 : decode cX15_thread 94 = .ok (.invokeinterface 131 2, 5) := by decide +kernel
theorem dX15_thread_99 : decode cX15_thread 99 = .ok (.pop, 1) := by decide +kernel
theorem dX15_thread_100 : decode cX15_thread 100 = .ok (.aload_n 0, 1) := by decide +kernel
theorem dX15_thread_101 : decode cX15_thread 101 = .ok (.getfield 33, 3) := by decide +kernel
theorem dX15_thread_104 : decode cX15_thread 104 = .ok (.invokeinterface 135 1, 5) := by decide +kernel
theorem dX15_thread_109 : decode cX15_thread 109 = .ok (.aload_n 0, 1) := by decide +kernel
theorem dX15_thread_110 : decode cX15_thread 110 = .ok (.getfield 26, 3) := by decide +kernel
theorem dX15_thread_113 : decode cX15_thread 113 = .ok (.getfield 91, 3) := by decide +kernel
theorem dX15_thread_116 : decode cX15_thread 116 = .ok (.invokeinterface 7 1, 5) := by decide +kernel
theorem dX15_thread_121 : decode cX15_thread 121 = .ok (.iconst 1, 1) := by decide +kernel
theorem dX15_thread_122 : decode cX15_thread 122 = .ok (.isub, 1) := by decide +kernel
theorem dX15_thread_123 : decode cX15_thread 123 = .ok (.ireturn, 1) := by decide +kernel
theorem dX15_state_0 : decode cX15_state 0 = .ok (.aload_n 0, 1) := by decide +kernel
theorem dX15_state_1 : decode cX15_state 1 = .ok (.invokevirtual 124, 3) := by decide +kernel
theorem dX15_state_4 : decode cX15_state 4 = .ok (.aload_n 0, 1) := by decide +kernel
theorem dX15_state_5 : decode cX15_state 5 = .ok (.iload_n 1, 1) := by decide +kernel
theorem dX15_state_6 : decode cX15_state 6 = .ok (.invokevirtual 218, 3) := by decide +kernel
theorem dX15_state_9 : decode cX15_state 9 = .ok (.ifCond .eq 8, 3) := by decide +kernel
theorem dX15_state_12 : decode cX15_state 12 = .ok (.bipush 32, 2) := by decide +kernel
theorem dX15_state_14 : decode cX15_state 14 = .ok (.goto 22, 3) := by decide +kernel
theorem dX15_state_17 : decode cX15_state 17 = .ok (.aload_n 0, 1) := by decide +kernel
theorem dX15_state_18 : decode cX15_state 18 = .ok (.getfield 26, 3) := by decide +kernel
theorem dX15_state_21 : decode cX15_state 21 = .ok (.getfield 91, 3) := by decide +kernel
theorem dX15_state_24 : decode cX15_state 24 = .ok (.iload_n 1, 1) := by decide +kernel
theorem dX15_state_25 : decode cX15_state 25 = .ok (.invokeinterface 168 2, 5) := by decide +kernel
theorem dX15_state_30 : decode cX15_state 30 = .ok (.checkcast 212, 3) := by decide +kernel
theorem dX15_state_33 : decode cX15_state 33 = .ok (.getfield 221, 3) := by decide +kernel
theorem dX15_state_36 : decode cX15_state 36 = .ok (.ireturn, 1) := by decide +kernel
theorem dX15_fault_0 : decode cX15_fault 0 = .ok (.aload_n 0, 1) := by decide +kernel
theorem dX15_fault_1 : decode cX15_fault 1 = .ok (.invokevirtual 124, 3) := by decide +kernel
theorem dX15_fault_4 : decode cX15_fault 4 = .ok (.aload_n 0, 1) := by decide +kernel
theorem dX15_fault_5 : decode cX15_fault 5 = .ok (.iload_n 1, 1) := by decide +kernel
theorem dX15_fault_6 : decode cX15_fault 6 = .ok (.invokevirtual 218, 3) := by decide +kernel
theorem dX15_fault_9 : decode cX15_fault 9 = .ok (.ifCond .ne 40, 3) := by decide +kernel
theorem dX15_fault_12 : decode cX15_fault 12 = .ok (.aload_n 0, 1) := by decide +kernel
theorem dX15_fault_13 : decode cX15_fault 13 = .ok (.aload_n 0, 1) := by decide +kernel
theorem dX15_fault_14 : decode cX15_fault 14 = .ok (.getfield 26, 3) := by decide +kernel
theorem dX15_fault_17 : decode cX15_fault 17 = .ok (.getfield 91, 3) := by decide +kernel
theorem dX15_fault_20 : decode cX15_fault 20 = .ok (.iload_n 1, 1) := by decide +kernel
theorem dX15_fault_21 : decode cX15_fault 21 = .ok (.invokeinterface 168 2, 5) := by decide +kernel
theorem dX15_fault_26 : decode cX15_fault 26 = .ok (.checkcast 212, 3) := by decide +kernel
theorem dX15_fault_29 : decode cX15_fault 29 = .ok (.getfield 224, 3) := by decide +kernel
theorem dX15_fault_32 : decode cX15_fault 32 = .ok (.bipush 45, 2) := by decide +kernel
theorem dX15_fault_34 : decode cX15_fault 34 = .ok (.if_icmp .ne 7, 3) := by decide +kernel
theorem dX15_fault_37 : decode cX15_fault 37 = .ok (.iconst 1, 1) := by decide +kernel
theorem dX15_fault_38 : decode cX15_fault 38 = .ok (.goto 4, 3) := by decide +kernel
theorem dX15_fault_41 : decode cX15_fault 41 = .ok (.iconst 0, 1) := by decide +kernel
theorem dX15_fault_42 : decode cX15_fault 42 = .ok (.iconst 2, 1) := by decide +kernel
theorem dX15_fault_43 : decode cX15_fault 43 = .ok (.invokevirtual 98, 3) := by decide +kernel
theorem dX15_fault_46 : decode cX15_fault 46 = .ok (.ifCond .eq 8, 3) := by decide +kernel
theorem dX15_fault_49 : decode cX15_fault 49 = .ok (.bipush 32, 2) := by decide +kernel
theorem dX15_fault_51 : decode cX15_fault 51 = .ok (.goto 22, 3) := by decide +kernel
theorem dX15_fault_54 : decode cX15_fault 54 = .ok (.aload_n 0, 1) := by decide +kernel
theorem dX15_fault_55 : decode cX15_fault 55 = .ok (.getfield 26, 3) := by decide +kernel
theorem dX15_fault_58 : decode cX15_fault 58 = .ok (.getfield 91, 3) := by decide +kernel
theorem dX15_fault_61 : decode cX15_fault 61 = .ok (.iload_n 1, 1) := by decide +kernel
theorem dX15_fault_62 : decode cX15_fault 62 = .ok (.invokeinterface 168 2, 5) := by decide +kernel
theorem dX15_fault_67 : decode cX15_fault 67 = .ok (.checkcast 212, 3) := by decide +kernel
theorem dX15_fault_70 : decode cX15_fault 70 = .ok (.getfield 224, 3) := by decide +kernel
theorem dX15_fault_73 : decode cX15_fault 73 = .ok (.ireturn, 1) := by decide +kernel
theorem dX15_hold_0 : decode cX15_hold 0 = .ok (.aload_n 0, 1) := by decide +kernel
theorem dX15_hold_1 : decode cX15_hold 1 = .ok (.invokevirtual 124, 3) := by decide +kernel
theorem dX15_hold_4 : decode cX15_hold 4 = .ok (.aload_n 0, 1) := by decide +kernel
theorem dX15_hold_5 : decode cX15_hold 5 = .ok (.iload_n 1, 1) := by decide +kernel
theorem dX15_hold_6 : decode cX15_hold 6 = .ok (.invokevirtual 218, 3) := by decide +kernel
theorem dX15_hold_9 : decode cX15_hold 9 = .ok (.ifCond .eq 5, 3) := by decide +kernel
theorem dX15_hold_12 : decode cX15_hold 12 = .ok (.iconst 0, 1) := by decide +kernel
theorem dX15_hold_13 : decode cX15_hold 13 = .ok (.ireturn, 1) := by decide +kernel
theorem dX15_hold_14 : decode cX15_hold 14 = .ok (.aload_n 0, 1) := by decide +kernel
theorem dX15_hold_15 : decode cX15_hold 15 = .ok (.getfield 51, 3) := by decide +kernel
theorem dX15_hold_18 : decode cX15_hold 18 = .ok (.iload_n 1, 1) := by decide +kernel
theorem dX15_hold_19 : decode cX15_hold 19 = .ok (.baload, 1) := by decide +kernel
theorem dX15_hold_20 : decode cX15_hold 20 = .ok (.istore_n 3, 1) := by decide +kernel
theorem dX15_hold_21 : decode cX15_hold 21 = .ok (.aload_n 0, 1) := by decide +kernel
theorem dX15_hold_22 : decode cX15_hold 22 = .ok (.getfield 51, 3) := by decide +kernel
theorem dX15_hold_25 : decode cX15_hold 25 = .ok (.iload_n 1, 1) := by decide +kernel
theorem dX15_hold_26 : decode cX15_hold 26 = .ok (.iload_n 2, 1) := by decide +kernel
theorem dX15_hold_27 : decode cX15_hold 27 = .ok (.bastore, 1) := by decide +kernel
theorem dX15_hold_28 : decode cX15_hold 28 = .ok (.iload_n 3, 1) := by decide +kernel
theorem dX15_hold_29 : decode cX15_hold 29 = .ok (.ireturn, 1) := by decide +kernel
theorem dX15_register_0 : decode cX15_register 0 = .ok (.aload_n 0, 1) := by decide +kernel
theorem dX15_register_1 : decode cX15_register 1 = .ok (.invokevirtual 124, 3) := by decide +kernel
theorem dX15_register_4 : decode cX15_register 4 = .ok (.aload_n 0, 1) := by decide +kernel
theorem dX15_register_5 : decode cX15_register 5 = .ok (.aload_n 0, 1) := by decide +kernel
theorem dX15_register_6 : decode cX15_register 6 = .ok (.getfield 26, 3) := by decide +kernel
theorem dX15_register_9 : decode cX15_register 9 = .ok (.getfield 91, 3) := by decide +kernel
theorem dX15_register_12 : decode cX15_register 12 = .ok (.iload_n 1, 1) := by decide +kernel
theorem dX15_register_13 : decode cX15_register 13 = .ok (.invokestatic 94, 3) := by decide +kernel
theorem dX15_register_16 : decode cX15_register 16 = .ok (.ifCond .eq 15, 3) := by decide +kernel
theorem dX15_register_19 : decode cX15_register 19 = .ok (.iload_n 2, 1) := by decide +kernel
theorem dX15_register_20 : decode cX15_register 20 = .ok (.i2l, 1) := by decide +kernel
theorem dX15_register_21 : decode cX15_register 21 = .ok (.lconst 0, 1) := by decide +kernel
theorem dX15_register_22 : decode cX15_register 22 = .ok (.ldc2_w 112, 3) := by decide +kernel
theorem dX15_register_25 : decode cX15_register 25 = .ok (.invokestatic 13, 3) := by decide +kernel
theorem dX15_register_28 : decode cX15_register 28 = .ok (.ifCond .ne 7, 3) := by decide +kernel
theorem dX15_register_31 : decode cX15_register 31 = .ok (.iconst 1, 1) := by decide +kernel
theorem dX15_register_32 : decode cX15_register 32 = .ok (.goto 4, 3) := by decide +kernel
theorem dX15_register_35 : decode cX15_register 35 = .ok (.iconst 0, 1) := by decide +kernel
theorem dX15_register_36 : decode cX15_register 36 = .ok (.iconst 1, 1) := by decide +kernel
theorem dX15_register_37 : decode cX15_register 37 = .ok (.invokevirtual 98, 3) := by decide +kernel
theorem dX15_register_40 : decode cX15_register 40 = .ok (.ifCond .eq 7, 3) := by decide +kernel
theorem dX15_register_43 : decode cX15_register 43 = .ok (.iconst (-1), 1) := by decide +kernel
theorem dX15_register_44 : decode cX15_register 44 = .ok (.goto 24, 3) := by decide +kernel
theorem dX15_register_47 : decode cX15_register 47 = .ok (.aload_n 0, 1) := by decide +kernel
theorem dX15_register_48 : decode cX15_register 48 = .ok (.getfield 26, 3) := by decide +kernel
theorem dX15_register_51 : decode cX15_register 51 = .ok (.getfield 91, 3) := by decide +kernel
theorem dX15_register_54 : decode cX15_register 54 = .ok (.iload_n 1, 1) := by decide +kernel
theorem dX15_register_55 : decode cX15_register 55 = .ok (.invokeinterface 168 2, 5) := by decide +kernel
theorem dX15_register_60 : decode cX15_register 60 = .ok (.checkcast 212, 3) := by decide +kernel
theorem dX15_register_63 : decode cX15_register 63 = .ok (.getfield 227, 3) := by decide +kernel
theorem dX15_register_66 : decode cX15_register 66 = .ok (.iload_n 2, 1) := by decide +kernel
theorem dX15_register_67 : decode cX15_register 67 = .ok (.iaload, 1) := by decide +kernel
theorem dX15_register_68 : decode cX15_register 68 = .ok (.ireturn, 1) := by decide +kernel
theorem dX15_frames_0 : decode cX15_frames 0 = .ok (.aload_n 0, 1) := by decide +kernel
theorem dX15_frames_1 : decode cX15_frames 1 = .ok (.invokevirtual 124, 3) := by decide +kernel
theorem dX15_frames_4 : decode cX15_frames 4 = .ok (.aload_n 0, 1) := by decide +kernel
theorem dX15_frames_5 : decode cX15_frames 5 = .ok (.iload_n 1, 1) := by decide +kernel
theorem dX15_frames_6 : decode cX15_frames 6 = .ok (.invokevirtual 218, 3) := by decide +kernel
theorem dX15_frames_9 : decode cX15_frames 9 = .ok (.ifCond .eq 7, 3) := by decide +kernel
theorem dX15_frames_12 : decode cX15_frames 12 = .ok (.iconst (-1), 1) := by decide +kernel
theorem dX15_frames_13 : decode cX15_frames 13 = .ok (.goto 28, 3) := by decide +kernel
theorem dX15_frames_16 : decode cX15_frames 16 = .ok (.aload_n 0, 1) := by decide +kernel
theorem dX15_frames_17 : decode cX15_frames 17 = .ok (.aload_n 0, 1) := by decide +kernel
theorem dX15_frames_18 : decode cX15_frames 18 = .ok (.getfield 26, 3) := by decide +kernel
theorem dX15_frames_21 : decode cX15_frames 21 = .ok (.getfield 91, 3) := by decide +kernel
theorem dX15_frames_24 : decode cX15_frames 24 = .ok (.iload_n 1, 1) := by decide +kernel
theorem dX15_frames_25 : decode cX15_frames 25 = .ok (.invokeinterface 168 2, 5) := by decide +kernel
theorem dX15_frames_30 : decode cX15_frames 30 = .ok (.checkcast 212, 3) := by decide +kernel
theorem dX15_frames_33 : decode cX15_frames 33 = .ok (.invokevirtual 293, 3) := by decide +kernel
theorem dX15_frames_36 : decode cX15_frames 36 = .ok (.invokeinterface 7 1, 5) := by decide +kernel
theorem dX15_frames_41 : decode cX15_frames 41 = .ok (.ireturn, 1) := by decide +kernel
theorem dX15_frame_0 : decode cX15_frame 0 = .ok (.aload_n 0, 1) := by decide +kernel
theorem dX15_frame_1 : decode cX15_frame 1 = .ok (.invokevirtual 124, 3) := by decide +kernel
theorem dX15_frame_4 : decode cX15_frame 4 = .ok (.aload_n 0, 1) := by decide +kernel
theorem dX15_frame_5 : decode cX15_frame 5 = .ok (.iload_n 1, 1) := by decide +kernel
theorem dX15_frame_6 : decode cX15_frame 6 = .ok (.iload_n 2, 1) := by decide +kernel
theorem dX15_frame_7 : decode cX15_frame 7 = .ok (.invokevirtual 296, 3) := by decide +kernel
theorem dX15_frame_10 : decode cX15_frame 10 = .ok (.ifCond .ne 26, 3) := by decide +kernel
theorem dX15_frame_13 : decode cX15_frame 13 = .ok (.aload_n 0, 1) := by decide +kernel
theorem dX15_frame_14 : decode cX15_frame 14 = .ok (.ldc_w 300, 3) := by decide +kernel
theorem dX15_frame_17 : decode cX15_frame 17 = .ok (.iload_n 3, 1) := by decide +kernel
theorem dX15_frame_18 : decode cX15_frame 18 = .ok (.invokevirtual 104, 3) := by decide +kernel
theorem dX15_frame_21 : decode cX15_frame 21 = .ok (.ifCond .ge 7, 3) := by decide +kernel
theorem dX15_frame_24 : decode cX15_frame 24 = .ok (.iconst 1, 1) := by decide +kernel
theorem dX15_frame_25 : decode cX15_frame 25 = .ok (.goto 4, 3) := by decide +kernel
theorem dX15_frame_28 : decode cX15_frame 28 = .ok (.iconst 0, 1) := by decide +kernel
theorem dX15_frame_29 : decode cX15_frame 29 = .ok (.iconst 2, 1) := by decide +kernel
theorem dX15_frame_30 : decode cX15_frame 30 = .ok (.invokevirtual 98, 3) := by decide +kernel
theorem dX15_frame_33 : decode cX15_frame 33 = .ok (.ifCond .eq 5, 3) := by decide +kernel
theorem dX15_frame_36 : decode cX15_frame 36 = .ok (.iconst (-1), 1) := by decide +kernel
theorem dX15_frame_37 : decode cX15_frame 37 = .ok (.ireturn, 1) := by decide +kernel
theorem dX15_frame_38 : decode cX15_frame 38 = .ok (.aload_n 0, 1) := by decide +kernel
theorem dX15_frame_39 : decode cX15_frame 39 = .ok (.iload_n 1, 1) := by decide +kernel
theorem dX15_frame_40 : decode cX15_frame 40 = .ok (.iload_n 2, 1) := by decide +kernel
theorem dX15_frame_41 : decode cX15_frame 41 = .ok (.invokevirtual 302, 3) := by decide +kernel
theorem dX15_frame_44 : decode cX15_frame 44 = .ok (.astore 4, 2) := by decide +kernel
theorem dX15_frame_46 : decode cX15_frame 46 = .ok (.iload_n 3, 1) := by decide +kernel
theorem dX15_frame_47 : decode cX15_frame 47 = .ok (.bipush 102, 2) := by decide +kernel
theorem dX15_frame_49 : decode cX15_frame 49 = .ok (.if_icmp .ne 11, 3) := by decide +kernel
theorem dX15_frame_52 : decode cX15_frame 52 = .ok (.aload 4, 2) := by decide +kernel
theorem dX15_frame_54 : decode cX15_frame 54 = .ok (.bipush 6, 2) := by decide +kernel
theorem dX15_frame_56 : decode cX15_frame 56 = .ok (.iaload, 1) := by decide +kernel
theorem dX15_frame_57 : decode cX15_frame 57 = .ok (.goto 55, 3) := by decide +kernel
theorem dX15_frame_60 : decode cX15_frame 60 = .ok (.iload_n 3, 1) := by decide +kernel
theorem dX15_frame_61 : decode cX15_frame 61 = .ok (.bipush 112, 2) := by decide +kernel
theorem dX15_frame_63 : decode cX15_frame 63 = .ok (.if_icmp .ne 10, 3) := by decide +kernel
theorem dX15_frame_66 : decode cX15_frame 66 = .ok (.aload 4, 2) := by decide +kernel
theorem dX15_frame_68 : decode cX15_frame 68 = .ok (.iconst 0, 1) := by decide +kernel
theorem dX15_frame_69 : decode cX15_frame 69 = .ok (.iaload, 1) := by decide +kernel
theorem dX15_frame_70 : decode cX15_frame 70 = .ok (.goto 42, 3) := by decide +kernel
theorem dX15_frame_73 : decode cX15_frame 73 = .ok (.iload_n 3, 1) := by decide +kernel
theorem dX15_frame_74 : decode cX15_frame 74 = .ok (.bipush 108, 2) := by decide +kernel
theorem dX15_frame_76 : decode cX15_frame 76 = .ok (.if_icmp .ne 10, 3) := by decide +kernel
theorem dX15_frame_79 : decode cX15_frame 79 = .ok (.aload 4, 2) := by decide +kernel
theorem dX15_frame_81 : decode cX15_frame 81 = .ok (.iconst 5, 1) := by decide +kernel
theorem dX15_frame_82 : decode cX15_frame 82 = .ok (.iaload, 1) := by decide +kernel
theorem dX15_frame_83 : decode cX15_frame 83 = .ok (.goto 29, 3) := by decide +kernel
theorem dX15_frame_86 : decode cX15_frame 86 = .ok (.iload_n 3, 1) := by decide +kernel
theorem dX15_frame_87 : decode cX15_frame 87 = .ok (.bipush 105, 2) := by decide +kernel
theorem dX15_frame_89 : decode cX15_frame 89 = .ok (.if_icmp .ne 19, 3) := by decide +kernel
theorem dX15_frame_92 : decode cX15_frame 92 = .ok (.aload 4, 2) := by decide +kernel
theorem dX15_frame_94 : decode cX15_frame 94 = .ok (.iconst 4, 1) := by decide +kernel
theorem dX15_frame_95 : decode cX15_frame 95 = .ok (.iaload, 1) := by decide +kernel
theorem dX15_frame_96 : decode cX15_frame 96 = .ok (.iconst (-1), 1) := by decide +kernel
theorem dX15_frame_97 : decode cX15_frame 97 = .ok (.if_icmp .ne 7, 3) := by decide +kernel
theorem dX15_frame_100 : decode cX15_frame 100 = .ok (.iconst 0, 1) := by decide +kernel
theorem dX15_frame_101 : decode cX15_frame 101 = .ok (.goto 11, 3) := by decide +kernel
theorem dX15_frame_104 : decode cX15_frame 104 = .ok (.iconst 1, 1) := by decide +kernel
theorem dX15_frame_105 : decode cX15_frame 105 = .ok (.goto 7, 3) := by decide +kernel
theorem dX15_frame_108 : decode cX15_frame 108 = .ok (.aload 4, 2) := by decide +kernel
theorem dX15_frame_110 : decode cX15_frame 110 = .ok (.iconst 1, 1) := by decide +kernel
theorem dX15_frame_111 : decode cX15_frame 111 = .ok (.iaload, 1) := by decide +kernel
theorem dX15_frame_112 : decode cX15_frame 112 = .ok (.ireturn, 1) := by decide +kernel
theorem dX15_see_0 : decode cX15_see 0 = .ok (.aload_n 0, 1) := by decide +kernel
theorem dX15_see_1 : decode cX15_see 1 = .ok (.invokevirtual 124, 3) := by decide +kernel
theorem dX15_see_4 : decode cX15_see 4 = .ok (.aload_n 0, 1) := by decide +kernel
theorem dX15_see_5 : decode cX15_see 5 = .ok (.iload_n 1, 1) := by decide +kernel
theorem dX15_see_6 : decode cX15_see 6 = .ok (.iload_n 2, 1) := by decide +kernel
theorem dX15_see_7 : decode cX15_see 7 = .ok (.invokevirtual 296, 3) := by decide +kernel
theorem dX15_see_10 : decode cX15_see 10 = .ok (.ifCond .ne 23, 3) := by decide +kernel
theorem dX15_see_13 : decode cX15_see 13 = .ok (.aload_n 0, 1) := by decide +kernel
theorem dX15_see_14 : decode cX15_see 14 = .ok (.iload_n 3, 1) := by decide +kernel
theorem dX15_see_15 : decode cX15_see 15 = .ok (.invokestatic 206, 3) := by decide +kernel
theorem dX15_see_18 : decode cX15_see 18 = .ok (.ifCond .ne 7, 3) := by decide +kernel
theorem dX15_see_21 : decode cX15_see 21 = .ok (.iconst 1, 1) := by decide +kernel
theorem dX15_see_22 : decode cX15_see 22 = .ok (.goto 4, 3) := by decide +kernel
theorem dX15_see_25 : decode cX15_see 25 = .ok (.iconst 0, 1) := by decide +kernel
theorem dX15_see_26 : decode cX15_see 26 = .ok (.iconst 2, 1) := by decide +kernel
theorem dX15_see_27 : decode cX15_see 27 = .ok (.invokevirtual 98, 3) := by decide +kernel
theorem dX15_see_30 : decode cX15_see 30 = .ok (.ifCond .eq 6, 3) := by decide +kernel
theorem dX15_see_33 : decode cX15_see 33 = .ok (.bipush 32, 2) := by decide +kernel
theorem dX15_see_35 : decode cX15_see 35 = .ok (.ireturn, 1) := by decide +kernel
theorem dX15_see_36 : decode cX15_see 36 = .ok (.aload_n 0, 1) := by decide +kernel
theorem dX15_see_37 : decode cX15_see 37 = .ok (.iload_n 1, 1) := by decide +kernel
theorem dX15_see_38 : decode cX15_see 38 = .ok (.iload_n 2, 1) := by decide +kernel
theorem dX15_see_39 : decode cX15_see 39 = .ok (.invokevirtual 302, 3) := by decide +kernel
theorem dX15_see_42 : decode cX15_see 42 = .ok (.astore 4, 2) := by decide +kernel
theorem dX15_see_44 : decode cX15_see 44 = .ok (.aload_n 0, 1) := by decide +kernel
theorem dX15_see_45 : decode cX15_see 45 = .ok (.aload 4, 2) := by decide +kernel
theorem dX15_see_47 : decode cX15_see 47 = .ok (.iload_n 3, 1) := by decide +kernel
theorem dX15_see_48 : decode cX15_see 48 = .ok (.invokevirtual 306, 3) := by decide +kernel
theorem dX15_see_51 : decode cX15_see 51 = .ok (.istore 5, 2) := by decide +kernel
theorem dX15_see_53 : decode cX15_see 53 = .ok (.iload 5, 2) := by decide +kernel
theorem dX15_see_55 : decode cX15_see 55 = .ok (.iconst (-1), 1) := by decide +kernel
theorem dX15_see_56 : decode cX15_see 56 = .ok (.if_icmp .ne 8, 3) := by decide +kernel
theorem dX15_see_59 : decode cX15_see 59 = .ok (.bipush 110, 2) := by decide +kernel
theorem dX15_see_61 : decode cX15_see 61 = .ok (.goto 21, 3) := by decide +kernel
theorem dX15_see_64 : decode cX15_see 64 = .ok (.aload_n 0, 1) := by decide +kernel
theorem dX15_see_65 : decode cX15_see 65 = .ok (.aload 4, 2) := by decide +kernel
theorem dX15_see_67 : decode cX15_see 67 = .ok (.iload 5, 2) := by decide +kernel
theorem dX15_see_69 : decode cX15_see 69 = .ok (.invokevirtual 310, 3) := by decide +kernel
theorem dX15_see_72 : decode cX15_see 72 = .ok (.ifnonnull 8, 3) := by decide +kernel
theorem dX15_see_75 : decode cX15_see 75 = .ok (.bipush 103, 2) := by decide +kernel
theorem dX15_see_77 : decode cX15_see 77 = .ok (.goto 5, 3) := by decide +kernel
theorem dX15_see_80 : decode cX15_see 80 = .ok (.bipush 118, 2) := by decide +kernel
theorem dX15_see_82 : decode cX15_see 82 = .ok (.ireturn, 1) := by decide +kernel
theorem dX15_value_0 : decode cX15_value 0 = .ok (.aload_n 0, 1) := by decide +kernel
theorem dX15_value_1 : decode cX15_value 1 = .ok (.invokevirtual 124, 3) := by decide +kernel
theorem dX15_value_4 : decode cX15_value 4 = .ok (.aload_n 0, 1) := by decide +kernel
theorem dX15_value_5 : decode cX15_value 5 = .ok (.iload_n 1, 1) := by decide +kernel
theorem dX15_value_6 : decode cX15_value 6 = .ok (.iload_n 2, 1) := by decide +kernel
theorem dX15_value_7 : decode cX15_value 7 = .ok (.invokevirtual 296, 3) := by decide +kernel
theorem dX15_value_10 : decode cX15_value 10 = .ok (.ifCond .ne 23, 3) := by decide +kernel
theorem dX15_value_13 : decode cX15_value 13 = .ok (.aload_n 0, 1) := by decide +kernel
theorem dX15_value_14 : decode cX15_value 14 = .ok (.iload_n 3, 1) := by decide +kernel
theorem dX15_value_15 : decode cX15_value 15 = .ok (.invokestatic 206, 3) := by decide +kernel
theorem dX15_value_18 : decode cX15_value 18 = .ok (.ifCond .ne 7, 3) := by decide +kernel
theorem dX15_value_21 : decode cX15_value 21 = .ok (.iconst 1, 1) := by decide +kernel
theorem dX15_value_22 : decode cX15_value 22 = .ok (.goto 4, 3) := by decide +kernel
theorem dX15_value_25 : decode cX15_value 25 = .ok (.iconst 0, 1) := by decide +kernel
theorem dX15_value_26 : decode cX15_value 26 = .ok (.iconst 2, 1) := by decide +kernel
theorem dX15_value_27 : decode cX15_value 27 = .ok (.invokevirtual 98, 3) := by decide +kernel
theorem dX15_value_30 : decode cX15_value 30 = .ok (.ifCond .eq 5, 3) := by decide +kernel
theorem dX15_value_33 : decode cX15_value 33 = .ok (.iconst (-1), 1) := by decide +kernel
theorem dX15_value_34 : decode cX15_value 34 = .ok (.ireturn, 1) := by decide +kernel
theorem dX15_value_35 : decode cX15_value 35 = .ok (.aload_n 0, 1) := by decide +kernel
theorem dX15_value_36 : decode cX15_value 36 = .ok (.iload_n 1, 1) := by decide +kernel
theorem dX15_value_37 : decode cX15_value 37 = .ok (.iload_n 2, 1) := by decide +kernel
theorem dX15_value_38 : decode cX15_value 38 = .ok (.invokevirtual 302, 3) := by decide +kernel
theorem dX15_value_41 : decode cX15_value 41 = .ok (.astore 5, 2) := by decide +kernel
theorem dX15_value_43 : decode cX15_value 43 = .ok (.aload_n 0, 1) := by decide +kernel
theorem dX15_value_44 : decode cX15_value 44 = .ok (.aload 5, 2) := by decide +kernel
theorem dX15_value_46 : decode cX15_value 46 = .ok (.iload_n 3, 1) := by decide +kernel
theorem dX15_value_47 : decode cX15_value 47 = .ok (.invokevirtual 306, 3) := by decide +kernel
theorem dX15_value_50 : decode cX15_value 50 = .ok (.istore 6, 2) := by decide +kernel
theorem dX15_value_52 : decode cX15_value 52 = .ok (.aload_n 0, 1) := by decide +kernel
theorem dX15_value_53 : decode cX15_value 53 = .ok (.iload 6, 2) := by decide +kernel
theorem dX15_value_55 : decode cX15_value 55 = .ok (.iconst (-1), 1) := by decide +kernel
theorem dX15_value_56 : decode cX15_value 56 = .ok (.if_icmp .eq 40, 3) := by decide +kernel
theorem dX15_value_59 : decode cX15_value 59 = .ok (.iload 4, 2) := by decide +kernel
theorem dX15_value_61 : decode cX15_value 61 = .ok (.i2l, 1) := by decide +kernel
theorem dX15_value_62 : decode cX15_value 62 = .ok (.lconst 0, 1) := by decide +kernel
theorem dX15_value_63 : decode cX15_value 63 = .ok (.aload_n 0, 1) := by decide +kernel
theorem dX15_value_64 : decode cX15_value 64 = .ok (.getfield 66, 3) := by decide +kernel
theorem dX15_value_67 : decode cX15_value 67 = .ok (.iconst 0, 1) := by decide +kernel
theorem dX15_value_68 : decode cX15_value 68 = .ok (.iload 6, 2) := by decide +kernel
theorem dX15_value_70 : decode cX15_value 70 = .ok (.invokestatic 314, 3) := by decide +kernel
theorem dX15_value_73 : decode cX15_value 73 = .ok (.invokeinterface 168 2, 5) := by decide +kernel
theorem dX15_value_78 : decode cX15_value 78 = .ok (.checkcast 152, 3) := by decide +kernel
theorem dX15_value_81 : decode cX15_value 81 = .ok (.iconst 3, 1) := by decide +kernel
theorem dX15_value_82 : decode cX15_value 82 = .ok (.iaload, 1) := by decide +kernel
theorem dX15_value_83 : decode cX15_value 83 = .ok (.iconst 1, 1) := by decide +kernel
theorem dX15_value_84 : decode cX15_value 84 = .ok (.isub, 1) := by decide +kernel
theorem dX15_value_85 : decode cX15_value 85 = .ok (.i2l, 1) := by decide +kernel
theorem dX15_value_86 : decode cX15_value 86 = .ok (.invokestatic 13, 3) := by decide +kernel
theorem dX15_value_89 : decode cX15_value 89 = .ok (.ifCond .ne 7, 3) := by decide +kernel
theorem dX15_value_92 : decode cX15_value 92 = .ok (.iconst 1, 1) := by decide +kernel
theorem dX15_value_93 : decode cX15_value 93 = .ok (.goto 4, 3) := by decide +kernel
theorem dX15_value_96 : decode cX15_value 96 = .ok (.iconst 0, 1) := by decide +kernel
theorem dX15_value_97 : decode cX15_value 97 = .ok (.iconst 1, 1) := by decide +kernel
theorem dX15_value_98 : decode cX15_value 98 = .ok (.invokevirtual 98, 3) := by decide +kernel
theorem dX15_value_101 : decode cX15_value 101 = .ok (.ifCond .ne 33, 3) := by decide +kernel
theorem dX15_value_104 : decode cX15_value 104 = .ok (.aload_n 0, 1) := by decide +kernel
theorem dX15_value_105 : decode cX15_value 105 = .ok (.iload 6, 2) := by decide +kernel
theorem dX15_value_107 : decode cX15_value 107 = .ok (.iconst (-1), 1) := by decide +kernel
theorem dX15_value_108 : decode cX15_value 108 = .ok (.if_icmp .eq 14, 3) := by decide +kernel
theorem dX15_value_111 : decode cX15_value 111 = .ok (.aload_n 0, 1) := by decide +kernel
theorem dX15_value_112 : decode cX15_value 112 = .ok (.aload 5, 2) := by decide +kernel
theorem dX15_value_114 : decode cX15_value 114 = .ok (.iload 6, 2) := by decide +kernel
theorem dX15_value_116 : decode cX15_value 116 = .ok (.invokevirtual 310, 3) := by decide +kernel
theorem dX15_value_119 : decode cX15_value 119 = .ok (.ifnonnull 7, 3) := by decide +kernel
theorem dX15_value_122 : decode cX15_value 122 = .ok (.iconst 1, 1) := by decide +kernel
theorem dX15_value_123 : decode cX15_value 123 = .ok (.goto 4, 3) := by decide +kernel
theorem dX15_value_126 : decode cX15_value 126 = .ok (.iconst 0, 1) := by decide +kernel
theorem dX15_value_127 : decode cX15_value 127 = .ok (.iconst 3, 1) := by decide +kernel
theorem dX15_value_128 : decode cX15_value 128 = .ok (.invokevirtual 98, 3) := by decide +kernel
theorem dX15_value_131 : decode cX15_value 131 = .ok (.ifCond .eq 5, 3) := by decide +kernel
theorem dX15_value_134 : decode cX15_value 134 = .ok (.iconst (-1), 1) := by decide +kernel
theorem dX15_value_135 : decode cX15_value 135 = .ok (.ireturn, 1) := by decide +kernel
theorem dX15_value_136 : decode cX15_value 136 = .ok (.aload_n 0, 1) := by decide +kernel
theorem dX15_value_137 : decode cX15_value 137 = .ok (.aload_n 0, 1) := by decide +kernel
theorem dX15_value_138 : decode cX15_value 138 = .ok (.getfield 26, 3) := by decide +kernel
theorem dX15_value_141 : decode cX15_value 141 = .ok (.getfield 91, 3) := by decide +kernel
theorem dX15_value_144 : decode cX15_value 144 = .ok (.iload_n 1, 1) := by decide +kernel
theorem dX15_value_145 : decode cX15_value 145 = .ok (.invokeinterface 168 2, 5) := by decide +kernel
theorem dX15_value_150 : decode cX15_value 150 = .ok (.checkcast 212, 3) := by decide +kernel
theorem dX15_value_153 : decode cX15_value 153 = .ok (.aload 5, 2) := by decide +kernel
theorem dX15_value_155 : decode cX15_value 155 = .ok (.aload_n 0, 1) := by decide +kernel
theorem dX15_value_156 : decode cX15_value 156 = .ok (.aload 5, 2) := by decide +kernel
theorem dX15_value_158 : decode cX15_value 158 = .ok (.iload 6, 2) := by decide +kernel
theorem dX15_value_160 : decode cX15_value 160 = .ok (.invokevirtual 310, 3) := by decide +kernel
theorem dX15_value_163 : decode cX15_value 163 = .ok (.iload 4, 2) := by decide +kernel
theorem dX15_value_165 : decode cX15_value 165 = .ok (.invokevirtual 319, 3) := by decide +kernel
theorem dX15_value_168 : decode cX15_value 168 = .ok (.ireturn, 1) := by decide +kernel
theorem dX15_show_0 : decode cX15_show 0 = .ok (.aload_n 0, 1) := by decide +kernel
theorem dX15_show_1 : decode cX15_show 1 = .ok (.invokevirtual 124, 3) := by decide +kernel
theorem dX15_show_4 : decode cX15_show 4 = .ok (.aload_n 0, 1) := by decide +kernel
theorem dX15_show_5 : decode cX15_show 5 = .ok (.iload_n 1, 1) := by decide +kernel
theorem dX15_show_6 : decode cX15_show 6 = .ok (.iload_n 2, 1) := by decide +kernel
theorem dX15_show_7 : decode cX15_show 7 = .ok (.invokevirtual 296, 3) := by decide +kernel
theorem dX15_show_10 : decode cX15_show 10 = .ok (.ifCond .ne 23, 3) := by decide +kernel
theorem dX15_show_13 : decode cX15_show 13 = .ok (.aload_n 0, 1) := by decide +kernel
theorem dX15_show_14 : decode cX15_show 14 = .ok (.iload_n 3, 1) := by decide +kernel
theorem dX15_show_15 : decode cX15_show 15 = .ok (.invokestatic 206, 3) := by decide +kernel
theorem dX15_show_18 : decode cX15_show 18 = .ok (.ifCond .ne 7, 3) := by decide +kernel
theorem dX15_show_21 : decode cX15_show 21 = .ok (.iconst 1, 1) := by decide +kernel
theorem dX15_show_22 : decode cX15_show 22 = .ok (.goto 4, 3) := by decide +kernel
theorem dX15_show_25 : decode cX15_show 25 = .ok (.iconst 0, 1) := by decide +kernel
theorem dX15_show_26 : decode cX15_show 26 = .ok (.iconst 2, 1) := by decide +kernel
theorem dX15_show_27 : decode cX15_show 27 = .ok (.invokevirtual 98, 3) := by decide +kernel
theorem dX15_show_30 : decode cX15_show 30 = .ok (.ifCond .eq 5, 3) := by decide +kernel
theorem dX15_show_33 : decode cX15_show 33 = .ok (.iconst (-1), 1) := by decide +kernel
theorem dX15_show_34 : decode cX15_show 34 = .ok (.ireturn, 1) := by decide +kernel
theorem dX15_show_35 : decode cX15_show 35 = .ok (.aload_n 0, 1) := by decide +kernel
theorem dX15_show_36 : decode cX15_show 36 = .ok (.iload_n 1, 1) := by decide +kernel
theorem dX15_show_37 : decode cX15_show 37 = .ok (.iload_n 2, 1) := by decide +kernel
theorem dX15_show_38 : decode cX15_show 38 = .ok (.invokevirtual 302, 3) := by decide +kernel
theorem dX15_show_41 : decode cX15_show 41 = .ok (.astore 4, 2) := by decide +kernel
theorem dX15_show_43 : decode cX15_show 43 = .ok (.aload_n 0, 1) := by decide +kernel
theorem dX15_show_44 : decode cX15_show 44 = .ok (.aload 4, 2) := by decide +kernel
theorem dX15_show_46 : decode cX15_show 46 = .ok (.iload_n 3, 1) := by decide +kernel
theorem dX15_show_47 : decode cX15_show 47 = .ok (.invokevirtual 306, 3) := by decide +kernel
theorem dX15_show_50 : decode cX15_show 50 = .ok (.istore 5, 2) := by decide +kernel
theorem dX15_show_52 : decode cX15_show 52 = .ok (.aload_n 0, 1) := by decide +kernel
theorem dX15_show_53 : decode cX15_show 53 = .ok (.iload 5, 2) := by decide +kernel
theorem dX15_show_55 : decode cX15_show 55 = .ok (.iconst (-1), 1) := by decide +kernel
theorem dX15_show_56 : decode cX15_show 56 = .ok (.if_icmp .ne 7, 3) := by decide +kernel
theorem dX15_show_59 : decode cX15_show 59 = .ok (.iconst 1, 1) := by decide +kernel
theorem dX15_show_60 : decode cX15_show 60 = .ok (.goto 4, 3) := by decide +kernel
theorem dX15_show_63 : decode cX15_show 63 = .ok (.iconst 0, 1) := by decide +kernel
theorem dX15_show_64 : decode cX15_show 64 = .ok (.iconst 3, 1) := by decide +kernel
theorem dX15_show_65 : decode cX15_show 65 = .ok (.invokevirtual 98, 3) := by decide +kernel
theorem dX15_show_68 : decode cX15_show 68 = .ok (.ifCond .eq 5, 3) := by decide +kernel
theorem dX15_show_71 : decode cX15_show 71 = .ok (.iconst (-1), 1) := by decide +kernel
theorem dX15_show_72 : decode cX15_show 72 = .ok (.ireturn, 1) := by decide +kernel
theorem dX15_show_73 : decode cX15_show 73 = .ok (.aload_n 0, 1) := by decide +kernel
theorem dX15_show_74 : decode cX15_show 74 = .ok (.aload 4, 2) := by decide +kernel
theorem dX15_show_76 : decode cX15_show 76 = .ok (.iload 5, 2) := by decide +kernel
theorem dX15_show_78 : decode cX15_show 78 = .ok (.invokevirtual 310, 3) := by decide +kernel
theorem dX15_show_81 : decode cX15_show 81 = .ok (.astore 6, 2) := by decide +kernel
theorem dX15_show_83 : decode cX15_show 83 = .ok (.aload_n 0, 1) := by decide +kernel
theorem dX15_show_84 : decode cX15_show 84 = .ok (.getfield 66, 3) := by decide +kernel
theorem dX15_show_87 : decode cX15_show 87 = .ok (.iload 5, 2) := by decide +kernel
theorem dX15_show_89 : decode cX15_show 89 = .ok (.invokeinterface 168 2, 5) := by decide +kernel
theorem dX15_show_94 : decode cX15_show 94 = .ok (.checkcast 152, 3) := by decide +kernel
theorem dX15_show_97 : decode cX15_show 97 = .ok (.iconst 3, 1) := by decide +kernel
theorem dX15_show_98 : decode cX15_show 98 = .ok (.iaload, 1) := by decide +kernel
theorem dX15_show_99 : decode cX15_show 99 = .ok (.istore 7, 2) := by decide +kernel
theorem dX15_show_101 : decode cX15_show 101 = .ok (.aload 6, 2) := by decide +kernel
theorem dX15_show_103 : decode cX15_show 103 = .ok (.ifnonnull 9, 3) := by decide +kernel
theorem dX15_show_106 : decode cX15_show 106 = .ok (.ldc_w 350, 3) := by decide +kernel
theorem dX15_show_109 : decode cX15_show 109 = .ok (.goto 17, 3) := by decide +kernel
theorem dX15_show_112 : decode cX15_show 112 = .ok (.iload 7, 2) := by decide +kernel
theorem dX15_show_114 : decode cX15_show 114 = .ok (.iconst 1, 1) := by decide +kernel
theorem dX15_show_115 : decode cX15_show 115 = .ok (.if_icmp .le 9, 3) := by decide +kernel
theorem dX15_show_118 : decode cX15_show 118 = .ok (.ldc_w 352, 3) := by decide +kernel
theorem dX15_show_121 : decode cX15_show 121 = .ok (.goto 5, 3) := by decide +kernel
theorem dX15_show_124 : decode cX15_show 124 = .ok (.ldc 72, 2) := by decide +kernel
theorem dX15_show_126 : decode cX15_show 126 = .ok (.astore 8, 2) := by decide +kernel
theorem dX15_show_128 : decode cX15_show 128 = .ok (.iconst 0, 1) := by decide +kernel
theorem dX15_show_129 : decode cX15_show 129 = .ok (.istore 9, 2) := by decide +kernel
theorem dX15_show_131 : decode cX15_show 131 = .ok (.iload 9, 2) := by decide +kernel
theorem dX15_show_133 : decode cX15_show 133 = .ok (.iload 7, 2) := by decide +kernel
theorem dX15_show_135 : decode cX15_show 135 = .ok (.if_icmp .ge 95, 3) := by decide +kernel
theorem dX15_show_138 : decode cX15_show 138 = .ok (.aload 6, 2) := by decide +kernel
theorem dX15_show_140 : decode cX15_show 140 = .ok (.ifnull 90, 3) := by decide +kernel
theorem dX15_show_143 : decode cX15_show 143 = .ok (.new 331, 3) := by decide +kernel
theorem dX15_show_146 : decode cX15_show 146 = .ok (.dup, 1) := by decide +kernel
theorem dX15_show_147 : decode cX15_show 147 = .ok (.invokespecial 333, 3) := by decide +kernel
theorem dX15_show_150 : decode cX15_show 150 = .ok (.aload 8, 2) := by decide +kernel
theorem dX15_show_152 : decode cX15_show 152 = .ok (.invokevirtual 336, 3) := by decide +kernel
theorem dX15_show_155 : decode cX15_show 155 = .ok (.iload 9, 2) := by decide +kernel
theorem dX15_show_157 : decode cX15_show 157 = .ok (.ifCond .le 9, 3) := by decide +kernel
theorem dX15_show_160 : decode cX15_show 160 = .ok (.ldc_w 354, 3) := by decide +kernel
theorem dX15_show_163 : decode cX15_show 163 = .ok (.goto 5, 3) := by decide +kernel
theorem dX15_show_166 : decode cX15_show 166 = .ok (.ldc 72, 2) := by decide +kernel
theorem dX15_show_168 : decode cX15_show 168 = .ok (.invokevirtual 336, 3) := by decide +kernel
theorem dX15_show_171 : decode cX15_show 171 = .ok (.aload_n 0, 1) := by decide +kernel
theorem dX15_show_172 : decode cX15_show 172 = .ok (.aload_n 0, 1) := by decide +kernel
theorem dX15_show_173 : decode cX15_show 173 = .ok (.getfield 26, 3) := by decide +kernel
theorem dX15_show_176 : decode cX15_show 176 = .ok (.getfield 91, 3) := by decide +kernel
theorem dX15_show_179 : decode cX15_show 179 = .ok (.iload_n 1, 1) := by decide +kernel
theorem dX15_show_180 : decode cX15_show 180 = .ok (.invokeinterface 168 2, 5) := by decide +kernel
theorem dX15_show_185 : decode cX15_show 185 = .ok (.checkcast 212, 3) := by decide +kernel
theorem dX15_show_188 : decode cX15_show 188 = .ok (.aload 4, 2) := by decide +kernel
theorem dX15_show_190 : decode cX15_show 190 = .ok (.aload 6, 2) := by decide +kernel
theorem dX15_show_192 : decode cX15_show 192 = .ok (.iload 9, 2) := by decide +kernel
theorem dX15_show_194 : decode cX15_show 194 = .ok (.invokevirtual 319, 3) := by decide +kernel
theorem dX15_show_197 : decode cX15_show 197 = .ok (.aload_n 0, 1) := by decide +kernel
theorem dX15_show_198 : decode cX15_show 198 = .ok (.getfield 66, 3) := by decide +kernel
theorem dX15_show_201 : decode cX15_show 201 = .ok (.iload 5, 2) := by decide +kernel
theorem dX15_show_203 : decode cX15_show 203 = .ok (.invokeinterface 168 2, 5) := by decide +kernel
theorem dX15_show_208 : decode cX15_show 208 = .ok (.checkcast 152, 3) := by decide +kernel
theorem dX15_show_211 : decode cX15_show 211 = .ok (.iconst 2, 1) := by decide +kernel
theorem dX15_show_212 : decode cX15_show 212 = .ok (.iaload, 1) := by decide +kernel
theorem dX15_show_213 : decode cX15_show 213 = .ok (.invokestatic 356, 3) := by decide +kernel
theorem dX15_show_216 : decode cX15_show 216 = .ok (.invokevirtual 336, 3) := by decide +kernel
theorem dX15_show_219 : decode cX15_show 219 = .ok (.invokevirtual 343, 3) := by decide +kernel
theorem dX15_show_222 : decode cX15_show 222 = .ok (.astore 8, 2) := by decide +kernel
theorem dX15_show_224 : decode cX15_show 224 = .ok (.iinc 9 1, 3) := by decide +kernel
theorem dX15_show_227 : decode cX15_show 227 = .ok (.goto (-96), 3) := by decide +kernel
theorem dX15_show_230 : decode cX15_show 230 = .ok (.aload_n 0, 1) := by decide +kernel
theorem dX15_show_231 : decode cX15_show 231 = .ok (.aload 6, 2) := by decide +kernel
theorem dX15_show_233 : decode cX15_show 233 = .ok (.ifnull 33, 3) := by decide +kernel
theorem dX15_show_236 : decode cX15_show 236 = .ok (.iload 7, 2) := by decide +kernel
theorem dX15_show_238 : decode cX15_show 238 = .ok (.iconst 1, 1) := by decide +kernel
theorem dX15_show_239 : decode cX15_show 239 = .ok (.if_icmp .le 27, 3) := by decide +kernel
theorem dX15_show_242 : decode cX15_show 242 = .ok (.new 331, 3) := by decide +kernel
theorem dX15_show_245 : decode cX15_show 245 = .ok (.dup, 1) := by decide +kernel
theorem dX15_show_246 : decode cX15_show 246 = .ok (.invokespecial 333, 3) := by decide +kernel
theorem dX15_show_249 : decode cX15_show 249 = .ok (.aload 8, 2) := by decide +kernel
theorem dX15_show_251 : decode cX15_show 251 = .ok (.invokevirtual 336, 3) := by decide +kernel
theorem dX15_show_254 : decode cX15_show 254 = .ok (.ldc_w 360, 3) := by decide +kernel
theorem dX15_show_257 : decode cX15_show 257 = .ok (.invokevirtual 336, 3) := by decide +kernel
theorem dX15_show_260 : decode cX15_show 260 = .ok (.invokevirtual 343, 3) := by decide +kernel
theorem dX15_show_263 : decode cX15_show 263 = .ok (.goto 5, 3) := by decide +kernel
theorem dX15_show_266 : decode cX15_show 266 = .ok (.aload 8, 2) := by decide +kernel
theorem dX15_show_268 : decode cX15_show 268 = .ok (.putfield 74, 3) := by decide +kernel
theorem dX15_show_271 : decode cX15_show 271 = .ok (.aload_n 0, 1) := by decide +kernel
theorem dX15_show_272 : decode cX15_show 272 = .ok (.getfield 74, 3) := by decide +kernel
theorem dX15_show_275 : decode cX15_show 275 = .ok (.invokevirtual 362, 3) := by decide +kernel
theorem dX15_show_278 : decode cX15_show 278 = .ok (.ireturn, 1) := by decide +kernel
theorem dX15_shown_0 : decode cX15_shown 0 = .ok (.aload_n 0, 1) := by decide +kernel
theorem dX15_shown_1 : decode cX15_shown 1 = .ok (.invokevirtual 124, 3) := by decide +kernel
theorem dX15_shown_4 : decode cX15_shown 4 = .ok (.aload_n 0, 1) := by decide +kernel
theorem dX15_shown_5 : decode cX15_shown 5 = .ok (.iload_n 1, 1) := by decide +kernel
theorem dX15_shown_6 : decode cX15_shown 6 = .ok (.i2l, 1) := by decide +kernel
theorem dX15_shown_7 : decode cX15_shown 7 = .ok (.lconst 0, 1) := by decide +kernel
theorem dX15_shown_8 : decode cX15_shown 8 = .ok (.aload_n 0, 1) := by decide +kernel
theorem dX15_shown_9 : decode cX15_shown 9 = .ok (.getfield 74, 3) := by decide +kernel
theorem dX15_shown_12 : decode cX15_shown 12 = .ok (.invokevirtual 362, 3) := by decide +kernel
theorem dX15_shown_15 : decode cX15_shown 15 = .ok (.iconst 1, 1) := by decide +kernel
theorem dX15_shown_16 : decode cX15_shown 16 = .ok (.isub, 1) := by decide +kernel
theorem dX15_shown_17 : decode cX15_shown 17 = .ok (.i2l, 1) := by decide +kernel
theorem dX15_shown_18 : decode cX15_shown 18 = .ok (.invokestatic 13, 3) := by decide +kernel
theorem dX15_shown_21 : decode cX15_shown 21 = .ok (.ifCond .ne 7, 3) := by decide +kernel
theorem dX15_shown_24 : decode cX15_shown 24 = .ok (.iconst 1, 1) := by decide +kernel
theorem dX15_shown_25 : decode cX15_shown 25 = .ok (.goto 4, 3) := by decide +kernel
theorem dX15_shown_28 : decode cX15_shown 28 = .ok (.iconst 0, 1) := by decide +kernel
theorem dX15_shown_29 : decode cX15_shown 29 = .ok (.iconst 1, 1) := by decide +kernel
theorem dX15_shown_30 : decode cX15_shown 30 = .ok (.invokevirtual 98, 3) := by decide +kernel
theorem dX15_shown_33 : decode cX15_shown 33 = .ok (.ifCond .eq 8, 3) := by decide +kernel
theorem dX15_shown_36 : decode cX15_shown 36 = .ok (.bipush 32, 2) := by decide +kernel
theorem dX15_shown_38 : decode cX15_shown 38 = .ok (.goto 11, 3) := by decide +kernel
theorem dX15_shown_41 : decode cX15_shown 41 = .ok (.aload_n 0, 1) := by decide +kernel
theorem dX15_shown_42 : decode cX15_shown 42 = .ok (.getfield 74, 3) := by decide +kernel
theorem dX15_shown_45 : decode cX15_shown 45 = .ok (.iload_n 1, 1) := by decide +kernel
theorem dX15_shown_46 : decode cX15_shown 46 = .ok (.invokevirtual 364, 3) := by decide +kernel
theorem dX15_shown_49 : decode cX15_shown 49 = .ok (.ireturn, 1) := by decide +kernel
theorem dX15_stop_0 : decode cX15_stop 0 = .ok (.aload_n 0, 1) := by decide +kernel
theorem dX15_stop_1 : decode cX15_stop 1 = .ok (.invokevirtual 124, 3) := by decide +kernel
theorem dX15_stop_4 : decode cX15_stop 4 = .ok (.aload_n 0, 1) := by decide +kernel
theorem dX15_stop_5 : decode cX15_stop 5 = .ok (.aload_n 0, 1) := by decide +kernel
theorem dX15_stop_6 : decode cX15_stop 6 = .ok (.iload_n 1, 1) := by decide +kernel
theorem dX15_stop_7 : decode cX15_stop 7 = .ok (.invokevirtual 164, 3) := by decide +kernel
theorem dX15_stop_10 : decode cX15_stop 10 = .ok (.ifCond .ne 7, 3) := by decide +kernel
theorem dX15_stop_13 : decode cX15_stop 13 = .ok (.iconst 1, 1) := by decide +kernel
theorem dX15_stop_14 : decode cX15_stop 14 = .ok (.goto 4, 3) := by decide +kernel
theorem dX15_stop_17 : decode cX15_stop 17 = .ok (.iconst 0, 1) := by decide +kernel
theorem dX15_stop_18 : decode cX15_stop 18 = .ok (.iconst 1, 1) := by decide +kernel
theorem dX15_stop_19 : decode cX15_stop 19 = .ok (.invokevirtual 98, 3) := by decide +kernel
theorem dX15_stop_22 : decode cX15_stop 22 = .ok (.ifCond .eq 5, 3) := by decide +kernel
theorem dX15_stop_25 : decode cX15_stop 25 = .ok (.iconst (-1), 1) := by decide +kernel
theorem dX15_stop_26 : decode cX15_stop 26 = .ok (.ireturn, 1) := by decide +kernel
theorem dX15_stop_27 : decode cX15_stop 27 = .ok (.new 367, 3) := by decide +kernel
theorem dX15_stop_30 : decode cX15_stop 30 = .ok (.dup, 1) := by decide +kernel
theorem dX15_stop_31 : decode cX15_stop 31 = .ok (.invokespecial 369, 3) := by decide +kernel
theorem dX15_stop_34 : decode cX15_stop 34 = .ok (.astore_n 2, 1) := by decide +kernel
theorem dX15_stop_35 : decode cX15_stop 35 = .ok (.aload_n 2, 1) := by decide +kernel
theorem dX15_stop_36 : decode cX15_stop 36 = .ok (.getfield 370, 3) := by decide +kernel
theorem dX15_stop_39 : decode cX15_stop 39 = .ok (.iload_n 1, 1) := by decide +kernel
theorem dX15_stop_40 : decode cX15_stop 40 = .ok (.iconst 1, 1) := by decide +kernel
theorem dX15_stop_41 : decode cX15_stop 41 = .ok (.bastore, 1) := by decide +kernel
theorem dX15_stop_42 : decode cX15_stop 42 = .ok (.aload_n 0, 1) := by decide +kernel
theorem dX15_stop_43 : decode cX15_stop 43 = .ok (.aload_n 2, 1) := by decide +kernel
theorem dX15_stop_44 : decode cX15_stop 44 = .ok (.invokevirtual 373, 3) := by decide +kernel
theorem dX15_stop_47 : decode cX15_stop 47 = .ok (.ireturn, 1) := by decide +kernel
theorem dX15_stopIn_0 : decode cX15_stopIn 0 = .ok (.aload_n 0, 1) := by decide +kernel
theorem dX15_stopIn_1 : decode cX15_stopIn 1 = .ok (.invokevirtual 124, 3) := by decide +kernel
theorem dX15_stopIn_4 : decode cX15_stopIn 4 = .ok (.aload_n 0, 1) := by decide +kernel
theorem dX15_stopIn_5 : decode cX15_stopIn 5 = .ok (.aload_n 0, 1) := by decide +kernel
theorem dX15_stopIn_6 : decode cX15_stopIn 6 = .ok (.getfield 48, 3) := by decide +kernel
theorem dX15_stopIn_9 : decode cX15_stopIn 9 = .ok (.iload_n 1, 1) := by decide +kernel
theorem dX15_stopIn_10 : decode cX15_stopIn 10 = .ok (.invokestatic 94, 3) := by decide +kernel
theorem dX15_stopIn_13 : decode cX15_stopIn 13 = .ok (.ifCond .ne 7, 3) := by decide +kernel
theorem dX15_stopIn_16 : decode cX15_stopIn 16 = .ok (.iconst 1, 1) := by decide +kernel
theorem dX15_stopIn_17 : decode cX15_stopIn 17 = .ok (.goto 4, 3) := by decide +kernel
theorem dX15_stopIn_20 : decode cX15_stopIn 20 = .ok (.iconst 0, 1) := by decide +kernel
theorem dX15_stopIn_21 : decode cX15_stopIn 21 = .ok (.iconst 1, 1) := by decide +kernel
theorem dX15_stopIn_22 : decode cX15_stopIn 22 = .ok (.invokevirtual 98, 3) := by decide +kernel
theorem dX15_stopIn_25 : decode cX15_stopIn 25 = .ok (.ifCond .eq 5, 3) := by decide +kernel
theorem dX15_stopIn_28 : decode cX15_stopIn 28 = .ok (.iconst (-1), 1) := by decide +kernel
theorem dX15_stopIn_29 : decode cX15_stopIn 29 = .ok (.ireturn, 1) := by decide +kernel
theorem dX15_stopIn_30 : decode cX15_stopIn 30 = .ok (.aload_n 0, 1) := by decide +kernel
theorem dX15_stopIn_31 : decode cX15_stopIn 31 = .ok (.getfield 48, 3) := by decide +kernel
theorem dX15_stopIn_34 : decode cX15_stopIn 34 = .ok (.iload_n 1, 1) := by decide +kernel
theorem dX15_stopIn_35 : decode cX15_stopIn 35 = .ok (.invokeinterface 168 2, 5) := by decide +kernel
theorem dX15_stopIn_40 : decode cX15_stopIn 40 = .ok (.checkcast 152, 3) := by decide +kernel
theorem dX15_stopIn_43 : decode cX15_stopIn 43 = .ok (.astore_n 2, 1) := by decide +kernel
theorem dX15_stopIn_44 : decode cX15_stopIn 44 = .ok (.aload_n 2, 1) := by decide +kernel
theorem dX15_stopIn_45 : decode cX15_stopIn 45 = .ok (.iconst 0, 1) := by decide +kernel
theorem dX15_stopIn_46 : decode cX15_stopIn 46 = .ok (.iaload, 1) := by decide +kernel
theorem dX15_stopIn_47 : decode cX15_stopIn 47 = .ok (.istore_n 3, 1) := by decide +kernel
theorem dX15_stopIn_48 : decode cX15_stopIn 48 = .ok (.aload_n 2, 1) := by decide +kernel
theorem dX15_stopIn_49 : decode cX15_stopIn 49 = .ok (.iconst 1, 1) := by decide +kernel
theorem dX15_stopIn_50 : decode cX15_stopIn 50 = .ok (.iaload, 1) := by decide +kernel
theorem dX15_stopIn_51 : decode cX15_stopIn 51 = .ok (.istore 4, 2) := by decide +kernel
theorem dX15_stopIn_53 : decode cX15_stopIn 53 = .ok (.iload 4, 2) := by decide +kernel
theorem dX15_stopIn_55 : decode cX15_stopIn 55 = .ok (.aload_n 2, 1) := by decide +kernel
theorem dX15_stopIn_56 : decode cX15_stopIn 56 = .ok (.iconst 0, 1) := by decide +kernel
theorem dX15_stopIn_57 : decode cX15_stopIn 57 = .ok (.iaload, 1) := by decide +kernel
theorem dX15_stopIn_58 : decode cX15_stopIn 58 = .ok (.if_icmp .lt 27, 3) := by decide +kernel
theorem dX15_stopIn_61 : decode cX15_stopIn 61 = .ok (.aload_n 0, 1) := by decide +kernel
theorem dX15_stopIn_62 : decode cX15_stopIn 62 = .ok (.iload 4, 2) := by decide +kernel
theorem dX15_stopIn_64 : decode cX15_stopIn 64 = .ok (.invokevirtual 195, 3) := by decide +kernel
theorem dX15_stopIn_67 : decode cX15_stopIn 67 = .ok (.bipush 105, 2) := by decide +kernel
theorem dX15_stopIn_69 : decode cX15_stopIn 69 = .ok (.if_icmp .ne 8, 3) := by decide +kernel
theorem dX15_stopIn_72 : decode cX15_stopIn 72 = .ok (.iload 4, 2) := by decide +kernel
theorem dX15_stopIn_74 : decode cX15_stopIn 74 = .ok (.goto 4, 3) := by decide +kernel
theorem dX15_stopIn_77 : decode cX15_stopIn 77 = .ok (.iload_n 3, 1) := by decide +kernel
theorem dX15_stopIn_78 : decode cX15_stopIn 78 = .ok (.istore_n 3, 1) := by decide +kernel
theorem dX15_stopIn_79 : decode cX15_stopIn 79 = .ok (.iinc 4 (-1), 3) := by decide +kernel
theorem dX15_stopIn_82 : decode cX15_stopIn 82 = .ok (.goto (-29), 3) := by decide +kernel
theorem dX15_stopIn_85 : decode cX15_stopIn 85 = .ok (.new 367, 3) := by decide +kernel
theorem dX15_stopIn_88 : decode cX15_stopIn 88 = .ok (.dup, 1) := by decide +kernel
theorem dX15_stopIn_89 : decode cX15_stopIn 89 = .ok (.invokespecial 369, 3) := by decide +kernel
theorem dX15_stopIn_92 : decode cX15_stopIn 92 = .ok (.astore 4, 2) := by decide +kernel
theorem dX15_stopIn_94 : decode cX15_stopIn 94 = .ok (.aload 4, 2) := by decide +kernel
theorem dX15_stopIn_96 : decode cX15_stopIn 96 = .ok (.getfield 370, 3) := by decide +kernel
theorem dX15_stopIn_99 : decode cX15_stopIn 99 = .ok (.iload_n 3, 1) := by decide +kernel
theorem dX15_stopIn_100 : decode cX15_stopIn 100 = .ok (.iconst 1, 1) := by decide +kernel
theorem dX15_stopIn_101 : decode cX15_stopIn 101 = .ok (.bastore, 1) := by decide +kernel
theorem dX15_stopIn_102 : decode cX15_stopIn 102 = .ok (.aload_n 0, 1) := by decide +kernel
theorem dX15_stopIn_103 : decode cX15_stopIn 103 = .ok (.aload 4, 2) := by decide +kernel
theorem dX15_stopIn_105 : decode cX15_stopIn 105 = .ok (.invokevirtual 373, 3) := by decide +kernel
theorem dX15_stopIn_108 : decode cX15_stopIn 108 = .ok (.ireturn, 1) := by decide +kernel
theorem dX15_when_0 : decode cX15_when 0 = .ok (.aload_n 0, 1) := by decide +kernel
theorem dX15_when_1 : decode cX15_when 1 = .ok (.invokevirtual 124, 3) := by decide +kernel
theorem dX15_when_4 : decode cX15_when 4 = .ok (.aload_n 0, 1) := by decide +kernel
theorem dX15_when_5 : decode cX15_when 5 = .ok (.iload_n 1, 1) := by decide +kernel
theorem dX15_when_6 : decode cX15_when 6 = .ok (.invokevirtual 379, 3) := by decide +kernel
theorem dX15_when_9 : decode cX15_when 9 = .ok (.ifCond .ne 39, 3) := by decide +kernel
theorem dX15_when_12 : decode cX15_when 12 = .ok (.aload_n 0, 1) := by decide +kernel
theorem dX15_when_13 : decode cX15_when 13 = .ok (.iload_n 2, 1) := by decide +kernel
theorem dX15_when_14 : decode cX15_when 14 = .ok (.bipush 45, 2) := by decide +kernel
theorem dX15_when_16 : decode cX15_when 16 = .ok (.if_icmp .eq 24, 3) := by decide +kernel
theorem dX15_when_19 : decode cX15_when 19 = .ok (.iload_n 2, 1) := by decide +kernel
theorem dX15_when_20 : decode cX15_when 20 = .ok (.invokestatic 206, 3) := by decide +kernel
theorem dX15_when_23 : decode cX15_when 23 = .ok (.ifCond .eq 13, 3) := by decide +kernel
theorem dX15_when_26 : decode cX15_when 26 = .ok (.ldc_w 382, 3) := by decide +kernel
theorem dX15_when_29 : decode cX15_when 29 = .ok (.iload_n 3, 1) := by decide +kernel
theorem dX15_when_30 : decode cX15_when 30 = .ok (.invokevirtual 104, 3) := by decide +kernel
theorem dX15_when_33 : decode cX15_when 33 = .ok (.ifCond .ge 7, 3) := by decide +kernel
theorem dX15_when_36 : decode cX15_when 36 = .ok (.iconst 1, 1) := by decide +kernel
theorem dX15_when_37 : decode cX15_when 37 = .ok (.goto 4, 3) := by decide +kernel
theorem dX15_when_40 : decode cX15_when 40 = .ok (.iconst 0, 1) := by decide +kernel
theorem dX15_when_41 : decode cX15_when 41 = .ok (.iconst 2, 1) := by decide +kernel
theorem dX15_when_42 : decode cX15_when 42 = .ok (.invokevirtual 98, 3) := by decide +kernel
theorem dX15_when_45 : decode cX15_when 45 = .ok (.ifCond .eq 5, 3) := by decide +kernel
theorem dX15_when_48 : decode cX15_when 48 = .ok (.iconst (-1), 1) := by decide +kernel
theorem dX15_when_49 : decode cX15_when 49 = .ok (.ireturn, 1) := by decide +kernel
theorem dX15_when_50 : decode cX15_when 50 = .ok (.aload_n 0, 1) := by decide +kernel
theorem dX15_when_51 : decode cX15_when 51 = .ok (.getfield 78, 3) := by decide +kernel
theorem dX15_when_54 : decode cX15_when 54 = .ok (.iload_n 1, 1) := by decide +kernel
theorem dX15_when_55 : decode cX15_when 55 = .ok (.invokeinterface 168 2, 5) := by decide +kernel
theorem dX15_when_60 : decode cX15_when 60 = .ok (.checkcast 367, 3) := by decide +kernel
theorem dX15_when_63 : decode cX15_when 63 = .ok (.astore 5, 2) := by decide +kernel
theorem dX15_when_65 : decode cX15_when 65 = .ok (.aload 5, 2) := by decide +kernel
theorem dX15_when_67 : decode cX15_when 67 = .ok (.iload_n 2, 1) := by decide +kernel
theorem dX15_when_68 : decode cX15_when 68 = .ok (.putfield 384, 3) := by decide +kernel
theorem dX15_when_71 : decode cX15_when 71 = .ok (.aload 5, 2) := by decide +kernel
theorem dX15_when_73 : decode cX15_when 73 = .ok (.iload_n 3, 1) := by decide +kernel
theorem dX15_when_74 : decode cX15_when 74 = .ok (.putfield 387, 3) := by decide +kernel
theorem dX15_when_77 : decode cX15_when 77 = .ok (.aload 5, 2) := by decide +kernel
theorem dX15_when_79 : decode cX15_when 79 = .ok (.iload 4, 2) := by decide +kernel
theorem dX15_when_81 : decode cX15_when 81 = .ok (.putfield 390, 3) := by decide +kernel
theorem dX15_when_84 : decode cX15_when 84 = .ok (.aload 5, 2) := by decide +kernel
theorem dX15_when_86 : decode cX15_when 86 = .ok (.getfield 393, 3) := by decide +kernel
theorem dX15_when_89 : decode cX15_when 89 = .ok (.ireturn, 1) := by decide +kernel
theorem dX15_pass_0 : decode cX15_pass 0 = .ok (.aload_n 0, 1) := by decide +kernel
theorem dX15_pass_1 : decode cX15_pass 1 = .ok (.invokevirtual 124, 3) := by decide +kernel
theorem dX15_pass_4 : decode cX15_pass 4 = .ok (.aload_n 0, 1) := by decide +kernel
theorem dX15_pass_5 : decode cX15_pass 5 = .ok (.iload_n 1, 1) := by decide +kernel
theorem dX15_pass_6 : decode cX15_pass 6 = .ok (.invokevirtual 379, 3) := by decide +kernel
theorem dX15_pass_9 : decode cX15_pass 9 = .ok (.ifCond .ne 30, 3) := by decide +kernel
theorem dX15_pass_12 : decode cX15_pass 12 = .ok (.aload_n 0, 1) := by decide +kernel
theorem dX15_pass_13 : decode cX15_pass 13 = .ok (.iload_n 2, 1) := by decide +kernel
theorem dX15_pass_14 : decode cX15_pass 14 = .ok (.i2l, 1) := by decide +kernel
theorem dX15_pass_15 : decode cX15_pass 15 = .ok (.ldc2_w 186, 3) := by decide +kernel
theorem dX15_pass_18 : decode cX15_pass 18 = .ok (.ldc2_w 188, 3) := by decide +kernel
theorem dX15_pass_21 : decode cX15_pass 21 = .ok (.invokestatic 13, 3) := by decide +kernel
theorem dX15_pass_24 : decode cX15_pass 24 = .ok (.ifCond .ne 7, 3) := by decide +kernel
theorem dX15_pass_27 : decode cX15_pass 27 = .ok (.iconst 1, 1) := by decide +kernel
theorem dX15_pass_28 : decode cX15_pass 28 = .ok (.goto 4, 3) := by decide +kernel
theorem dX15_pass_31 : decode cX15_pass 31 = .ok (.iconst 0, 1) := by decide +kernel
theorem dX15_pass_32 : decode cX15_pass 32 = .ok (.iconst 2, 1) := by decide +kernel
theorem dX15_pass_33 : decode cX15_pass 33 = .ok (.invokevirtual 98, 3) := by decide +kernel
theorem dX15_pass_36 : decode cX15_pass 36 = .ok (.ifCond .eq 5, 3) := by decide +kernel
theorem dX15_pass_39 : decode cX15_pass 39 = .ok (.iconst (-1), 1) := by decide +kernel
theorem dX15_pass_40 : decode cX15_pass 40 = .ok (.ireturn, 1) := by decide +kernel
theorem dX15_pass_41 : decode cX15_pass 41 = .ok (.aload_n 0, 1) := by decide +kernel
theorem dX15_pass_42 : decode cX15_pass 42 = .ok (.getfield 78, 3) := by decide +kernel
theorem dX15_pass_45 : decode cX15_pass 45 = .ok (.iload_n 1, 1) := by decide +kernel
theorem dX15_pass_46 : decode cX15_pass 46 = .ok (.invokeinterface 168 2, 5) := by decide +kernel
theorem dX15_pass_51 : decode cX15_pass 51 = .ok (.checkcast 367, 3) := by decide +kernel
theorem dX15_pass_54 : decode cX15_pass 54 = .ok (.astore_n 3, 1) := by decide +kernel
theorem dX15_pass_55 : decode cX15_pass 55 = .ok (.aload_n 3, 1) := by decide +kernel
theorem dX15_pass_56 : decode cX15_pass 56 = .ok (.iload_n 2, 1) := by decide +kernel
theorem dX15_pass_57 : decode cX15_pass 57 = .ok (.iconst (-1), 1) := by decide +kernel
theorem dX15_pass_58 : decode cX15_pass 58 = .ok (.if_icmp .eq 7, 3) := by decide +kernel
theorem dX15_pass_61 : decode cX15_pass 61 = .ok (.iconst 1, 1) := by decide +kernel
theorem dX15_pass_62 : decode cX15_pass 62 = .ok (.goto 4, 3) := by decide +kernel
theorem dX15_pass_65 : decode cX15_pass 65 = .ok (.iconst 0, 1) := by decide +kernel
theorem dX15_pass_66 : decode cX15_pass 66 = .ok (.putfield 396, 3) := by decide +kernel
theorem dX15_pass_69 : decode cX15_pass 69 = .ok (.aload_n 3, 1) := by decide +kernel
theorem dX15_pass_70 : decode cX15_pass 70 = .ok (.iconst 0, 1) := by decide +kernel
theorem dX15_pass_71 : decode cX15_pass 71 = .ok (.iload_n 2, 1) := by decide +kernel
theorem dX15_pass_72 : decode cX15_pass 72 = .ok (.invokestatic 314, 3) := by decide +kernel
theorem dX15_pass_75 : decode cX15_pass 75 = .ok (.putfield 400, 3) := by decide +kernel
theorem dX15_pass_78 : decode cX15_pass 78 = .ok (.aload_n 3, 1) := by decide +kernel
theorem dX15_pass_79 : decode cX15_pass 79 = .ok (.getfield 393, 3) := by decide +kernel
theorem dX15_pass_82 : decode cX15_pass 82 = .ok (.ireturn, 1) := by decide +kernel
theorem dX15_hits_0 : decode cX15_hits 0 = .ok (.aload_n 0, 1) := by decide +kernel
theorem dX15_hits_1 : decode cX15_hits 1 = .ok (.invokevirtual 124, 3) := by decide +kernel
theorem dX15_hits_4 : decode cX15_hits 4 = .ok (.aload_n 0, 1) := by decide +kernel
theorem dX15_hits_5 : decode cX15_hits 5 = .ok (.iload_n 1, 1) := by decide +kernel
theorem dX15_hits_6 : decode cX15_hits 6 = .ok (.invokevirtual 379, 3) := by decide +kernel
theorem dX15_hits_9 : decode cX15_hits 9 = .ok (.ifCond .eq 7, 3) := by decide +kernel
theorem dX15_hits_12 : decode cX15_hits 12 = .ok (.iconst (-1), 1) := by decide +kernel
theorem dX15_hits_13 : decode cX15_hits 13 = .ok (.goto 19, 3) := by decide +kernel
theorem dX15_hits_16 : decode cX15_hits 16 = .ok (.aload_n 0, 1) := by decide +kernel
theorem dX15_hits_17 : decode cX15_hits 17 = .ok (.getfield 78, 3) := by decide +kernel
theorem dX15_hits_20 : decode cX15_hits 20 = .ok (.iload_n 1, 1) := by decide +kernel
theorem dX15_hits_21 : decode cX15_hits 21 = .ok (.invokeinterface 168 2, 5) := by decide +kernel
theorem dX15_hits_26 : decode cX15_hits 26 = .ok (.checkcast 367, 3) := by decide +kernel
theorem dX15_hits_29 : decode cX15_hits 29 = .ok (.getfield 393, 3) := by decide +kernel
theorem dX15_hits_32 : decode cX15_hits 32 = .ok (.ireturn, 1) := by decide +kernel
theorem dX15_watchName_0 : decode cX15_watchName 0 = .ok (.aload_n 0, 1) := by decide +kernel
theorem dX15_watchName_1 : decode cX15_watchName 1 = .ok (.invokevirtual 124, 3) := by decide +kernel
theorem dX15_watchName_4 : decode cX15_watchName 4 = .ok (.aload_n 0, 1) := by decide +kernel
theorem dX15_watchName_5 : decode cX15_watchName 5 = .ok (.iload_n 1, 1) := by decide +kernel
theorem dX15_watchName_6 : decode cX15_watchName 6 = .ok (.iload_n 2, 1) := by decide +kernel
theorem dX15_watchName_7 : decode cX15_watchName 7 = .ok (.invokevirtual 296, 3) := by decide +kernel
theorem dX15_watchName_10 : decode cX15_watchName 10 = .ok (.ifCond .ne 23, 3) := by decide +kernel
theorem dX15_watchName_13 : decode cX15_watchName 13 = .ok (.aload_n 0, 1) := by decide +kernel
theorem dX15_watchName_14 : decode cX15_watchName 14 = .ok (.iload_n 3, 1) := by decide +kernel
theorem dX15_watchName_15 : decode cX15_watchName 15 = .ok (.invokestatic 206, 3) := by decide +kernel
theorem dX15_watchName_18 : decode cX15_watchName 18 = .ok (.ifCond .ne 7, 3) := by decide +kernel
theorem dX15_watchName_21 : decode cX15_watchName 21 = .ok (.iconst 1, 1) := by decide +kernel
theorem dX15_watchName_22 : decode cX15_watchName 22 = .ok (.goto 4, 3) := by decide +kernel
theorem dX15_watchName_25 : decode cX15_watchName 25 = .ok (.iconst 0, 1) := by decide +kernel
theorem dX15_watchName_26 : decode cX15_watchName 26 = .ok (.iconst 2, 1) := by decide +kernel
theorem dX15_watchName_27 : decode cX15_watchName 27 = .ok (.invokevirtual 98, 3) := by decide +kernel
theorem dX15_watchName_30 : decode cX15_watchName 30 = .ok (.ifCond .eq 5, 3) := by decide +kernel
theorem dX15_watchName_33 : decode cX15_watchName 33 = .ok (.iconst (-1), 1) := by decide +kernel
theorem dX15_watchName_34 : decode cX15_watchName 34 = .ok (.ireturn, 1) := by decide +kernel
theorem dX15_watchName_35 : decode cX15_watchName 35 = .ok (.aload_n 0, 1) := by decide +kernel
theorem dX15_watchName_36 : decode cX15_watchName 36 = .ok (.iload_n 1, 1) := by decide +kernel
theorem dX15_watchName_37 : decode cX15_watchName 37 = .ok (.iload_n 2, 1) := by decide +kernel
theorem dX15_watchName_38 : decode cX15_watchName 38 = .ok (.invokevirtual 302, 3) := by decide +kernel
theorem dX15_watchName_41 : decode cX15_watchName 41 = .ok (.astore 4, 2) := by decide +kernel
theorem dX15_watchName_43 : decode cX15_watchName 43 = .ok (.aload_n 0, 1) := by decide +kernel
theorem dX15_watchName_44 : decode cX15_watchName 44 = .ok (.aload 4, 2) := by decide +kernel
theorem dX15_watchName_46 : decode cX15_watchName 46 = .ok (.iload_n 3, 1) := by decide +kernel
theorem dX15_watchName_47 : decode cX15_watchName 47 = .ok (.invokevirtual 306, 3) := by decide +kernel
theorem dX15_watchName_50 : decode cX15_watchName 50 = .ok (.istore 5, 2) := by decide +kernel
theorem dX15_watchName_52 : decode cX15_watchName 52 = .ok (.iload 5, 2) := by decide +kernel
theorem dX15_watchName_54 : decode cX15_watchName 54 = .ok (.iconst (-1), 1) := by decide +kernel
theorem dX15_watchName_55 : decode cX15_watchName 55 = .ok (.if_icmp .ne 7, 3) := by decide +kernel
theorem dX15_watchName_58 : decode cX15_watchName 58 = .ok (.aconst_null, 1) := by decide +kernel
theorem dX15_watchName_59 : decode cX15_watchName 59 = .ok (.goto 11, 3) := by decide +kernel
theorem dX15_watchName_62 : decode cX15_watchName 62 = .ok (.aload_n 0, 1) := by decide +kernel
theorem dX15_watchName_63 : decode cX15_watchName 63 = .ok (.aload 4, 2) := by decide +kernel
theorem dX15_watchName_65 : decode cX15_watchName 65 = .ok (.iload 5, 2) := by decide +kernel
theorem dX15_watchName_67 : decode cX15_watchName 67 = .ok (.invokevirtual 310, 3) := by decide +kernel
theorem dX15_watchName_70 : decode cX15_watchName 70 = .ok (.astore 6, 2) := by decide +kernel
theorem dX15_watchName_72 : decode cX15_watchName 72 = .ok (.aload_n 0, 1) := by decide +kernel
theorem dX15_watchName_73 : decode cX15_watchName 73 = .ok (.iload 5, 2) := by decide +kernel
theorem dX15_watchName_75 : decode cX15_watchName 75 = .ok (.iconst (-1), 1) := by decide +kernel
theorem dX15_watchName_76 : decode cX15_watchName 76 = .ok (.if_icmp .ne 7, 3) := by decide +kernel
theorem dX15_watchName_79 : decode cX15_watchName 79 = .ok (.iconst 1, 1) := by decide +kernel
theorem dX15_watchName_80 : decode cX15_watchName 80 = .ok (.goto 4, 3) := by decide +kernel
theorem dX15_watchName_83 : decode cX15_watchName 83 = .ok (.iconst 0, 1) := by decide +kernel
theorem dX15_watchName_84 : decode cX15_watchName 84 = .ok (.iconst 3, 1) := by decide +kernel
theorem dX15_watchName_85 : decode cX15_watchName 85 = .ok (.invokevirtual 98, 3) := by decide +kernel
theorem dX15_watchName_88 : decode cX15_watchName 88 = .ok (.ifCond .ne 65, 3) := by decide +kernel
theorem dX15_watchName_91 : decode cX15_watchName 91 = .ok (.aload_n 0, 1) := by decide +kernel
theorem dX15_watchName_92 : decode cX15_watchName 92 = .ok (.aload 6, 2) := by decide +kernel
theorem dX15_watchName_94 : decode cX15_watchName 94 = .ok (.ifnull 21, 3) := by decide +kernel
theorem dX15_watchName_97 : decode cX15_watchName 97 = .ok (.aload 6, 2) := by decide +kernel
theorem dX15_watchName_99 : decode cX15_watchName 99 = .ok (.iconst 0, 1) := by decide +kernel
theorem dX15_watchName_100 : decode cX15_watchName 100 = .ok (.iaload, 1) := by decide +kernel
theorem dX15_watchName_101 : decode cX15_watchName 101 = .ok (.bipush 115, 2) := by decide +kernel
theorem dX15_watchName_103 : decode cX15_watchName 103 = .ok (.if_icmp .eq 16, 3) := by decide +kernel
theorem dX15_watchName_106 : decode cX15_watchName 106 = .ok (.aload 6, 2) := by decide +kernel
theorem dX15_watchName_108 : decode cX15_watchName 108 = .ok (.iconst 0, 1) := by decide +kernel
theorem dX15_watchName_109 : decode cX15_watchName 109 = .ok (.iaload, 1) := by decide +kernel
theorem dX15_watchName_110 : decode cX15_watchName 110 = .ok (.bipush 103, 2) := by decide +kernel
theorem dX15_watchName_112 : decode cX15_watchName 112 = .ok (.if_icmp .eq 7, 3) := by decide +kernel
theorem dX15_watchName_115 : decode cX15_watchName 115 = .ok (.iconst 1, 1) := by decide +kernel
theorem dX15_watchName_116 : decode cX15_watchName 116 = .ok (.goto 4, 3) := by decide +kernel
theorem dX15_watchName_119 : decode cX15_watchName 119 = .ok (.iconst 0, 1) := by decide +kernel
theorem dX15_watchName_120 : decode cX15_watchName 120 = .ok (.iconst 4, 1) := by decide +kernel
theorem dX15_watchName_121 : decode cX15_watchName 121 = .ok (.invokevirtual 98, 3) := by decide +kernel
theorem dX15_watchName_124 : decode cX15_watchName 124 = .ok (.ifCond .ne 29, 3) := by decide +kernel
theorem dX15_watchName_127 : decode cX15_watchName 127 = .ok (.aload_n 0, 1) := by decide +kernel
theorem dX15_watchName_128 : decode cX15_watchName 128 = .ok (.aload_n 0, 1) := by decide +kernel
theorem dX15_watchName_129 : decode cX15_watchName 129 = .ok (.getfield 81, 3) := by decide +kernel
theorem dX15_watchName_132 : decode cX15_watchName 132 = .ok (.invokeinterface 7 1, 5) := by decide +kernel
theorem dX15_watchName_137 : decode cX15_watchName 137 = .ok (.iconst 4, 1) := by decide +kernel
theorem dX15_watchName_138 : decode cX15_watchName 138 = .ok (.if_icmp .ne 7, 3) := by decide +kernel
theorem dX15_watchName_141 : decode cX15_watchName 141 = .ok (.iconst 1, 1) := by decide +kernel
theorem dX15_watchName_142 : decode cX15_watchName 142 = .ok (.goto 4, 3) := by decide +kernel
theorem dX15_watchName_145 : decode cX15_watchName 145 = .ok (.iconst 0, 1) := by decide +kernel
theorem dX15_watchName_146 : decode cX15_watchName 146 = .ok (.iconst 5, 1) := by decide +kernel
theorem dX15_watchName_147 : decode cX15_watchName 147 = .ok (.invokevirtual 98, 3) := by decide +kernel
theorem dX15_watchName_150 : decode cX15_watchName 150 = .ok (.ifCond .eq 5, 3) := by decide +kernel
theorem dX15_watchName_153 : decode cX15_watchName 153 = .ok (.iconst (-1), 1) := by decide +kernel
theorem dX15_watchName_154 : decode cX15_watchName 154 = .ok (.ireturn, 1) := by decide +kernel
theorem dX15_watchName_155 : decode cX15_watchName 155 = .ok (.iconst 5, 1) := by decide +kernel
theorem dX15_watchName_156 : decode cX15_watchName 156 = .ok (.newarray .int, 2) := by decide +kernel
theorem dX15_watchName_158 : decode cX15_watchName 158 = .ok (.dup, 1) := by decide +kernel
theorem dX15_watchName_159 : decode cX15_watchName 159 = .ok (.iconst 0, 1) := by decide +kernel
theorem dX15_watchName_160 : decode cX15_watchName 160 = .ok (.aload 6, 2) := by decide +kernel
theorem dX15_watchName_162 : decode cX15_watchName 162 = .ok (.iconst 0, 1) := by decide +kernel
theorem dX15_watchName_163 : decode cX15_watchName 163 = .ok (.iaload, 1) := by decide +kernel
theorem dX15_watchName_164 : decode cX15_watchName 164 = .ok (.iastore, 1) := by decide +kernel
theorem dX15_watchName_165 : decode cX15_watchName 165 = .ok (.dup, 1) := by decide +kernel
theorem dX15_watchName_166 : decode cX15_watchName 166 = .ok (.iconst 1, 1) := by decide +kernel
theorem dX15_watchName_167 : decode cX15_watchName 167 = .ok (.iload_n 1, 1) := by decide +kernel
theorem dX15_watchName_168 : decode cX15_watchName 168 = .ok (.iastore, 1) := by decide +kernel
theorem dX15_watchName_169 : decode cX15_watchName 169 = .ok (.dup, 1) := by decide +kernel
theorem dX15_watchName_170 : decode cX15_watchName 170 = .ok (.iconst 2, 1) := by decide +kernel
theorem dX15_watchName_171 : decode cX15_watchName 171 = .ok (.aload 6, 2) := by decide +kernel
theorem dX15_watchName_173 : decode cX15_watchName 173 = .ok (.iconst 0, 1) := by decide +kernel
theorem dX15_watchName_174 : decode cX15_watchName 174 = .ok (.iaload, 1) := by decide +kernel
theorem dX15_watchName_175 : decode cX15_watchName 175 = .ok (.bipush 115, 2) := by decide +kernel
theorem dX15_watchName_177 : decode cX15_watchName 177 = .ok (.if_icmp .ne 15, 3) := by decide +kernel
theorem dX15_watchName_180 : decode cX15_watchName 180 = .ok (.aload 4, 2) := by decide +kernel
theorem dX15_watchName_182 : decode cX15_watchName 182 = .ok (.iconst 1, 1) := by decide +kernel
theorem dX15_watchName_183 : decode cX15_watchName 183 = .ok (.iaload, 1) := by decide +kernel
theorem dX15_watchName_184 : decode cX15_watchName 184 = .ok (.aload 6, 2) := by decide +kernel
theorem dX15_watchName_186 : decode cX15_watchName 186 = .ok (.iconst 1, 1) := by decide +kernel
theorem dX15_watchName_187 : decode cX15_watchName 187 = .ok (.iaload, 1) := by decide +kernel
theorem dX15_watchName_188 : decode cX15_watchName 188 = .ok (.iadd, 1) := by decide +kernel
theorem dX15_watchName_189 : decode cX15_watchName 189 = .ok (.goto 7, 3) := by decide +kernel
theorem dX15_watchName_192 : decode cX15_watchName 192 = .ok (.aload 6, 2) := by decide +kernel
theorem dX15_watchName_194 : decode cX15_watchName 194 = .ok (.iconst 1, 1) := by decide +kernel
theorem dX15_watchName_195 : decode cX15_watchName 195 = .ok (.iaload, 1) := by decide +kernel
theorem dX15_watchName_196 : decode cX15_watchName 196 = .ok (.iastore, 1) := by decide +kernel
theorem dX15_watchName_197 : decode cX15_watchName 197 = .ok (.dup, 1) := by decide +kernel
theorem dX15_watchName_198 : decode cX15_watchName 198 = .ok (.iconst 3, 1) := by decide +kernel
theorem dX15_watchName_199 : decode cX15_watchName 199 = .ok (.iconst 0, 1) := by decide +kernel
theorem dX15_watchName_200 : decode cX15_watchName 200 = .ok (.iastore, 1) := by decide +kernel
theorem dX15_watchName_201 : decode cX15_watchName 201 = .ok (.dup, 1) := by decide +kernel
theorem dX15_watchName_202 : decode cX15_watchName 202 = .ok (.iconst 4, 1) := by decide +kernel
theorem dX15_watchName_203 : decode cX15_watchName 203 = .ok (.iconst 0, 1) := by decide +kernel
theorem dX15_watchName_204 : decode cX15_watchName 204 = .ok (.iastore, 1) := by decide +kernel
theorem dX15_watchName_205 : decode cX15_watchName 205 = .ok (.astore 7, 2) := by decide +kernel
theorem dX15_watchName_207 : decode cX15_watchName 207 = .ok (.aload 7, 2) := by decide +kernel
theorem dX15_watchName_209 : decode cX15_watchName 209 = .ok (.iconst 3, 1) := by decide +kernel
theorem dX15_watchName_210 : decode cX15_watchName 210 = .ok (.aload_n 0, 1) := by decide +kernel
theorem dX15_watchName_211 : decode cX15_watchName 211 = .ok (.aload 7, 2) := by decide +kernel
theorem dX15_watchName_213 : decode cX15_watchName 213 = .ok (.invokevirtual 157, 3) := by decide +kernel
theorem dX15_watchName_216 : decode cX15_watchName 216 = .ok (.iastore, 1) := by decide +kernel
theorem dX15_watchName_217 : decode cX15_watchName 217 = .ok (.aload_n 0, 1) := by decide +kernel
theorem dX15_watchName_218 : decode cX15_watchName 218 = .ok (.getfield 81, 3) := by decide +kernel
theorem dX15_watchName_221 : decode cX15_watchName 221 = .ok (.aload 7, 2) := by decide +kernel
theorem dX15_watchName_223 : decode cX15_watchName 223 = .ok (.invokeinterface 131 2, 5) := by decide +kernel
theorem dX15_watchName_228 : decode cX15_watchName 228 = .ok (.pop, 1) := by decide +kernel
theorem dX15_watchName_229 : decode cX15_watchName 229 = .ok (.aload_n 0, 1) := by decide +kernel
theorem dX15_watchName_230 : decode cX15_watchName 230 = .ok (.getfield 81, 3) := by decide +kernel
theorem dX15_watchName_233 : decode cX15_watchName 233 = .ok (.invokeinterface 7 1, 5) := by decide +kernel
theorem dX15_watchName_238 : decode cX15_watchName 238 = .ok (.iconst 1, 1) := by decide +kernel
theorem dX15_watchName_239 : decode cX15_watchName 239 = .ok (.isub, 1) := by decide +kernel
theorem dX15_watchName_240 : decode cX15_watchName 240 = .ok (.ireturn, 1) := by decide +kernel
theorem dX15_stepLine_0 : decode cX15_stepLine 0 = .ok (.aload_n 0, 1) := by decide +kernel
theorem dX15_stepLine_1 : decode cX15_stepLine 1 = .ok (.invokevirtual 124, 3) := by decide +kernel
theorem dX15_stepLine_4 : decode cX15_stepLine 4 = .ok (.aload_n 0, 1) := by decide +kernel
theorem dX15_stepLine_5 : decode cX15_stepLine 5 = .ok (.iload_n 1, 1) := by decide +kernel
theorem dX15_stepLine_6 : decode cX15_stepLine 6 = .ok (.invokevirtual 218, 3) := by decide +kernel
theorem dX15_stepLine_9 : decode cX15_stepLine 9 = .ok (.ifCond .ne 47, 3) := by decide +kernel
theorem dX15_stepLine_12 : decode cX15_stepLine 12 = .ok (.aload_n 0, 1) := by decide +kernel
theorem dX15_stepLine_13 : decode cX15_stepLine 13 = .ok (.ldc_w 423, 3) := by decide +kernel
theorem dX15_stepLine_16 : decode cX15_stepLine 16 = .ok (.iload_n 2, 1) := by decide +kernel
theorem dX15_stepLine_17 : decode cX15_stepLine 17 = .ok (.invokevirtual 104, 3) := by decide +kernel
theorem dX15_stepLine_20 : decode cX15_stepLine 20 = .ok (.ifCond .ge 7, 3) := by decide +kernel
theorem dX15_stepLine_23 : decode cX15_stepLine 23 = .ok (.iconst 1, 1) := by decide +kernel
theorem dX15_stepLine_24 : decode cX15_stepLine 24 = .ok (.goto 4, 3) := by decide +kernel
theorem dX15_stepLine_27 : decode cX15_stepLine 27 = .ok (.iconst 0, 1) := by decide +kernel
theorem dX15_stepLine_28 : decode cX15_stepLine 28 = .ok (.iconst 2, 1) := by decide +kernel
theorem dX15_stepLine_29 : decode cX15_stepLine 29 = .ok (.invokevirtual 98, 3) := by decide +kernel
theorem dX15_stepLine_32 : decode cX15_stepLine 32 = .ok (.ifCond .ne 24, 3) := by decide +kernel
theorem dX15_stepLine_35 : decode cX15_stepLine 35 = .ok (.aload_n 0, 1) := by decide +kernel
theorem dX15_stepLine_36 : decode cX15_stepLine 36 = .ok (.aload_n 0, 1) := by decide +kernel
theorem dX15_stepLine_37 : decode cX15_stepLine 37 = .ok (.iload_n 1, 1) := by decide +kernel
theorem dX15_stepLine_38 : decode cX15_stepLine 38 = .ok (.invokevirtual 270, 3) := by decide +kernel
theorem dX15_stepLine_41 : decode cX15_stepLine 41 = .ok (.ifCond .ne 7, 3) := by decide +kernel
theorem dX15_stepLine_44 : decode cX15_stepLine 44 = .ok (.iconst 1, 1) := by decide +kernel
theorem dX15_stepLine_45 : decode cX15_stepLine 45 = .ok (.goto 4, 3) := by decide +kernel
theorem dX15_stepLine_48 : decode cX15_stepLine 48 = .ok (.iconst 0, 1) := by decide +kernel
theorem dX15_stepLine_49 : decode cX15_stepLine 49 = .ok (.iconst 3, 1) := by decide +kernel
theorem dX15_stepLine_50 : decode cX15_stepLine 50 = .ok (.invokevirtual 98, 3) := by decide +kernel
theorem dX15_stepLine_53 : decode cX15_stepLine 53 = .ok (.ifCond .eq 5, 3) := by decide +kernel
theorem dX15_stepLine_56 : decode cX15_stepLine 56 = .ok (.iconst (-1), 1) := by decide +kernel
theorem dX15_stepLine_57 : decode cX15_stepLine 57 = .ok (.ireturn, 1) := by decide +kernel
theorem dX15_stepLine_58 : decode cX15_stepLine 58 = .ok (.aload_n 0, 1) := by decide +kernel
theorem dX15_stepLine_59 : decode cX15_stepLine 59 = .ok (.getfield 26, 3) := by decide +kernel
theorem dX15_stepLine_62 : decode cX15_stepLine 62 = .ok (.getfield 91, 3) := by decide +kernel
theorem dX15_stepLine_65 : decode cX15_stepLine 65 = .ok (.iload_n 1, 1) := by decide +kernel
theorem dX15_stepLine_66 : decode cX15_stepLine 66 = .ok (.invokeinterface 168 2, 5) := by decide +kernel
theorem dX15_stepLine_71 : decode cX15_stepLine 71 = .ok (.checkcast 212, 3) := by decide +kernel
theorem dX15_stepLine_74 : decode cX15_stepLine 74 = .ok (.astore_n 3, 1) := by decide +kernel
theorem dX15_stepLine_75 : decode cX15_stepLine 75 = .ok (.aload_n 3, 1) := by decide +kernel
theorem dX15_stepLine_76 : decode cX15_stepLine 76 = .ok (.getfield 215, 3) := by decide +kernel
theorem dX15_stepLine_79 : decode cX15_stepLine 79 = .ok (.istore 4, 2) := by decide +kernel
theorem dX15_stepLine_81 : decode cX15_stepLine 81 = .ok (.aload_n 0, 1) := by decide +kernel
theorem dX15_stepLine_82 : decode cX15_stepLine 82 = .ok (.aload_n 3, 1) := by decide +kernel
theorem dX15_stepLine_83 : decode cX15_stepLine 83 = .ok (.invokevirtual 279, 3) := by decide +kernel
theorem dX15_stepLine_86 : decode cX15_stepLine 86 = .ok (.astore 5, 2) := by decide +kernel
theorem dX15_stepLine_88 : decode cX15_stepLine 88 = .ok (.aload 5, 2) := by decide +kernel
theorem dX15_stepLine_90 : decode cX15_stepLine 90 = .ok (.invokeinterface 7 1, 5) := by decide +kernel
theorem dX15_stepLine_95 : decode cX15_stepLine 95 = .ok (.iconst 1, 1) := by decide +kernel
theorem dX15_stepLine_96 : decode cX15_stepLine 96 = .ok (.if_icmp .le 19, 3) := by decide +kernel
theorem dX15_stepLine_99 : decode cX15_stepLine 99 = .ok (.aload 5, 2) := by decide +kernel
theorem dX15_stepLine_101 : decode cX15_stepLine 101 = .ok (.iconst 1, 1) := by decide +kernel
theorem dX15_stepLine_102 : decode cX15_stepLine 102 = .ok (.invokeinterface 168 2, 5) := by decide +kernel
theorem dX15_stepLine_107 : decode cX15_stepLine 107 = .ok (.checkcast 152, 3) := by decide +kernel
theorem dX15_stepLine_110 : decode cX15_stepLine 110 = .ok (.iconst 2, 1) := by decide +kernel
theorem dX15_stepLine_111 : decode cX15_stepLine 111 = .ok (.iaload, 1) := by decide +kernel
theorem dX15_stepLine_112 : decode cX15_stepLine 112 = .ok (.goto 4, 3) := by decide +kernel
theorem dX15_stepLine_115 : decode cX15_stepLine 115 = .ok (.iconst (-1), 1) := by decide +kernel
theorem dX15_stepLine_116 : decode cX15_stepLine 116 = .ok (.istore 6, 2) := by decide +kernel
theorem dX15_stepLine_118 : decode cX15_stepLine 118 = .ok (.iconst 0, 1) := by decide +kernel
theorem dX15_stepLine_119 : decode cX15_stepLine 119 = .ok (.istore 7, 2) := by decide +kernel
theorem dX15_stepLine_121 : decode cX15_stepLine 121 = .ok (.iload 7, 2) := by decide +kernel
theorem dX15_stepLine_123 : decode cX15_stepLine 123 = .ok (.sipush 200, 3) := by decide +kernel
theorem dX15_stepLine_126 : decode cX15_stepLine 126 = .ok (.if_icmp .ne 13, 3) := by decide +kernel
theorem dX15_stepLine_129 : decode cX15_stepLine 129 = .ok (.aload_n 0, 1) := by decide +kernel
theorem dX15_stepLine_130 : decode cX15_stepLine 130 = .ok (.bipush 110, 2) := by decide +kernel
theorem dX15_stepLine_132 : decode cX15_stepLine 132 = .ok (.iconst (-1), 1) := by decide +kernel
theorem dX15_stepLine_133 : decode cX15_stepLine 133 = .ok (.invokevirtual 407, 3) := by decide +kernel
theorem dX15_stepLine_136 : decode cX15_stepLine 136 = .ok (.iload 7, 2) := by decide +kernel
theorem dX15_stepLine_138 : decode cX15_stepLine 138 = .ok (.ireturn, 1) := by decide +kernel
theorem dX15_stepLine_139 : decode cX15_stepLine 139 = .ok (.aload_n 0, 1) := by decide +kernel
theorem dX15_stepLine_140 : decode cX15_stepLine 140 = .ok (.iload_n 1, 1) := by decide +kernel
theorem dX15_stepLine_141 : decode cX15_stepLine 141 = .ok (.invokevirtual 415, 3) := by decide +kernel
theorem dX15_stepLine_144 : decode cX15_stepLine 144 = .ok (.ifCond .eq 6, 3) := by decide +kernel
theorem dX15_stepLine_147 : decode cX15_stepLine 147 = .ok (.iload 7, 2) := by decide +kernel
theorem dX15_stepLine_149 : decode cX15_stepLine 149 = .ok (.ireturn, 1) := by decide +kernel
theorem dX15_stepLine_150 : decode cX15_stepLine 150 = .ok (.aload_n 0, 1) := by decide +kernel
theorem dX15_stepLine_151 : decode cX15_stepLine 151 = .ok (.iload_n 1, 1) := by decide +kernel
theorem dX15_stepLine_152 : decode cX15_stepLine 152 = .ok (.invokevirtual 418, 3) := by decide +kernel
theorem dX15_stepLine_155 : decode cX15_stepLine 155 = .ok (.iinc 7 1, 3) := by decide +kernel
theorem dX15_stepLine_158 : decode cX15_stepLine 158 = .ok (.aload_n 0, 1) := by decide +kernel
theorem dX15_stepLine_159 : decode cX15_stepLine 159 = .ok (.invokevirtual 420, 3) := by decide +kernel
theorem dX15_stepLine_162 : decode cX15_stepLine 162 = .ok (.ifCond .eq 6, 3) := by decide +kernel
theorem dX15_stepLine_165 : decode cX15_stepLine 165 = .ok (.iload 7, 2) := by decide +kernel
theorem dX15_stepLine_167 : decode cX15_stepLine 167 = .ok (.ireturn, 1) := by decide +kernel
theorem dX15_stepLine_168 : decode cX15_stepLine 168 = .ok (.aload_n 3, 1) := by decide +kernel
theorem dX15_stepLine_169 : decode cX15_stepLine 169 = .ok (.getfield 221, 3) := by decide +kernel
theorem dX15_stepLine_172 : decode cX15_stepLine 172 = .ok (.bipush 114, 2) := by decide +kernel
theorem dX15_stepLine_174 : decode cX15_stepLine 174 = .ok (.if_icmp .eq 13, 3) := by decide +kernel
theorem dX15_stepLine_177 : decode cX15_stepLine 177 = .ok (.aload_n 0, 1) := by decide +kernel
theorem dX15_stepLine_178 : decode cX15_stepLine 178 = .ok (.bipush 100, 2) := by decide +kernel
theorem dX15_stepLine_180 : decode cX15_stepLine 180 = .ok (.iconst (-1), 1) := by decide +kernel
theorem dX15_stepLine_181 : decode cX15_stepLine 181 = .ok (.invokevirtual 407, 3) := by decide +kernel
theorem dX15_stepLine_184 : decode cX15_stepLine 184 = .ok (.iload 7, 2) := by decide +kernel
theorem dX15_stepLine_186 : decode cX15_stepLine 186 = .ok (.ireturn, 1) := by decide +kernel
theorem dX15_stepLine_187 : decode cX15_stepLine 187 = .ok (.iload_n 2, 1) := by decide +kernel
theorem dX15_stepLine_188 : decode cX15_stepLine 188 = .ok (.bipush 117, 2) := by decide +kernel
theorem dX15_stepLine_190 : decode cX15_stepLine 190 = .ok (.if_icmp .ne 15, 3) := by decide +kernel
theorem dX15_stepLine_193 : decode cX15_stepLine 193 = .ok (.aload_n 3, 1) := by decide +kernel
theorem dX15_stepLine_194 : decode cX15_stepLine 194 = .ok (.getfield 239, 3) := by decide +kernel
theorem dX15_stepLine_197 : decode cX15_stepLine 197 = .ok (.iload 6, 2) := by decide +kernel
theorem dX15_stepLine_199 : decode cX15_stepLine 199 = .ok (.if_icmp .gt (-78), 3) := by decide +kernel
theorem dX15_stepLine_202 : decode cX15_stepLine 202 = .ok (.goto 37, 3) := by decide +kernel
theorem dX15_stepLine_205 : decode cX15_stepLine 205 = .ok (.aload_n 0, 1) := by decide +kernel
theorem dX15_stepLine_206 : decode cX15_stepLine 206 = .ok (.aload_n 3, 1) := by decide +kernel
theorem dX15_stepLine_207 : decode cX15_stepLine 207 = .ok (.getfield 215, 3) := by decide +kernel
theorem dX15_stepLine_210 : decode cX15_stepLine 210 = .ok (.invokevirtual 376, 3) := by decide +kernel
theorem dX15_stepLine_213 : decode cX15_stepLine 213 = .ok (.ifCond .eq (-92), 3) := by decide +kernel
theorem dX15_stepLine_216 : decode cX15_stepLine 216 = .ok (.iload_n 2, 1) := by decide +kernel
theorem dX15_stepLine_217 : decode cX15_stepLine 217 = .ok (.bipush 105, 2) := by decide +kernel
theorem dX15_stepLine_219 : decode cX15_stepLine 219 = .ok (.if_icmp .eq 20, 3) := by decide +kernel
theorem dX15_stepLine_222 : decode cX15_stepLine 222 = .ok (.aload_n 0, 1) := by decide +kernel
theorem dX15_stepLine_223 : decode cX15_stepLine 223 = .ok (.aload_n 3, 1) := by decide +kernel
theorem dX15_stepLine_224 : decode cX15_stepLine 224 = .ok (.iload 4, 2) := by decide +kernel
theorem dX15_stepLine_226 : decode cX15_stepLine 226 = .ok (.aload 5, 2) := by decide +kernel
theorem dX15_stepLine_228 : decode cX15_stepLine 228 = .ok (.invokeinterface 7 1, 5) := by decide +kernel
theorem dX15_stepLine_233 : decode cX15_stepLine 233 = .ok (.invokevirtual 425, 3) := by decide +kernel
theorem dX15_stepLine_236 : decode cX15_stepLine 236 = .ok (.ifCond .eq (-115), 3) := by decide +kernel
theorem dX15_stepLine_239 : decode cX15_stepLine 239 = .ok (.aload_n 0, 1) := by decide +kernel
theorem dX15_stepLine_240 : decode cX15_stepLine 240 = .ok (.bipush 110, 2) := by decide +kernel
theorem dX15_stepLine_242 : decode cX15_stepLine 242 = .ok (.iconst (-1), 1) := by decide +kernel
theorem dX15_stepLine_243 : decode cX15_stepLine 243 = .ok (.invokevirtual 407, 3) := by decide +kernel
theorem dX15_stepLine_246 : decode cX15_stepLine 246 = .ok (.iload 7, 2) := by decide +kernel
theorem dX15_stepLine_248 : decode cX15_stepLine 248 = .ok (.ireturn, 1) := by decide +kernel
theorem dX15_set_0 : decode cX15_set 0 = .ok (.aload_n 0, 1) := by decide +kernel
theorem dX15_set_1 : decode cX15_set 1 = .ok (.invokevirtual 124, 3) := by decide +kernel
theorem dX15_set_4 : decode cX15_set 4 = .ok (.aload_n 0, 1) := by decide +kernel
theorem dX15_set_5 : decode cX15_set 5 = .ok (.iload_n 1, 1) := by decide +kernel
theorem dX15_set_6 : decode cX15_set 6 = .ok (.iload_n 2, 1) := by decide +kernel
theorem dX15_set_7 : decode cX15_set 7 = .ok (.invokevirtual 296, 3) := by decide +kernel
theorem dX15_set_10 : decode cX15_set 10 = .ok (.ifCond .ne 23, 3) := by decide +kernel
theorem dX15_set_13 : decode cX15_set 13 = .ok (.aload_n 0, 1) := by decide +kernel
theorem dX15_set_14 : decode cX15_set 14 = .ok (.iload_n 3, 1) := by decide +kernel
theorem dX15_set_15 : decode cX15_set 15 = .ok (.invokestatic 206, 3) := by decide +kernel
theorem dX15_set_18 : decode cX15_set 18 = .ok (.ifCond .ne 7, 3) := by decide +kernel
theorem dX15_set_21 : decode cX15_set 21 = .ok (.iconst 1, 1) := by decide +kernel
theorem dX15_set_22 : decode cX15_set 22 = .ok (.goto 4, 3) := by decide +kernel
theorem dX15_set_25 : decode cX15_set 25 = .ok (.iconst 0, 1) := by decide +kernel
theorem dX15_set_26 : decode cX15_set 26 = .ok (.iconst 2, 1) := by decide +kernel
theorem dX15_set_27 : decode cX15_set 27 = .ok (.invokevirtual 98, 3) := by decide +kernel
theorem dX15_set_30 : decode cX15_set 30 = .ok (.ifCond .eq 5, 3) := by decide +kernel
theorem dX15_set_33 : decode cX15_set 33 = .ok (.iconst (-1), 1) := by decide +kernel
theorem dX15_set_34 : decode cX15_set 34 = .ok (.ireturn, 1) := by decide +kernel
theorem dX15_set_35 : decode cX15_set 35 = .ok (.aload_n 0, 1) := by decide +kernel
theorem dX15_set_36 : decode cX15_set 36 = .ok (.iload_n 1, 1) := by decide +kernel
theorem dX15_set_37 : decode cX15_set 37 = .ok (.iload_n 2, 1) := by decide +kernel
theorem dX15_set_38 : decode cX15_set 38 = .ok (.invokevirtual 302, 3) := by decide +kernel
theorem dX15_set_41 : decode cX15_set 41 = .ok (.astore 6, 2) := by decide +kernel
theorem dX15_set_43 : decode cX15_set 43 = .ok (.aload_n 0, 1) := by decide +kernel
theorem dX15_set_44 : decode cX15_set 44 = .ok (.aload 6, 2) := by decide +kernel
theorem dX15_set_46 : decode cX15_set 46 = .ok (.iload_n 3, 1) := by decide +kernel
theorem dX15_set_47 : decode cX15_set 47 = .ok (.invokevirtual 306, 3) := by decide +kernel
theorem dX15_set_50 : decode cX15_set 50 = .ok (.istore 7, 2) := by decide +kernel
theorem dX15_set_52 : decode cX15_set 52 = .ok (.aload_n 0, 1) := by decide +kernel
theorem dX15_set_53 : decode cX15_set 53 = .ok (.iload 7, 2) := by decide +kernel
theorem dX15_set_55 : decode cX15_set 55 = .ok (.iconst (-1), 1) := by decide +kernel
theorem dX15_set_56 : decode cX15_set 56 = .ok (.if_icmp .eq 40, 3) := by decide +kernel
theorem dX15_set_59 : decode cX15_set 59 = .ok (.iload 4, 2) := by decide +kernel
theorem dX15_set_61 : decode cX15_set 61 = .ok (.i2l, 1) := by decide +kernel
theorem dX15_set_62 : decode cX15_set 62 = .ok (.lconst 0, 1) := by decide +kernel
theorem dX15_set_63 : decode cX15_set 63 = .ok (.aload_n 0, 1) := by decide +kernel
theorem dX15_set_64 : decode cX15_set 64 = .ok (.getfield 66, 3) := by decide +kernel
theorem dX15_set_67 : decode cX15_set 67 = .ok (.iconst 0, 1) := by decide +kernel
theorem dX15_set_68 : decode cX15_set 68 = .ok (.iload 7, 2) := by decide +kernel
theorem dX15_set_70 : decode cX15_set 70 = .ok (.invokestatic 314, 3) := by decide +kernel
theorem dX15_set_73 : decode cX15_set 73 = .ok (.invokeinterface 168 2, 5) := by decide +kernel
theorem dX15_set_78 : decode cX15_set 78 = .ok (.checkcast 152, 3) := by decide +kernel
theorem dX15_set_81 : decode cX15_set 81 = .ok (.iconst 3, 1) := by decide +kernel
theorem dX15_set_82 : decode cX15_set 82 = .ok (.iaload, 1) := by decide +kernel
theorem dX15_set_83 : decode cX15_set 83 = .ok (.iconst 1, 1) := by decide +kernel
theorem dX15_set_84 : decode cX15_set 84 = .ok (.isub, 1) := by decide +kernel
theorem dX15_set_85 : decode cX15_set 85 = .ok (.i2l, 1) := by decide +kernel
theorem dX15_set_86 : decode cX15_set 86 = .ok (.invokestatic 13, 3) := by decide +kernel
theorem dX15_set_89 : decode cX15_set 89 = .ok (.ifCond .ne 7, 3) := by decide +kernel
theorem dX15_set_92 : decode cX15_set 92 = .ok (.iconst 1, 1) := by decide +kernel
theorem dX15_set_93 : decode cX15_set 93 = .ok (.goto 4, 3) := by decide +kernel
theorem dX15_set_96 : decode cX15_set 96 = .ok (.iconst 0, 1) := by decide +kernel
theorem dX15_set_97 : decode cX15_set 97 = .ok (.iconst 1, 1) := by decide +kernel
theorem dX15_set_98 : decode cX15_set 98 = .ok (.invokevirtual 98, 3) := by decide +kernel
theorem dX15_set_101 : decode cX15_set 101 = .ok (.ifCond .ne 33, 3) := by decide +kernel
theorem dX15_set_104 : decode cX15_set 104 = .ok (.aload_n 0, 1) := by decide +kernel
theorem dX15_set_105 : decode cX15_set 105 = .ok (.iload 7, 2) := by decide +kernel
theorem dX15_set_107 : decode cX15_set 107 = .ok (.iconst (-1), 1) := by decide +kernel
theorem dX15_set_108 : decode cX15_set 108 = .ok (.if_icmp .eq 14, 3) := by decide +kernel
theorem dX15_set_111 : decode cX15_set 111 = .ok (.aload_n 0, 1) := by decide +kernel
theorem dX15_set_112 : decode cX15_set 112 = .ok (.aload 6, 2) := by decide +kernel
theorem dX15_set_114 : decode cX15_set 114 = .ok (.iload 7, 2) := by decide +kernel
theorem dX15_set_116 : decode cX15_set 116 = .ok (.invokevirtual 310, 3) := by decide +kernel
theorem dX15_set_119 : decode cX15_set 119 = .ok (.ifnonnull 7, 3) := by decide +kernel
theorem dX15_set_122 : decode cX15_set 122 = .ok (.iconst 1, 1) := by decide +kernel
theorem dX15_set_123 : decode cX15_set 123 = .ok (.goto 4, 3) := by decide +kernel
theorem dX15_set_126 : decode cX15_set 126 = .ok (.iconst 0, 1) := by decide +kernel
theorem dX15_set_127 : decode cX15_set 127 = .ok (.iconst 3, 1) := by decide +kernel
theorem dX15_set_128 : decode cX15_set 128 = .ok (.invokevirtual 98, 3) := by decide +kernel
theorem dX15_set_131 : decode cX15_set 131 = .ok (.ifCond .eq 5, 3) := by decide +kernel
theorem dX15_set_134 : decode cX15_set 134 = .ok (.iconst (-1), 1) := by decide +kernel
theorem dX15_set_135 : decode cX15_set 135 = .ok (.ireturn, 1) := by decide +kernel
theorem dX15_set_136 : decode cX15_set 136 = .ok (.aload_n 0, 1) := by decide +kernel
theorem dX15_set_137 : decode cX15_set 137 = .ok (.aload 6, 2) := by decide +kernel
theorem dX15_set_139 : decode cX15_set 139 = .ok (.iload 7, 2) := by decide +kernel
theorem dX15_set_141 : decode cX15_set 141 = .ok (.invokevirtual 310, 3) := by decide +kernel
theorem dX15_set_144 : decode cX15_set 144 = .ok (.astore 8, 2) := by decide +kernel
theorem dX15_set_146 : decode cX15_set 146 = .ok (.aload_n 0, 1) := by decide +kernel
theorem dX15_set_147 : decode cX15_set 147 = .ok (.aload 8, 2) := by decide +kernel
theorem dX15_set_149 : decode cX15_set 149 = .ok (.iconst 0, 1) := by decide +kernel
theorem dX15_set_150 : decode cX15_set 150 = .ok (.iaload, 1) := by decide +kernel
theorem dX15_set_151 : decode cX15_set 151 = .ok (.bipush 35, 2) := by decide +kernel
theorem dX15_set_153 : decode cX15_set 153 = .ok (.if_icmp .ne 7, 3) := by decide +kernel
theorem dX15_set_156 : decode cX15_set 156 = .ok (.iconst 1, 1) := by decide +kernel
theorem dX15_set_157 : decode cX15_set 157 = .ok (.goto 4, 3) := by decide +kernel
theorem dX15_set_160 : decode cX15_set 160 = .ok (.iconst 0, 1) := by decide +kernel
theorem dX15_set_161 : decode cX15_set 161 = .ok (.iconst 4, 1) := by decide +kernel
theorem dX15_set_162 : decode cX15_set 162 = .ok (.invokevirtual 98, 3) := by decide +kernel
theorem dX15_set_165 : decode cX15_set 165 = .ok (.ifCond .eq 5, 3) := by decide +kernel
theorem dX15_set_168 : decode cX15_set 168 = .ok (.iconst (-1), 1) := by decide +kernel
theorem dX15_set_169 : decode cX15_set 169 = .ok (.ireturn, 1) := by decide +kernel
theorem dX15_set_170 : decode cX15_set 170 = .ok (.aload_n 0, 1) := by decide +kernel
theorem dX15_set_171 : decode cX15_set 171 = .ok (.getfield 26, 3) := by decide +kernel
theorem dX15_set_174 : decode cX15_set 174 = .ok (.getfield 91, 3) := by decide +kernel
theorem dX15_set_177 : decode cX15_set 177 = .ok (.iload_n 1, 1) := by decide +kernel
theorem dX15_set_178 : decode cX15_set 178 = .ok (.invokeinterface 168 2, 5) := by decide +kernel
theorem dX15_set_183 : decode cX15_set 183 = .ok (.checkcast 212, 3) := by decide +kernel
theorem dX15_set_186 : decode cX15_set 186 = .ok (.astore 9, 2) := by decide +kernel
theorem dX15_set_188 : decode cX15_set 188 = .ok (.aload_n 0, 1) := by decide +kernel
theorem dX15_set_189 : decode cX15_set 189 = .ok (.aload 9, 2) := by decide +kernel
theorem dX15_set_191 : decode cX15_set 191 = .ok (.aload 6, 2) := by decide +kernel
theorem dX15_set_193 : decode cX15_set 193 = .ok (.aload 8, 2) := by decide +kernel
theorem dX15_set_195 : decode cX15_set 195 = .ok (.iload 4, 2) := by decide +kernel
theorem dX15_set_197 : decode cX15_set 197 = .ok (.invokevirtual 319, 3) := by decide +kernel
theorem dX15_set_200 : decode cX15_set 200 = .ok (.istore 10, 2) := by decide +kernel
theorem dX15_set_202 : decode cX15_set 202 = .ok (.aload 8, 2) := by decide +kernel
theorem dX15_set_204 : decode cX15_set 204 = .ok (.iconst 0, 1) := by decide +kernel
theorem dX15_set_205 : decode cX15_set 205 = .ok (.iaload, 1) := by decide +kernel
theorem dX15_set_206 : decode cX15_set 206 = .ok (.bipush 114, 2) := by decide +kernel
theorem dX15_set_208 : decode cX15_set 208 = .ok (.if_icmp .ne 18, 3) := by decide +kernel
theorem dX15_set_211 : decode cX15_set 211 = .ok (.aload 9, 2) := by decide +kernel
theorem dX15_set_213 : decode cX15_set 213 = .ok (.getfield 227, 3) := by decide +kernel
theorem dX15_set_216 : decode cX15_set 216 = .ok (.aload 8, 2) := by decide +kernel
theorem dX15_set_218 : decode cX15_set 218 = .ok (.iconst 1, 1) := by decide +kernel
theorem dX15_set_219 : decode cX15_set 219 = .ok (.iaload, 1) := by decide +kernel
theorem dX15_set_220 : decode cX15_set 220 = .ok (.iload 5, 2) := by decide +kernel
theorem dX15_set_222 : decode cX15_set 222 = .ok (.iastore, 1) := by decide +kernel
theorem dX15_set_223 : decode cX15_set 223 = .ok (.goto 52, 3) := by decide +kernel
theorem dX15_set_226 : decode cX15_set 226 = .ok (.aload 8, 2) := by decide +kernel
theorem dX15_set_228 : decode cX15_set 228 = .ok (.iconst 0, 1) := by decide +kernel
theorem dX15_set_229 : decode cX15_set 229 = .ok (.iaload, 1) := by decide +kernel
theorem dX15_set_230 : decode cX15_set 230 = .ok (.bipush 115, 2) := by decide +kernel
theorem dX15_set_232 : decode cX15_set 232 = .ok (.if_icmp .ne 26, 3) := by decide +kernel
theorem dX15_set_235 : decode cX15_set 235 = .ok (.aload 9, 2) := by decide +kernel
theorem dX15_set_237 : decode cX15_set 237 = .ok (.getfield 245, 3) := by decide +kernel
theorem dX15_set_240 : decode cX15_set 240 = .ok (.aload 6, 2) := by decide +kernel
theorem dX15_set_242 : decode cX15_set 242 = .ok (.iconst 1, 1) := by decide +kernel
theorem dX15_set_243 : decode cX15_set 243 = .ok (.iaload, 1) := by decide +kernel
theorem dX15_set_244 : decode cX15_set 244 = .ok (.aload 8, 2) := by decide +kernel
theorem dX15_set_246 : decode cX15_set 246 = .ok (.iconst 1, 1) := by decide +kernel
theorem dX15_set_247 : decode cX15_set 247 = .ok (.iaload, 1) := by decide +kernel
theorem dX15_set_248 : decode cX15_set 248 = .ok (.iadd, 1) := by decide +kernel
theorem dX15_set_249 : decode cX15_set 249 = .ok (.iload 4, 2) := by decide +kernel
theorem dX15_set_251 : decode cX15_set 251 = .ok (.iadd, 1) := by decide +kernel
theorem dX15_set_252 : decode cX15_set 252 = .ok (.iload 5, 2) := by decide +kernel
theorem dX15_set_254 : decode cX15_set 254 = .ok (.iastore, 1) := by decide +kernel
theorem dX15_set_255 : decode cX15_set 255 = .ok (.goto 20, 3) := by decide +kernel
theorem dX15_set_258 : decode cX15_set 258 = .ok (.aload_n 0, 1) := by decide +kernel
theorem dX15_set_259 : decode cX15_set 259 = .ok (.getfield 26, 3) := by decide +kernel
theorem dX15_set_262 : decode cX15_set 262 = .ok (.getfield 230, 3) := by decide +kernel
theorem dX15_set_265 : decode cX15_set 265 = .ok (.aload 8, 2) := by decide +kernel
theorem dX15_set_267 : decode cX15_set 267 = .ok (.iconst 1, 1) := by decide +kernel
theorem dX15_set_268 : decode cX15_set 268 = .ok (.iaload, 1) := by decide +kernel
theorem dX15_set_269 : decode cX15_set 269 = .ok (.iload 4, 2) := by decide +kernel
theorem dX15_set_271 : decode cX15_set 271 = .ok (.iadd, 1) := by decide +kernel
theorem dX15_set_272 : decode cX15_set 272 = .ok (.iload 5, 2) := by decide +kernel
theorem dX15_set_274 : decode cX15_set 274 = .ok (.iastore, 1) := by decide +kernel
theorem dX15_set_275 : decode cX15_set 275 = .ok (.aload_n 0, 1) := by decide +kernel
theorem dX15_set_276 : decode cX15_set 276 = .ok (.invokevirtual 176, 3) := by decide +kernel
theorem dX15_set_279 : decode cX15_set 279 = .ok (.iload 10, 2) := by decide +kernel
theorem dX15_set_281 : decode cX15_set 281 = .ok (.ireturn, 1) := by decide +kernel
theorem dX15_jump_0 : decode cX15_jump 0 = .ok (.aload_n 0, 1) := by decide +kernel
theorem dX15_jump_1 : decode cX15_jump 1 = .ok (.invokevirtual 124, 3) := by decide +kernel
theorem dX15_jump_4 : decode cX15_jump 4 = .ok (.aload_n 0, 1) := by decide +kernel
theorem dX15_jump_5 : decode cX15_jump 5 = .ok (.aload_n 0, 1) := by decide +kernel
theorem dX15_jump_6 : decode cX15_jump 6 = .ok (.getfield 26, 3) := by decide +kernel
theorem dX15_jump_9 : decode cX15_jump 9 = .ok (.getfield 91, 3) := by decide +kernel
theorem dX15_jump_12 : decode cX15_jump 12 = .ok (.iload_n 1, 1) := by decide +kernel
theorem dX15_jump_13 : decode cX15_jump 13 = .ok (.invokestatic 94, 3) := by decide +kernel
theorem dX15_jump_16 : decode cX15_jump 16 = .ok (.ifCond .eq 11, 3) := by decide +kernel
theorem dX15_jump_19 : decode cX15_jump 19 = .ok (.aload_n 0, 1) := by decide +kernel
theorem dX15_jump_20 : decode cX15_jump 20 = .ok (.iload_n 2, 1) := by decide +kernel
theorem dX15_jump_21 : decode cX15_jump 21 = .ok (.invokevirtual 164, 3) := by decide +kernel
theorem dX15_jump_24 : decode cX15_jump 24 = .ok (.ifCond .ne 7, 3) := by decide +kernel
theorem dX15_jump_27 : decode cX15_jump 27 = .ok (.iconst 1, 1) := by decide +kernel
theorem dX15_jump_28 : decode cX15_jump 28 = .ok (.goto 4, 3) := by decide +kernel
theorem dX15_jump_31 : decode cX15_jump 31 = .ok (.iconst 0, 1) := by decide +kernel
theorem dX15_jump_32 : decode cX15_jump 32 = .ok (.iconst 1, 1) := by decide +kernel
theorem dX15_jump_33 : decode cX15_jump 33 = .ok (.invokevirtual 98, 3) := by decide +kernel
theorem dX15_jump_36 : decode cX15_jump 36 = .ok (.ifCond .ne 40, 3) := by decide +kernel
theorem dX15_jump_39 : decode cX15_jump 39 = .ok (.aload_n 0, 1) := by decide +kernel
theorem dX15_jump_40 : decode cX15_jump 40 = .ok (.aload_n 0, 1) := by decide +kernel
theorem dX15_jump_41 : decode cX15_jump 41 = .ok (.getfield 26, 3) := by decide +kernel
theorem dX15_jump_44 : decode cX15_jump 44 = .ok (.getfield 91, 3) := by decide +kernel
theorem dX15_jump_47 : decode cX15_jump 47 = .ok (.iload_n 1, 1) := by decide +kernel
theorem dX15_jump_48 : decode cX15_jump 48 = .ok (.invokeinterface 168 2, 5) := by decide +kernel
theorem dX15_jump_53 : decode cX15_jump 53 = .ok (.checkcast 212, 3) := by decide +kernel
theorem dX15_jump_56 : decode cX15_jump 56 = .ok (.getfield 221, 3) := by decide +kernel
theorem dX15_jump_59 : decode cX15_jump 59 = .ok (.bipush 114, 2) := by decide +kernel
theorem dX15_jump_61 : decode cX15_jump 61 = .ok (.if_icmp .eq 7, 3) := by decide +kernel
theorem dX15_jump_64 : decode cX15_jump 64 = .ok (.iconst 1, 1) := by decide +kernel
theorem dX15_jump_65 : decode cX15_jump 65 = .ok (.goto 4, 3) := by decide +kernel
theorem dX15_jump_68 : decode cX15_jump 68 = .ok (.iconst 0, 1) := by decide +kernel
theorem dX15_jump_69 : decode cX15_jump 69 = .ok (.iconst 2, 1) := by decide +kernel
theorem dX15_jump_70 : decode cX15_jump 70 = .ok (.invokevirtual 98, 3) := by decide +kernel
theorem dX15_jump_73 : decode cX15_jump 73 = .ok (.ifCond .eq 5, 3) := by decide +kernel
theorem dX15_jump_76 : decode cX15_jump 76 = .ok (.iconst (-1), 1) := by decide +kernel
theorem dX15_jump_77 : decode cX15_jump 77 = .ok (.ireturn, 1) := by decide +kernel
theorem dX15_jump_78 : decode cX15_jump 78 = .ok (.aload_n 0, 1) := by decide +kernel
theorem dX15_jump_79 : decode cX15_jump 79 = .ok (.getfield 26, 3) := by decide +kernel
theorem dX15_jump_82 : decode cX15_jump 82 = .ok (.getfield 91, 3) := by decide +kernel
theorem dX15_jump_85 : decode cX15_jump 85 = .ok (.iload_n 1, 1) := by decide +kernel
theorem dX15_jump_86 : decode cX15_jump 86 = .ok (.invokeinterface 168 2, 5) := by decide +kernel
theorem dX15_jump_91 : decode cX15_jump 91 = .ok (.checkcast 212, 3) := by decide +kernel
theorem dX15_jump_94 : decode cX15_jump 94 = .ok (.getfield 215, 3) := by decide +kernel
theorem dX15_jump_97 : decode cX15_jump 97 = .ok (.istore_n 3, 1) := by decide +kernel
theorem dX15_jump_98 : decode cX15_jump 98 = .ok (.aload_n 0, 1) := by decide +kernel
theorem dX15_jump_99 : decode cX15_jump 99 = .ok (.getfield 26, 3) := by decide +kernel
theorem dX15_jump_102 : decode cX15_jump 102 = .ok (.getfield 91, 3) := by decide +kernel
theorem dX15_jump_105 : decode cX15_jump 105 = .ok (.iload_n 1, 1) := by decide +kernel
theorem dX15_jump_106 : decode cX15_jump 106 = .ok (.invokeinterface 168 2, 5) := by decide +kernel
theorem dX15_jump_111 : decode cX15_jump 111 = .ok (.checkcast 212, 3) := by decide +kernel
theorem dX15_jump_114 : decode cX15_jump 114 = .ok (.iload_n 2, 1) := by decide +kernel
theorem dX15_jump_115 : decode cX15_jump 115 = .ok (.putfield 215, 3) := by decide +kernel
theorem dX15_jump_118 : decode cX15_jump 118 = .ok (.aload_n 0, 1) := by decide +kernel
theorem dX15_jump_119 : decode cX15_jump 119 = .ok (.invokevirtual 176, 3) := by decide +kernel
theorem dX15_jump_122 : decode cX15_jump 122 = .ok (.iload_n 3, 1) := by decide +kernel
theorem dX15_jump_123 : decode cX15_jump 123 = .ok (.ireturn, 1) := by decide +kernel
theorem dX15_call_0 : decode cX15_call 0 = .ok (.aload_n 0, 1) := by decide +kernel
theorem dX15_call_1 : decode cX15_call 1 = .ok (.invokevirtual 124, 3) := by decide +kernel
theorem dX15_call_4 : decode cX15_call 4 = .ok (.aload_n 0, 1) := by decide +kernel
theorem dX15_call_5 : decode cX15_call 5 = .ok (.aload_n 0, 1) := by decide +kernel
theorem dX15_call_6 : decode cX15_call 6 = .ok (.getfield 26, 3) := by decide +kernel
theorem dX15_call_9 : decode cX15_call 9 = .ok (.getfield 91, 3) := by decide +kernel
theorem dX15_call_12 : decode cX15_call 12 = .ok (.iload_n 1, 1) := by decide +kernel
theorem dX15_call_13 : decode cX15_call 13 = .ok (.invokestatic 94, 3) := by decide +kernel
theorem dX15_call_16 : decode cX15_call 16 = .ok (.ifCond .eq 14, 3) := by decide +kernel
theorem dX15_call_19 : decode cX15_call 19 = .ok (.aload_n 0, 1) := by decide +kernel
theorem dX15_call_20 : decode cX15_call 20 = .ok (.getfield 48, 3) := by decide +kernel
theorem dX15_call_23 : decode cX15_call 23 = .ok (.iload_n 2, 1) := by decide +kernel
theorem dX15_call_24 : decode cX15_call 24 = .ok (.invokestatic 94, 3) := by decide +kernel
theorem dX15_call_27 : decode cX15_call 27 = .ok (.ifCond .ne 7, 3) := by decide +kernel
theorem dX15_call_30 : decode cX15_call 30 = .ok (.iconst 1, 1) := by decide +kernel
theorem dX15_call_31 : decode cX15_call 31 = .ok (.goto 4, 3) := by decide +kernel
theorem dX15_call_34 : decode cX15_call 34 = .ok (.iconst 0, 1) := by decide +kernel
theorem dX15_call_35 : decode cX15_call 35 = .ok (.iconst 1, 1) := by decide +kernel
theorem dX15_call_36 : decode cX15_call 36 = .ok (.invokevirtual 98, 3) := by decide +kernel
theorem dX15_call_39 : decode cX15_call 39 = .ok (.ifCond .ne 64, 3) := by decide +kernel
theorem dX15_call_42 : decode cX15_call 42 = .ok (.aload_n 0, 1) := by decide +kernel
theorem dX15_call_43 : decode cX15_call 43 = .ok (.aload_n 0, 1) := by decide +kernel
theorem dX15_call_44 : decode cX15_call 44 = .ok (.getfield 26, 3) := by decide +kernel
theorem dX15_call_47 : decode cX15_call 47 = .ok (.getfield 91, 3) := by decide +kernel
theorem dX15_call_50 : decode cX15_call 50 = .ok (.iload_n 1, 1) := by decide +kernel
theorem dX15_call_51 : decode cX15_call 51 = .ok (.invokeinterface 168 2, 5) := by decide +kernel
theorem dX15_call_56 : decode cX15_call 56 = .ok (.checkcast 212, 3) := by decide +kernel
theorem dX15_call_59 : decode cX15_call 59 = .ok (.getfield 221, 3) := by decide +kernel
theorem dX15_call_62 : decode cX15_call 62 = .ok (.bipush 114, 2) := by decide +kernel
theorem dX15_call_64 : decode cX15_call 64 = .ok (.if_icmp .ne 27, 3) := by decide +kernel
theorem dX15_call_67 : decode cX15_call 67 = .ok (.aload_n 0, 1) := by decide +kernel
theorem dX15_call_68 : decode cX15_call 68 = .ok (.getfield 26, 3) := by decide +kernel
theorem dX15_call_71 : decode cX15_call 71 = .ok (.getfield 91, 3) := by decide +kernel
theorem dX15_call_74 : decode cX15_call 74 = .ok (.iload_n 1, 1) := by decide +kernel
theorem dX15_call_75 : decode cX15_call 75 = .ok (.invokeinterface 168 2, 5) := by decide +kernel
theorem dX15_call_80 : decode cX15_call 80 = .ok (.checkcast 212, 3) := by decide +kernel
theorem dX15_call_83 : decode cX15_call 83 = .ok (.getfield 239, 3) := by decide +kernel
theorem dX15_call_86 : decode cX15_call 86 = .ok (.bipush 40, 2) := by decide +kernel
theorem dX15_call_88 : decode cX15_call 88 = .ok (.if_icmp .ne 7, 3) := by decide +kernel
theorem dX15_call_91 : decode cX15_call 91 = .ok (.iconst 1, 1) := by decide +kernel
theorem dX15_call_92 : decode cX15_call 92 = .ok (.goto 4, 3) := by decide +kernel
theorem dX15_call_95 : decode cX15_call 95 = .ok (.iconst 0, 1) := by decide +kernel
theorem dX15_call_96 : decode cX15_call 96 = .ok (.iconst 2, 1) := by decide +kernel
theorem dX15_call_97 : decode cX15_call 97 = .ok (.invokevirtual 98, 3) := by decide +kernel
theorem dX15_call_100 : decode cX15_call 100 = .ok (.ifCond .eq 5, 3) := by decide +kernel
theorem dX15_call_103 : decode cX15_call 103 = .ok (.iconst (-1), 1) := by decide +kernel
theorem dX15_call_104 : decode cX15_call 104 = .ok (.ireturn, 1) := by decide +kernel
theorem dX15_call_105 : decode cX15_call 105 = .ok (.aload_n 0, 1) := by decide +kernel
theorem dX15_call_106 : decode cX15_call 106 = .ok (.getfield 26, 3) := by decide +kernel
theorem dX15_call_109 : decode cX15_call 109 = .ok (.invokevirtual 259, 3) := by decide +kernel
theorem dX15_call_112 : decode cX15_call 112 = .ok (.astore 4, 2) := by decide +kernel
theorem dX15_call_114 : decode cX15_call 114 = .ok (.aload_n 0, 1) := by decide +kernel
theorem dX15_call_115 : decode cX15_call 115 = .ok (.getfield 26, 3) := by decide +kernel
theorem dX15_call_118 : decode cX15_call 118 = .ok (.getfield 91, 3) := by decide +kernel
theorem dX15_call_121 : decode cX15_call 121 = .ok (.iload_n 1, 1) := by decide +kernel
theorem dX15_call_122 : decode cX15_call 122 = .ok (.invokeinterface 168 2, 5) := by decide +kernel
theorem dX15_call_127 : decode cX15_call 127 = .ok (.checkcast 212, 3) := by decide +kernel
theorem dX15_call_130 : decode cX15_call 130 = .ok (.astore 5, 2) := by decide +kernel
theorem dX15_call_132 : decode cX15_call 132 = .ok (.aload 5, 2) := by decide +kernel
theorem dX15_call_134 : decode cX15_call 134 = .ok (.getfield 239, 3) := by decide +kernel
theorem dX15_call_137 : decode cX15_call 137 = .ok (.istore 6, 2) := by decide +kernel
theorem dX15_call_139 : decode cX15_call 139 = .ok (.aload 5, 2) := by decide +kernel
theorem dX15_call_141 : decode cX15_call 141 = .ok (.iconst 0, 1) := by decide +kernel
theorem dX15_call_142 : decode cX15_call 142 = .ok (.invokestatic 255, 3) := by decide +kernel
theorem dX15_call_145 : decode cX15_call 145 = .ok (.aload 5, 2) := by decide +kernel
theorem dX15_call_147 : decode cX15_call 147 = .ok (.getfield 227, 3) := by decide +kernel
theorem dX15_call_150 : decode cX15_call 150 = .ok (.iconst 0, 1) := by decide +kernel
theorem dX15_call_151 : decode cX15_call 151 = .ok (.iload_n 3, 1) := by decide +kernel
theorem dX15_call_152 : decode cX15_call 152 = .ok (.iastore, 1) := by decide +kernel
theorem dX15_call_153 : decode cX15_call 153 = .ok (.iconst 1, 1) := by decide +kernel
theorem dX15_call_154 : decode cX15_call 154 = .ok (.istore 7, 2) := by decide +kernel
theorem dX15_call_156 : decode cX15_call 156 = .ok (.iload 7, 2) := by decide +kernel
theorem dX15_call_158 : decode cX15_call 158 = .ok (.iconst 4, 1) := by decide +kernel
theorem dX15_call_159 : decode cX15_call 159 = .ok (.if_icmp .ge 18, 3) := by decide +kernel
theorem dX15_call_162 : decode cX15_call 162 = .ok (.aload 5, 2) := by decide +kernel
theorem dX15_call_164 : decode cX15_call 164 = .ok (.getfield 227, 3) := by decide +kernel
theorem dX15_call_167 : decode cX15_call 167 = .ok (.iload 7, 2) := by decide +kernel
theorem dX15_call_169 : decode cX15_call 169 = .ok (.iconst 0, 1) := by decide +kernel
theorem dX15_call_170 : decode cX15_call 170 = .ok (.iastore, 1) := by decide +kernel
theorem dX15_call_171 : decode cX15_call 171 = .ok (.iinc 7 1, 3) := by decide +kernel
theorem dX15_call_174 : decode cX15_call 174 = .ok (.goto (-18), 3) := by decide +kernel
theorem dX15_call_177 : decode cX15_call 177 = .ok (.aload 5, 2) := by decide +kernel
theorem dX15_call_179 : decode cX15_call 179 = .ok (.aload_n 0, 1) := by decide +kernel
theorem dX15_call_180 : decode cX15_call 180 = .ok (.getfield 48, 3) := by decide +kernel
theorem dX15_call_183 : decode cX15_call 183 = .ok (.iload_n 2, 1) := by decide +kernel
theorem dX15_call_184 : decode cX15_call 184 = .ok (.invokeinterface 168 2, 5) := by decide +kernel
theorem dX15_call_189 : decode cX15_call 189 = .ok (.checkcast 152, 3) := by decide +kernel
theorem dX15_call_192 : decode cX15_call 192 = .ok (.iconst 0, 1) := by decide +kernel
theorem dX15_call_193 : decode cX15_call 193 = .ok (.iaload, 1) := by decide +kernel
theorem dX15_call_194 : decode cX15_call 194 = .ok (.putfield 215, 3) := by decide +kernel
theorem dX15_call_197 : decode cX15_call 197 = .ok (.iconst 0, 1) := by decide +kernel
theorem dX15_call_198 : decode cX15_call 198 = .ok (.istore 7, 2) := by decide +kernel
theorem dX15_call_200 : decode cX15_call 200 = .ok (.iconst 0, 1) := by decide +kernel
theorem dX15_call_201 : decode cX15_call 201 = .ok (.istore 8, 2) := by decide +kernel
theorem dX15_call_203 : decode cX15_call 203 = .ok (.iload 8, 2) := by decide +kernel
theorem dX15_call_205 : decode cX15_call 205 = .ok (.sipush 200, 3) := by decide +kernel
theorem dX15_call_208 : decode cX15_call 208 = .ok (.if_icmp .ge 84, 3) := by decide +kernel
theorem dX15_call_211 : decode cX15_call 211 = .ok (.iload 7, 2) := by decide +kernel
theorem dX15_call_213 : decode cX15_call 213 = .ok (.ifCond .ne 79, 3) := by decide +kernel
theorem dX15_call_216 : decode cX15_call 216 = .ok (.aload 5, 2) := by decide +kernel
theorem dX15_call_218 : decode cX15_call 218 = .ok (.getfield 221, 3) := by decide +kernel
theorem dX15_call_221 : decode cX15_call 221 = .ok (.bipush 114, 2) := by decide +kernel
theorem dX15_call_223 : decode cX15_call 223 = .ok (.if_icmp .ne 69, 3) := by decide +kernel
theorem dX15_call_226 : decode cX15_call 226 = .ok (.aload_n 0, 1) := by decide +kernel
theorem dX15_call_227 : decode cX15_call 227 = .ok (.aload 5, 2) := by decide +kernel
theorem dX15_call_229 : decode cX15_call 229 = .ok (.getfield 215, 3) := by decide +kernel
theorem dX15_call_232 : decode cX15_call 232 = .ok (.invokevirtual 164, 3) := by decide +kernel
theorem dX15_call_235 : decode cX15_call 235 = .ok (.ifCond .eq 43, 3) := by decide +kernel
theorem dX15_call_238 : decode cX15_call 238 = .ok (.aload_n 0, 1) := by decide +kernel
theorem dX15_call_239 : decode cX15_call 239 = .ok (.getfield 37, 3) := by decide +kernel
theorem dX15_call_242 : decode cX15_call 242 = .ok (.aload 5, 2) := by decide +kernel
theorem dX15_call_244 : decode cX15_call 244 = .ok (.getfield 215, 3) := by decide +kernel
theorem dX15_call_247 : decode cX15_call 247 = .ok (.invokeinterface 168 2, 5) := by decide +kernel
theorem dX15_call_252 : decode cX15_call 252 = .ok (.checkcast 152, 3) := by decide +kernel
theorem dX15_call_255 : decode cX15_call 255 = .ok (.iconst 0, 1) := by decide +kernel
theorem dX15_call_256 : decode cX15_call 256 = .ok (.iaload, 1) := by decide +kernel
theorem dX15_call_257 : decode cX15_call 257 = .ok (.bipush 114, 2) := by decide +kernel
theorem dX15_call_259 : decode cX15_call 259 = .ok (.if_icmp .ne 19, 3) := by decide +kernel
theorem dX15_call_262 : decode cX15_call 262 = .ok (.aload 5, 2) := by decide +kernel
theorem dX15_call_264 : decode cX15_call 264 = .ok (.getfield 239, 3) := by decide +kernel
theorem dX15_call_267 : decode cX15_call 267 = .ok (.iload 6, 2) := by decide +kernel
theorem dX15_call_269 : decode cX15_call 269 = .ok (.iconst 1, 1) := by decide +kernel
theorem dX15_call_270 : decode cX15_call 270 = .ok (.iadd, 1) := by decide +kernel
theorem dX15_call_271 : decode cX15_call 271 = .ok (.if_icmp .ne 7, 3) := by decide +kernel
theorem dX15_call_274 : decode cX15_call 274 = .ok (.iconst 1, 1) := by decide +kernel
theorem dX15_call_275 : decode cX15_call 275 = .ok (.goto 4, 3) := by decide +kernel
theorem dX15_call_278 : decode cX15_call 278 = .ok (.iconst 0, 1) := by decide +kernel
theorem dX15_call_279 : decode cX15_call 279 = .ok (.istore 7, 2) := by decide +kernel
theorem dX15_call_281 : decode cX15_call 281 = .ok (.aload_n 0, 1) := by decide +kernel
theorem dX15_call_282 : decode cX15_call 282 = .ok (.iload_n 1, 1) := by decide +kernel
theorem dX15_call_283 : decode cX15_call 283 = .ok (.invokevirtual 266, 3) := by decide +kernel
theorem dX15_call_286 : decode cX15_call 286 = .ok (.iinc 8 1, 3) := by decide +kernel
theorem dX15_call_289 : decode cX15_call 289 = .ok (.goto (-86), 3) := by decide +kernel
theorem dX15_call_292 : decode cX15_call 292 = .ok (.iload 7, 2) := by decide +kernel
theorem dX15_call_294 : decode cX15_call 294 = .ok (.ifCond .ne 9, 3) := by decide +kernel
theorem dX15_call_297 : decode cX15_call 297 = .ok (.aload_n 0, 1) := by decide +kernel
theorem dX15_call_298 : decode cX15_call 298 = .ok (.aload 4, 2) := by decide +kernel
theorem dX15_call_300 : decode cX15_call 300 = .ok (.putfield 26, 3) := by decide +kernel
theorem dX15_call_303 : decode cX15_call 303 = .ok (.aload_n 0, 1) := by decide +kernel
theorem dX15_call_304 : decode cX15_call 304 = .ok (.iload 7, 2) := by decide +kernel
theorem dX15_call_306 : decode cX15_call 306 = .ok (.ifCond .ne 7, 3) := by decide +kernel
theorem dX15_call_309 : decode cX15_call 309 = .ok (.iconst 1, 1) := by decide +kernel
theorem dX15_call_310 : decode cX15_call 310 = .ok (.goto 4, 3) := by decide +kernel
theorem dX15_call_313 : decode cX15_call 313 = .ok (.iconst 0, 1) := by decide +kernel
theorem dX15_call_314 : decode cX15_call 314 = .ok (.iconst 2, 1) := by decide +kernel
theorem dX15_call_315 : decode cX15_call 315 = .ok (.invokevirtual 98, 3) := by decide +kernel
theorem dX15_call_318 : decode cX15_call 318 = .ok (.ifCond .eq 5, 3) := by decide +kernel
theorem dX15_call_321 : decode cX15_call 321 = .ok (.iconst (-1), 1) := by decide +kernel
theorem dX15_call_322 : decode cX15_call 322 = .ok (.ireturn, 1) := by decide +kernel
theorem dX15_call_323 : decode cX15_call 323 = .ok (.aload 5, 2) := by decide +kernel
theorem dX15_call_325 : decode cX15_call 325 = .ok (.getfield 227, 3) := by decide +kernel
theorem dX15_call_328 : decode cX15_call 328 = .ok (.iconst 0, 1) := by decide +kernel
theorem dX15_call_329 : decode cX15_call 329 = .ok (.iaload, 1) := by decide +kernel
theorem dX15_call_330 : decode cX15_call 330 = .ok (.istore 8, 2) := by decide +kernel
theorem dX15_call_332 : decode cX15_call 332 = .ok (.aload 5, 2) := by decide +kernel
theorem dX15_call_334 : decode cX15_call 334 = .ok (.aload 4, 2) := by decide +kernel
theorem dX15_call_336 : decode cX15_call 336 = .ok (.getfield 91, 3) := by decide +kernel
theorem dX15_call_339 : decode cX15_call 339 = .ok (.iload_n 1, 1) := by decide +kernel
theorem dX15_call_340 : decode cX15_call 340 = .ok (.invokeinterface 168 2, 5) := by decide +kernel
theorem dX15_call_345 : decode cX15_call 345 = .ok (.checkcast 212, 3) := by decide +kernel
theorem dX15_call_348 : decode cX15_call 348 = .ok (.invokevirtual 440, 3) := by decide +kernel
theorem dX15_call_351 : decode cX15_call 351 = .ok (.aload_n 0, 1) := by decide +kernel
theorem dX15_call_352 : decode cX15_call 352 = .ok (.getfield 26, 3) := by decide +kernel
theorem dX15_call_355 : decode cX15_call 355 = .ok (.aload 4, 2) := by decide +kernel
theorem dX15_call_357 : decode cX15_call 357 = .ok (.getfield 248, 3) := by decide +kernel
theorem dX15_call_360 : decode cX15_call 360 = .ok (.putfield 248, 3) := by decide +kernel
theorem dX15_call_363 : decode cX15_call 363 = .ok (.aload_n 0, 1) := by decide +kernel
theorem dX15_call_364 : decode cX15_call 364 = .ok (.invokevirtual 176, 3) := by decide +kernel
theorem dX15_call_367 : decode cX15_call 367 = .ok (.iload 8, 2) := by decide +kernel
theorem dX15_call_369 : decode cX15_call 369 = .ok (.ireturn, 1) := by decide +kernel
theorem dX15_which_0 : decode cX15_which 0 = .ok (.aload_n 0, 1) := by decide +kernel
theorem dX15_which_1 : decode cX15_which 1 = .ok (.invokevirtual 124, 3) := by decide +kernel
theorem dX15_which_4 : decode cX15_which 4 = .ok (.aload_n 0, 1) := by decide +kernel
theorem dX15_which_5 : decode cX15_which 5 = .ok (.aload_n 0, 1) := by decide +kernel
theorem dX15_which_6 : decode cX15_which 6 = .ok (.getfield 88, 3) := by decide +kernel
theorem dX15_which_9 : decode cX15_which 9 = .ok (.iconst (-1), 1) := by decide +kernel
theorem dX15_which_10 : decode cX15_which 10 = .ok (.if_icmp .ne 7, 3) := by decide +kernel
theorem dX15_which_13 : decode cX15_which 13 = .ok (.iconst 1, 1) := by decide +kernel
theorem dX15_which_14 : decode cX15_which 14 = .ok (.goto 4, 3) := by decide +kernel
theorem dX15_which_17 : decode cX15_which 17 = .ok (.iconst 0, 1) := by decide +kernel
theorem dX15_which_18 : decode cX15_which 18 = .ok (.iconst 1, 1) := by decide +kernel
theorem dX15_which_19 : decode cX15_which 19 = .ok (.invokevirtual 98, 3) := by decide +kernel
theorem dX15_which_22 : decode cX15_which 22 = .ok (.ifCond .eq 7, 3) := by decide +kernel
theorem dX15_which_25 : decode cX15_which 25 = .ok (.iconst (-1), 1) := by decide +kernel
theorem dX15_which_26 : decode cX15_which 26 = .ok (.goto 7, 3) := by decide +kernel
theorem dX15_which_29 : decode cX15_which 29 = .ok (.aload_n 0, 1) := by decide +kernel
theorem dX15_which_30 : decode cX15_which 30 = .ok (.getfield 88, 3) := by decide +kernel
theorem dX15_which_33 : decode cX15_which 33 = .ok (.ireturn, 1) := by decide +kernel
theorem dX15_stopLine_0 : decode cX15_stopLine 0 = .ok (.aload_n 0, 1) := by decide +kernel
theorem dX15_stopLine_1 : decode cX15_stopLine 1 = .ok (.invokevirtual 124, 3) := by decide +kernel
theorem dX15_stopLine_4 : decode cX15_stopLine 4 = .ok (.new 367, 3) := by decide +kernel
theorem dX15_stopLine_7 : decode cX15_stopLine 7 = .ok (.dup, 1) := by decide +kernel
theorem dX15_stopLine_8 : decode cX15_stopLine 8 = .ok (.invokespecial 369, 3) := by decide +kernel
theorem dX15_stopLine_11 : decode cX15_stopLine 11 = .ok (.astore_n 2, 1) := by decide +kernel
theorem dX15_stopLine_12 : decode cX15_stopLine 12 = .ok (.iconst 0, 1) := by decide +kernel
theorem dX15_stopLine_13 : decode cX15_stopLine 13 = .ok (.istore_n 3, 1) := by decide +kernel
theorem dX15_stopLine_14 : decode cX15_stopLine 14 = .ok (.iconst 0, 1) := by decide +kernel
theorem dX15_stopLine_15 : decode cX15_stopLine 15 = .ok (.istore 4, 2) := by decide +kernel
theorem dX15_stopLine_17 : decode cX15_stopLine 17 = .ok (.iload 4, 2) := by decide +kernel
theorem dX15_stopLine_19 : decode cX15_stopLine 19 = .ok (.aload_n 0, 1) := by decide +kernel
theorem dX15_stopLine_20 : decode cX15_stopLine 20 = .ok (.getfield 37, 3) := by decide +kernel
theorem dX15_stopLine_23 : decode cX15_stopLine 23 = .ok (.invokeinterface 7 1, 5) := by decide +kernel
theorem dX15_stopLine_28 : decode cX15_stopLine 28 = .ok (.if_icmp .ge 61, 3) := by decide +kernel
theorem dX15_stopLine_31 : decode cX15_stopLine 31 = .ok (.aload_n 2, 1) := by decide +kernel
theorem dX15_stopLine_32 : decode cX15_stopLine 32 = .ok (.getfield 370, 3) := by decide +kernel
theorem dX15_stopLine_35 : decode cX15_stopLine 35 = .ok (.iload 4, 2) := by decide +kernel
theorem dX15_stopLine_37 : decode cX15_stopLine 37 = .ok (.aload_n 0, 1) := by decide +kernel
theorem dX15_stopLine_38 : decode cX15_stopLine 38 = .ok (.getfield 40, 3) := by decide +kernel
theorem dX15_stopLine_41 : decode cX15_stopLine 41 = .ok (.iload 4, 2) := by decide +kernel
theorem dX15_stopLine_43 : decode cX15_stopLine 43 = .ok (.iaload, 1) := by decide +kernel
theorem dX15_stopLine_44 : decode cX15_stopLine 44 = .ok (.iload_n 1, 1) := by decide +kernel
theorem dX15_stopLine_45 : decode cX15_stopLine 45 = .ok (.if_icmp .ne 16, 3) := by decide +kernel
theorem dX15_stopLine_48 : decode cX15_stopLine 48 = .ok (.aload_n 0, 1) := by decide +kernel
theorem dX15_stopLine_49 : decode cX15_stopLine 49 = .ok (.iload 4, 2) := by decide +kernel
theorem dX15_stopLine_51 : decode cX15_stopLine 51 = .ok (.invokevirtual 376, 3) := by decide +kernel
theorem dX15_stopLine_54 : decode cX15_stopLine 54 = .ok (.ifCond .eq 7, 3) := by decide +kernel
theorem dX15_stopLine_57 : decode cX15_stopLine 57 = .ok (.iconst 1, 1) := by decide +kernel
theorem dX15_stopLine_58 : decode cX15_stopLine 58 = .ok (.goto 4, 3) := by decide +kernel
theorem dX15_stopLine_61 : decode cX15_stopLine 61 = .ok (.iconst 0, 1) := by decide +kernel
theorem dX15_stopLine_62 : decode cX15_stopLine 62 = .ok (.bastore, 1) := by decide +kernel
theorem dX15_stopLine_63 : decode cX15_stopLine 63 = .ok (.iload_n 3, 1) := by decide +kernel
theorem dX15_stopLine_64 : decode cX15_stopLine 64 = .ok (.ifCond .ne 13, 3) := by decide +kernel
theorem dX15_stopLine_67 : decode cX15_stopLine 67 = .ok (.aload_n 2, 1) := by decide +kernel
theorem dX15_stopLine_68 : decode cX15_stopLine 68 = .ok (.getfield 370, 3) := by decide +kernel
theorem dX15_stopLine_71 : decode cX15_stopLine 71 = .ok (.iload 4, 2) := by decide +kernel
theorem dX15_stopLine_73 : decode cX15_stopLine 73 = .ok (.baload, 1) := by decide +kernel
theorem dX15_stopLine_74 : decode cX15_stopLine 74 = .ok (.ifCond .eq 7, 3) := by decide +kernel
theorem dX15_stopLine_77 : decode cX15_stopLine 77 = .ok (.iconst 1, 1) := by decide +kernel
theorem dX15_stopLine_78 : decode cX15_stopLine 78 = .ok (.goto 4, 3) := by decide +kernel
theorem dX15_stopLine_81 : decode cX15_stopLine 81 = .ok (.iconst 0, 1) := by decide +kernel
theorem dX15_stopLine_82 : decode cX15_stopLine 82 = .ok (.istore_n 3, 1) := by decide +kernel
theorem dX15_stopLine_83 : decode cX15_stopLine 83 = .ok (.iinc 4 1, 3) := by decide +kernel
theorem dX15_stopLine_86 : decode cX15_stopLine 86 = .ok (.goto (-69), 3) := by decide +kernel
theorem dX15_stopLine_89 : decode cX15_stopLine 89 = .ok (.aload_n 0, 1) := by decide +kernel
theorem dX15_stopLine_90 : decode cX15_stopLine 90 = .ok (.iload_n 3, 1) := by decide +kernel
theorem dX15_stopLine_91 : decode cX15_stopLine 91 = .ok (.ifCond .ne 7, 3) := by decide +kernel
theorem dX15_stopLine_94 : decode cX15_stopLine 94 = .ok (.iconst 1, 1) := by decide +kernel
theorem dX15_stopLine_95 : decode cX15_stopLine 95 = .ok (.goto 4, 3) := by decide +kernel
theorem dX15_stopLine_98 : decode cX15_stopLine 98 = .ok (.iconst 0, 1) := by decide +kernel
theorem dX15_stopLine_99 : decode cX15_stopLine 99 = .ok (.iconst 1, 1) := by decide +kernel
theorem dX15_stopLine_100 : decode cX15_stopLine 100 = .ok (.invokevirtual 98, 3) := by decide +kernel
theorem dX15_stopLine_103 : decode cX15_stopLine 103 = .ok (.ifCond .eq 7, 3) := by decide +kernel
theorem dX15_stopLine_106 : decode cX15_stopLine 106 = .ok (.iconst (-1), 1) := by decide +kernel
theorem dX15_stopLine_107 : decode cX15_stopLine 107 = .ok (.goto 8, 3) := by decide +kernel
theorem dX15_stopLine_110 : decode cX15_stopLine 110 = .ok (.aload_n 0, 1) := by decide +kernel
theorem dX15_stopLine_111 : decode cX15_stopLine 111 = .ok (.aload_n 2, 1) := by decide +kernel
theorem dX15_stopLine_112 : decode cX15_stopLine 112 = .ok (.invokevirtual 373, 3) := by decide +kernel
theorem dX15_stopLine_115 : decode cX15_stopLine 115 = .ok (.ireturn, 1) := by decide +kernel
