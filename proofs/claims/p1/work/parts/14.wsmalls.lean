theorem K2086 : (Cond.fieldLink RX15 1 "UnwindlensModel" "thrown" "I") ∈ ALL := mAC ch_t9 (i := 90) (by decide +kernel) rfl
theorem PN_RX15 : plainName RX15 = true := by decide +kernel
theorem HD_yJx4a65c_size_8abf5 : yJx4a65c_size_8abf5.cls ≠ "java/lang/invoke/MethodHandle" ∧ yJx4a65c_size_8abf5.cls ≠ "java/lang/invoke/VarHandle" ∧ (parseMethodDescriptor yJx4a65c_size_8abf5.desc).map (fun d => d.parameters.length) = some 0 := by decide +kernel
theorem K2218 : (Cond.methodLink RX15 7 ⟨"java/util/List", "size", "()I"⟩) ∈ ALL := mAC ch_t9 (i := 222) (by decide +kernel) rfl
theorem K2222 : (Cond.selects RJx4a65c ⟨"java/util/List", "size", "()I"⟩ yJx4a65c_size_8abf5) ∈ ALL := mAC ch_t9 (i := 226) (by decide +kernel) rfl
theorem K2224 : (Cond.instanceMethod yJx4a65c_size_8abf5) ∈ ALL := mAC ch_t9 (i := 228) (by decide +kernel) rfl
theorem K2226 : (Cond.code yJx4a65c_size_8abf5 cJx4a65c_size_8abf5 1 (some .int)) ∈ ALL := mAC ch_t9 (i := 230) (by decide +kernel) rfl
theorem GF_RX15_7 : GoodIn ALL (va_wsF RX15 7 RJx4a65c ⟨"java/util/List", "size", "()I"⟩ yJx4a65c_size_8abf5 (Cond.code yJx4a65c_size_8abf5 cJx4a65c_size_8abf5 1 (some .int) :: ALL)) := gF K2218 K2222 K2224 K98 K2226
theorem HD___java_util_List____size______I__ : (⟨"java/util/List", "size", "()I"⟩ : MethodName).cls ≠ "java/lang/invoke/MethodHandle" ∧ (⟨"java/util/List", "size", "()I"⟩ : MethodName).cls ≠ "java/lang/invoke/VarHandle" ∧ (parseMethodDescriptor (⟨"java/util/List", "size", "()I"⟩ : MethodName).desc).map (fun d => d.parameters.length) = some 0 := by decide +kernel
theorem HD_yX15_in : yX15_in.cls ≠ "java/lang/invoke/MethodHandle" ∧ yX15_in.cls ≠ "java/lang/invoke/VarHandle" ∧ (parseMethodDescriptor yX15_in.desc).map (fun d => d.parameters.length) = some 3 := by decide +kernel
theorem K2207 : (Cond.code yX15_in cX15_in 6 (some .boolean)) ∈ ALL := mAC ch_t9 (i := 211) (by decide +kernel) rfl
theorem K2205 : (Cond.methodLink RX15 13 yX15_in) ∈ ALL := mAC ch_t9 (i := 209) (by decide +kernel) rfl
theorem K2206 : (Cond.static yX15_in) ∈ ALL := mAC ch_t9 (i := 210) (by decide +kernel) rfl
theorem K94 : (Cond.initialized RX15) ∈ ALL := mAC ch_t1 (i := 18) (by decide +kernel) rfl
theorem GS_RX15_13 : GoodIn ALL (va_wsS RX15 13 yX15_in (Cond.code yX15_in cX15_in 6 (some .boolean) :: ALL)) := gS K2205 K2206 K94 K2207
theorem K2087 : (Cond.fieldLink RX15 26 "UnwindlensModel" "target" "LUnwindlensModel$Target;") ∈ ALL := mAC ch_t9 (i := 91) (by decide +kernel) rfl
theorem K2063 : (Cond.fieldLinkNest RX15 91 "UnwindlensModel$Target" "threads" "Ljava/util/List;" RX15) ∈ NGS := mNC ch_t9 (i := 67) (by decide +kernel) rfl
theorem HD_yX15_isOf : yX15_isOf.cls ≠ "java/lang/invoke/MethodHandle" ∧ yX15_isOf.cls ≠ "java/lang/invoke/VarHandle" ∧ (parseMethodDescriptor yX15_isOf.desc).map (fun d => d.parameters.length) = some 2 := by decide +kernel
theorem K2311 : (Cond.code yX15_isOf cX15_isOf 2 (some .boolean)) ∈ ALL := mAC ch_t10 (i := 75) (by decide +kernel) rfl
theorem K2309 : (Cond.methodLink RX15 94 yX15_isOf) ∈ ALL := mAC ch_t10 (i := 73) (by decide +kernel) rfl
theorem K2310 : (Cond.static yX15_isOf) ∈ ALL := mAC ch_t10 (i := 74) (by decide +kernel) rfl
theorem GS_RX15_94 : GoodIn ALL (va_wsS RX15 94 yX15_isOf (Cond.code yX15_isOf cX15_isOf 2 (some .boolean) :: ALL)) := gS K2309 K2310 K94 K2311
theorem HD_yX15_fails : yX15_fails.cls ≠ "java/lang/invoke/MethodHandle" ∧ yX15_fails.cls ≠ "java/lang/invoke/VarHandle" ∧ (parseMethodDescriptor yX15_fails.desc).map (fun d => d.parameters.length) = some 2 := by decide +kernel
theorem K2216 : (Cond.code yX15_fails cX15_fails 3 (some .boolean)) ∈ ALL := mAC ch_t9 (i := 220) (by decide +kernel) rfl
theorem K2213 : (Cond.methodLink RX15 98 yX15_fails) ∈ ALL := mAC ch_t9 (i := 217) (by decide +kernel) rfl
theorem K2215 : (Cond.instanceMethod yX15_fails) ∈ ALL := mAC ch_t9 (i := 219) (by decide +kernel) rfl
theorem K38 : (Cond.selects RX15 yX15_fails yX15_fails) ∈ ALL := mAC ch_sel (i := 38) (by decide +kernel) rfl
theorem GV_RX15_98 : GoodIn ALL (wsV RX15 98 RX15 yX15_fails (Cond.code yX15_fails cX15_fails 3 (some .boolean) :: ALL)) := gV K2213 K2215 K38 K94 K2216
theorem K2100 : (Cond.fieldLink RX15 78 "UnwindlensModel" "breaks" "Ljava/util/List;") ∈ ALL := mAC ch_t9 (i := 104) (by decide +kernel) rfl
theorem K2089 : (Cond.fieldLink RX15 37 "UnwindlensModel" "code" "Ljava/util/List;") ∈ ALL := mAC ch_t9 (i := 93) (by decide +kernel) rfl
theorem K2465 : (Cond.constantLong RX15 202 97) ∈ ALL := mAC ch_t10 (i := 229) (by decide +kernel) rfl
theorem K2466 : (Cond.constantLong RX15 204 122) ∈ ALL := mAC ch_t10 (i := 230) (by decide +kernel) rfl
theorem K2102 : (Cond.fieldLink RX15 84 "UnwindlensModel" "reason" "C") ∈ ALL := mAC ch_t9 (i := 106) (by decide +kernel) rfl
theorem K2103 : (Cond.fieldLink RX15 88 "UnwindlensModel" "which" "I") ∈ ALL := mAC ch_t9 (i := 107) (by decide +kernel) rfl
theorem dX15_begins_0 : decode cX15_begins 0 = .ok (.aload_n 0, 1) := by decide +kernel
theorem dX15_begins_1 : decode cX15_begins 1 = .ok (.iconst 0, 1) := by decide +kernel
theorem dX15_begins_2 : decode cX15_begins 2 = .ok (.putfield 1, 3) := by decide +kernel
theorem dX15_begins_5 : decode cX15_begins 5 = .ok (.return_, 1) := by decide +kernel
theorem dX15_in_0 : decode cX15_in 0 = .ok (.lload_n 0, 1) := by decide +kernel
theorem dX15_in_1 : decode cX15_in 1 = .ok (.lload_n 2, 1) := by decide +kernel
theorem dX15_in_2 : decode cX15_in 2 = .ok (.lcmp, 1) := by decide +kernel
theorem dX15_in_3 : decode cX15_in 3 = .ok (.ifCond .lt 14, 3) := by decide +kernel
theorem dX15_in_6 : decode cX15_in 6 = .ok (.lload_n 0, 1) := by decide +kernel
theorem dX15_in_7 : decode cX15_in 7 = .ok (.lload 4, 2) := by decide +kernel
theorem dX15_in_9 : decode cX15_in 9 = .ok (.lcmp, 1) := by decide +kernel
theorem dX15_in_10 : decode cX15_in 10 = .ok (.ifCond .gt 7, 3) := by decide +kernel
theorem dX15_in_13 : decode cX15_in 13 = .ok (.iconst 1, 1) := by decide +kernel
theorem dX15_in_14 : decode cX15_in 14 = .ok (.goto 4, 3) := by decide +kernel
theorem dX15_in_17 : decode cX15_in 17 = .ok (.iconst 0, 1) := by decide +kernel
theorem dX15_in_18 : decode cX15_in 18 = .ok (.ireturn, 1) := by decide +kernel
theorem dX15_isOf_0 : decode cX15_isOf 0 = .ok (.iload_n 1, 1) := by decide +kernel
theorem dX15_isOf_1 : decode cX15_isOf 1 = .ok (.i2l, 1) := by decide +kernel
theorem dX15_isOf_2 : decode cX15_isOf 2 = .ok (.lconst 0, 1) := by decide +kernel
theorem dX15_isOf_3 : decode cX15_isOf 3 = .ok (.aload_n 0, 1) := by decide +kernel
theorem dX15_isOf_4 : decode cX15_isOf 4 = .ok (.invokeinterface 7 1, 5) := by decide +kernel
theorem dX15_isOf_9 : decode cX15_isOf 9 = .ok (.iconst 1, 1) := by decide +kernel
theorem dX15_isOf_10 : decode cX15_isOf 10 = .ok (.isub, 1) := by decide +kernel
theorem dX15_isOf_11 : decode cX15_isOf 11 = .ok (.i2l, 1) := by decide +kernel
theorem dX15_isOf_12 : decode cX15_isOf 12 = .ok (.invokestatic 13, 3) := by decide +kernel
theorem dX15_isOf_15 : decode cX15_isOf 15 = .ok (.ireturn, 1) := by decide +kernel
theorem dX15_fails_0 : decode cX15_fails 0 = .ok (.aload_n 0, 1) := by decide +kernel
theorem dX15_fails_1 : decode cX15_fails 1 = .ok (.getfield 1, 3) := by decide +kernel
theorem dX15_fails_4 : decode cX15_fails 4 = .ok (.ifCond .ne 12, 3) := by decide +kernel
theorem dX15_fails_7 : decode cX15_fails 7 = .ok (.iload_n 1, 1) := by decide +kernel
theorem dX15_fails_8 : decode cX15_fails 8 = .ok (.ifCond .eq 8, 3) := by decide +kernel
theorem dX15_fails_11 : decode cX15_fails 11 = .ok (.aload_n 0, 1) := by decide +kernel
theorem dX15_fails_12 : decode cX15_fails 12 = .ok (.iload_n 2, 1) := by decide +kernel
theorem dX15_fails_13 : decode cX15_fails 13 = .ok (.putfield 1, 3) := by decide +kernel
theorem dX15_fails_16 : decode cX15_fails 16 = .ok (.aload_n 0, 1) := by decide +kernel
theorem dX15_fails_17 : decode cX15_fails 17 = .ok (.getfield 1, 3) := by decide +kernel
theorem dX15_fails_20 : decode cX15_fails 20 = .ok (.ifCond .le 7, 3) := by decide +kernel
theorem dX15_fails_23 : decode cX15_fails 23 = .ok (.iconst 1, 1) := by decide +kernel
theorem dX15_fails_24 : decode cX15_fails 24 = .ok (.goto 4, 3) := by decide +kernel
theorem dX15_fails_27 : decode cX15_fails 27 = .ok (.iconst 0, 1) := by decide +kernel
theorem dX15_fails_28 : decode cX15_fails 28 = .ok (.ireturn, 1) := by decide +kernel
theorem dX15_noThread_0 : decode cX15_noThread 0 = .ok (.aload_n 0, 1) := by decide +kernel
theorem dX15_noThread_1 : decode cX15_noThread 1 = .ok (.aload_n 0, 1) := by decide +kernel
theorem dX15_noThread_2 : decode cX15_noThread 2 = .ok (.getfield 26, 3) := by decide +kernel
theorem dX15_noThread_5 : decode cX15_noThread 5 = .ok (.getfield 91, 3) := by decide +kernel
theorem dX15_noThread_8 : decode cX15_noThread 8 = .ok (.iload_n 1, 1) := by decide +kernel
theorem dX15_noThread_9 : decode cX15_noThread 9 = .ok (.invokestatic 94, 3) := by decide +kernel
theorem dX15_noThread_12 : decode cX15_noThread 12 = .ok (.ifCond .ne 7, 3) := by decide +kernel
theorem dX15_noThread_15 : decode cX15_noThread 15 = .ok (.iconst 1, 1) := by decide +kernel
theorem dX15_noThread_16 : decode cX15_noThread 16 = .ok (.goto 4, 3) := by decide +kernel
theorem dX15_noThread_19 : decode cX15_noThread 19 = .ok (.iconst 0, 1) := by decide +kernel
theorem dX15_noThread_20 : decode cX15_noThread 20 = .ok (.iconst 1, 1) := by decide +kernel
theorem dX15_noThread_21 : decode cX15_noThread 21 = .ok (.invokevirtual 98, 3) := by decide +kernel
theorem dX15_noThread_24 : decode cX15_noThread 24 = .ok (.ireturn, 1) := by decide +kernel
theorem dX15_noFrame_0 : decode cX15_noFrame 0 = .ok (.aload_n 0, 1) := by decide +kernel
theorem dX15_noFrame_1 : decode cX15_noFrame 1 = .ok (.aload_n 0, 1) := by decide +kernel
theorem dX15_noFrame_2 : decode cX15_noFrame 2 = .ok (.getfield 26, 3) := by decide +kernel
theorem dX15_noFrame_5 : decode cX15_noFrame 5 = .ok (.getfield 91, 3) := by decide +kernel
theorem dX15_noFrame_8 : decode cX15_noFrame 8 = .ok (.iload_n 1, 1) := by decide +kernel
theorem dX15_noFrame_9 : decode cX15_noFrame 9 = .ok (.invokestatic 94, 3) := by decide +kernel
theorem dX15_noFrame_12 : decode cX15_noFrame 12 = .ok (.ifCond .eq 30, 3) := by decide +kernel
theorem dX15_noFrame_15 : decode cX15_noFrame 15 = .ok (.aload_n 0, 1) := by decide +kernel
theorem dX15_noFrame_16 : decode cX15_noFrame 16 = .ok (.aload_n 0, 1) := by decide +kernel
theorem dX15_noFrame_17 : decode cX15_noFrame 17 = .ok (.getfield 26, 3) := by decide +kernel
theorem dX15_noFrame_20 : decode cX15_noFrame 20 = .ok (.getfield 91, 3) := by decide +kernel
theorem dX15_noFrame_23 : decode cX15_noFrame 23 = .ok (.iload_n 1, 1) := by decide +kernel
theorem dX15_noFrame_24 : decode cX15_noFrame 24 = .ok (.invokeinterface 168 2, 5) := by decide +kernel
theorem dX15_noFrame_29 : decode cX15_noFrame 29 = .ok (.checkcast 212, 3) := by decide +kernel
theorem dX15_noFrame_32 : decode cX15_noFrame 32 = .ok (.invokevirtual 293, 3) := by decide +kernel
theorem dX15_noFrame_35 : decode cX15_noFrame 35 = .ok (.iload_n 2, 1) := by decide +kernel
theorem dX15_noFrame_36 : decode cX15_noFrame 36 = .ok (.invokestatic 94, 3) := by decide +kernel
theorem dX15_noFrame_39 : decode cX15_noFrame 39 = .ok (.ifCond .ne 7, 3) := by decide +kernel
theorem dX15_noFrame_42 : decode cX15_noFrame 42 = .ok (.iconst 1, 1) := by decide +kernel
theorem dX15_noFrame_43 : decode cX15_noFrame 43 = .ok (.goto 4, 3) := by decide +kernel
theorem dX15_noFrame_46 : decode cX15_noFrame 46 = .ok (.iconst 0, 1) := by decide +kernel
theorem dX15_noFrame_47 : decode cX15_noFrame 47 = .ok (.iconst 1, 1) := by decide +kernel
theorem dX15_noFrame_48 : decode cX15_noFrame 48 = .ok (.invokevirtual 98, 3) := by decide +kernel
theorem dX15_noFrame_51 : decode cX15_noFrame 51 = .ok (.ireturn, 1) := by decide +kernel
theorem dX15_noBreak_0 : decode cX15_noBreak 0 = .ok (.aload_n 0, 1) := by decide +kernel
theorem dX15_noBreak_1 : decode cX15_noBreak 1 = .ok (.aload_n 0, 1) := by decide +kernel
theorem dX15_noBreak_2 : decode cX15_noBreak 2 = .ok (.getfield 78, 3) := by decide +kernel
theorem dX15_noBreak_5 : decode cX15_noBreak 5 = .ok (.iload_n 1, 1) := by decide +kernel
theorem dX15_noBreak_6 : decode cX15_noBreak 6 = .ok (.invokestatic 94, 3) := by decide +kernel
theorem dX15_noBreak_9 : decode cX15_noBreak 9 = .ok (.ifCond .ne 7, 3) := by decide +kernel
theorem dX15_noBreak_12 : decode cX15_noBreak 12 = .ok (.iconst 1, 1) := by decide +kernel
theorem dX15_noBreak_13 : decode cX15_noBreak 13 = .ok (.goto 4, 3) := by decide +kernel
theorem dX15_noBreak_16 : decode cX15_noBreak 16 = .ok (.iconst 0, 1) := by decide +kernel
theorem dX15_noBreak_17 : decode cX15_noBreak 17 = .ok (.iconst 1, 1) := by decide +kernel
theorem dX15_noBreak_18 : decode cX15_noBreak 18 = .ok (.invokevirtual 98, 3) := by decide +kernel
theorem dX15_noBreak_21 : decode cX15_noBreak 21 = .ok (.ireturn, 1) := by decide +kernel
theorem dX15_isPlace_0 : decode cX15_isPlace 0 = .ok (.aload_n 0, 1) := by decide +kernel
theorem dX15_isPlace_1 : decode cX15_isPlace 1 = .ok (.getfield 37, 3) := by decide +kernel
theorem dX15_isPlace_4 : decode cX15_isPlace 4 = .ok (.iload_n 1, 1) := by decide +kernel
theorem dX15_isPlace_5 : decode cX15_isPlace 5 = .ok (.invokestatic 94, 3) := by decide +kernel
theorem dX15_isPlace_8 : decode cX15_isPlace 8 = .ok (.ireturn, 1) := by decide +kernel
theorem dX15_isLetter_0 : decode cX15_isLetter 0 = .ok (.iload_n 0, 1) := by decide +kernel
theorem dX15_isLetter_1 : decode cX15_isLetter 1 = .ok (.i2l, 1) := by decide +kernel
theorem dX15_isLetter_2 : decode cX15_isLetter 2 = .ok (.ldc2_w 202, 3) := by decide +kernel
theorem dX15_isLetter_5 : decode cX15_isLetter 5 = .ok (.ldc2_w 204, 3) := by decide +kernel
theorem dX15_isLetter_8 : decode cX15_isLetter 8 = .ok (.invokestatic 13, 3) := by decide +kernel
theorem dX15_isLetter_11 : decode cX15_isLetter 11 = .ok (.ireturn, 1) := by decide +kernel
theorem dX15_thrown_0 : decode cX15_thrown 0 = .ok (.aload_n 0, 1) := by decide +kernel
theorem dX15_thrown_1 : decode cX15_thrown 1 = .ok (.getfield 1, 3) := by decide +kernel
theorem dX15_thrown_4 : decode cX15_thrown 4 = .ok (.ireturn, 1) := by decide +kernel
theorem dX15_ends_0 : decode cX15_ends 0 = .ok (.aload_n 0, 1) := by decide +kernel
theorem dX15_ends_1 : decode cX15_ends 1 = .ok (.iload_n 1, 1) := by decide +kernel
theorem dX15_ends_2 : decode cX15_ends 2 = .ok (.putfield 84, 3) := by decide +kernel
theorem dX15_ends_5 : decode cX15_ends 5 = .ok (.aload_n 0, 1) := by decide +kernel
theorem dX15_ends_6 : decode cX15_ends 6 = .ok (.iload_n 2, 1) := by decide +kernel
theorem dX15_ends_7 : decode cX15_ends 7 = .ok (.putfield 88, 3) := by decide +kernel
theorem dX15_ends_10 : decode cX15_ends 10 = .ok (.return_, 1) := by decide +kernel
theorem dX15_next_0 : decode cX15_next 0 = .ok (.aload_n 0, 1) := by decide +kernel
theorem dX15_next_1 : decode cX15_next 1 = .ok (.getfield 26, 3) := by decide +kernel
theorem dX15_next_4 : decode cX15_next 4 = .ok (.getfield 91, 3) := by decide +kernel
theorem dX15_next_7 : decode cX15_next 7 = .ok (.invokeinterface 7 1, 5) := by decide +kernel
theorem dX15_next_12 : decode cX15_next 12 = .ok (.istore_n 1, 1) := by decide +kernel
theorem dX15_next_13 : decode cX15_next 13 = .ok (.iconst 1, 1) := by decide +kernel
theorem dX15_next_14 : decode cX15_next 14 = .ok (.istore_n 2, 1) := by decide +kernel
theorem dX15_next_15 : decode cX15_next 15 = .ok (.iload_n 2, 1) := by decide +kernel
theorem dX15_next_16 : decode cX15_next 16 = .ok (.iload_n 1, 1) := by decide +kernel
theorem dX15_next_17 : decode cX15_next 17 = .ok (.if_icmp .gt 31, 3) := by decide +kernel
theorem dX15_next_20 : decode cX15_next 20 = .ok (.aload_n 0, 1) := by decide +kernel
theorem dX15_next_21 : decode cX15_next 21 = .ok (.getfield 26, 3) := by decide +kernel
theorem dX15_next_24 : decode cX15_next 24 = .ok (.getfield 248, 3) := by decide +kernel
theorem dX15_next_27 : decode cX15_next 27 = .ok (.iload_n 2, 1) := by decide +kernel
theorem dX15_next_28 : decode cX15_next 28 = .ok (.iadd, 1) := by decide +kernel
theorem dX15_next_29 : decode cX15_next 29 = .ok (.iload_n 1, 1) := by decide +kernel
theorem dX15_next_30 : decode cX15_next 30 = .ok (.irem, 1) := by decide +kernel
theorem dX15_next_31 : decode cX15_next 31 = .ok (.istore_n 3, 1) := by decide +kernel
theorem dX15_next_32 : decode cX15_next 32 = .ok (.aload_n 0, 1) := by decide +kernel
theorem dX15_next_33 : decode cX15_next 33 = .ok (.iload_n 3, 1) := by decide +kernel
theorem dX15_next_34 : decode cX15_next 34 = .ok (.invokevirtual 270, 3) := by decide +kernel
theorem dX15_next_37 : decode cX15_next 37 = .ok (.ifCond .eq 5, 3) := by decide +kernel
theorem dX15_next_40 : decode cX15_next 40 = .ok (.iload_n 3, 1) := by decide +kernel
theorem dX15_next_41 : decode cX15_next 41 = .ok (.ireturn, 1) := by decide +kernel
theorem dX15_next_42 : decode cX15_next 42 = .ok (.iinc 2 1, 3) := by decide +kernel
theorem dX15_next_45 : decode cX15_next 45 = .ok (.goto (-30), 3) := by decide +kernel
theorem dX15_next_48 : decode cX15_next 48 = .ok (.iconst (-1), 1) := by decide +kernel
theorem dX15_next_49 : decode cX15_next 49 = .ok (.ireturn, 1) := by decide +kernel
