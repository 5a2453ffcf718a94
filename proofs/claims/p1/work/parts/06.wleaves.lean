theorem PN_RX11 : plainName RX11 = true := by decide +kernel
theorem K171 : (Cond.fieldLink RX3 54 "Unwindlens$Program" "count" "I") ∈ ALL := mAC ch_t1 (i := 95) (by decide +kernel) rfl
theorem HD_yX11_isBelow : yX11_isBelow.cls ≠ "java/lang/invoke/MethodHandle" ∧ yX11_isBelow.cls ≠ "java/lang/invoke/VarHandle" ∧ (parseMethodDescriptor yX11_isBelow.desc).map (fun d => d.parameters.length) = some 2 := by decide +kernel
theorem K588 : (Cond.code yX11_isBelow cX11_isBelow 2 (some .boolean)) ∈ ALL := mAC ch_t3 (i := 32) (by decide +kernel) rfl
theorem GI_K588 : GoodIn ALL (Cond.code yX11_isBelow cX11_isBelow 2 (some .boolean) :: ALL) := gI K588
theorem K638 : (Cond.methodLinkNest RX3 46 yX11_isBelow RX11) ∈ NGS := mNC ch_t3 (i := 82) (by decide +kernel) rfl
theorem K77 : (Cond.initialized RX11) ∈ ALL := mAC ch_t1 (i := 1) (by decide +kernel) rfl
theorem K587 : (Cond.static yX11_isBelow) ∈ ALL := mAC ch_t3 (i := 31) (by decide +kernel) rfl
theorem PN_RX3 : plainName RX3 = true := by decide +kernel
theorem K148 : (Cond.fieldLink RX4 24 "Unwindlens$Rows" "count" "I") ∈ ALL := mAC ch_t1 (i := 72) (by decide +kernel) rfl
theorem K651 : (Cond.methodLinkNest RX4 32 yX11_isBelow RX11) ∈ NGS := mNC ch_t3 (i := 95) (by decide +kernel) rfl
theorem PN_RX4 : plainName RX4 = true := by decide +kernel
theorem K214 : (Cond.fieldLink RX2 54 "Unwindlens$Names" "count" "I") ∈ ALL := mAC ch_t1 (i := 138) (by decide +kernel) rfl
theorem K1106 : (Cond.methodLinkNest RX2 50 yX11_isBelow RX11) ∈ NGS := mNC ch_t5 (i := 70) (by decide +kernel) rfl
theorem PN_RX2 : plainName RX2 = true := by decide +kernel
theorem K318 : (Cond.fieldLink RX0 61 "Unwindlens$Breakpoints" "count" "I") ∈ ALL := mAC ch_t2 (i := 2) (by decide +kernel) rfl
theorem K1726 : (Cond.methodLinkNest RX0 65 yX11_isBelow RX11) ∈ NGS := mNC ch_t7 (i := 210) (by decide +kernel) rfl
theorem PN_RX0 : plainName RX0 = true := by decide +kernel
theorem K521 : (Cond.fieldLink RX11 10 "Unwindlens" "program" "LUnwindlens$Program;") ∈ ALL := mAC ch_t2 (i := 205) (by decide +kernel) rfl
theorem HD_yX3_hasPlace : yX3_hasPlace.cls ≠ "java/lang/invoke/MethodHandle" ∧ yX3_hasPlace.cls ≠ "java/lang/invoke/VarHandle" ∧ (parseMethodDescriptor yX3_hasPlace.desc).map (fun d => d.parameters.length) = some 1 := by decide +kernel
theorem K637 : (Cond.code yX3_hasPlace cX3_hasPlace 2 (some .boolean)) ∈ ALL := mAC ch_t3 (i := 81) (by decide +kernel) rfl
theorem K889 : (Cond.methodLink RX11 534 yX3_hasPlace) ∈ ALL := mAC ch_t4 (i := 93) (by decide +kernel) rfl
theorem K635 : (Cond.instanceMethod yX3_hasPlace) ∈ ALL := mAC ch_t3 (i := 79) (by decide +kernel) rfl
theorem K636 : (Cond.selects RX3 yX3_hasPlace yX3_hasPlace) ∈ ALL := mAC ch_t3 (i := 80) (by decide +kernel) rfl
theorem K78 : (Cond.initialized RX3) ∈ ALL := mAC ch_t1 (i := 2) (by decide +kernel) rfl
theorem GV_RX11_534 : GoodIn ALL (wsV RX11 534 RX3 yX3_hasPlace (Cond.code yX3_hasPlace cX3_hasPlace 2 (some .boolean) :: ALL)) := gV K889 K635 K636 K78 K637
theorem K890 : (Cond.classLink RX11 223 "java/lang/IndexOutOfBoundsException") ∈ ALL := mAC ch_t4 (i := 94) (by decide +kernel) rfl
theorem K110 : (Cond.initialized "java/lang/IndexOutOfBoundsException") ∈ ALL := mAC ch_t1 (i := 34) (by decide +kernel) rfl
theorem K160 : (Cond.fieldLinkNest RX11 140 "Unwindlens$Program" "functions" "LUnwindlens$Rows;" RX11) ∈ NGS := mNC ch_t1 (i := 84) (by decide +kernel) rfl
theorem HD_yX4_isRow : yX4_isRow.cls ≠ "java/lang/invoke/MethodHandle" ∧ yX4_isRow.cls ≠ "java/lang/invoke/VarHandle" ∧ (parseMethodDescriptor yX4_isRow.desc).map (fun d => d.parameters.length) = some 1 := by decide +kernel
theorem K650 : (Cond.code yX4_isRow cX4_isRow 2 (some .boolean)) ∈ ALL := mAC ch_t3 (i := 94) (by decide +kernel) rfl
theorem K1037 : (Cond.methodLink RX11 219 yX4_isRow) ∈ ALL := mAC ch_t5 (i := 1) (by decide +kernel) rfl
theorem K648 : (Cond.instanceMethod yX4_isRow) ∈ ALL := mAC ch_t3 (i := 92) (by decide +kernel) rfl
theorem K649 : (Cond.selects RX4 yX4_isRow yX4_isRow) ∈ ALL := mAC ch_t3 (i := 93) (by decide +kernel) rfl
theorem K79 : (Cond.initialized RX4) ∈ ALL := mAC ch_t1 (i := 3) (by decide +kernel) rfl
theorem GV_RX11_219 : GoodIn ALL (wsV RX11 219 RX4 yX4_isRow (Cond.code yX4_isRow cX4_isRow 2 (some .boolean) :: ALL)) := gV K1037 K648 K649 K79 K650
theorem K525 : (Cond.fieldLink RX11 44 "Unwindlens" "now" "LUnwindlens$Target;") ∈ ALL := mAC ch_t2 (i := 209) (by decide +kernel) rfl
theorem K423 : (Cond.fieldLinkNest RX11 499 "Unwindlens$Target" "count" "I" RX11) ∈ NGS := mNC ch_t2 (i := 107) (by decide +kernel) rfl
theorem K1003 : (Cond.methodLink RX11 168 yX11_isBelow) ∈ ALL := mAC ch_t4 (i := 207) (by decide +kernel) rfl
theorem GS_RX11_168 : GoodIn ALL (va_wsS RX11 168 yX11_isBelow (Cond.code yX11_isBelow cX11_isBelow 2 (some .boolean) :: ALL)) := gS K1003 K587 K77 K588
theorem K523 : (Cond.fieldLink RX11 30 "Unwindlens" "breakpoints" "LUnwindlens$Breakpoints;") ∈ ALL := mAC ch_t2 (i := 207) (by decide +kernel) rfl
theorem HD_yX0_isBreakpoint : yX0_isBreakpoint.cls ≠ "java/lang/invoke/MethodHandle" ∧ yX0_isBreakpoint.cls ≠ "java/lang/invoke/VarHandle" ∧ (parseMethodDescriptor yX0_isBreakpoint.desc).map (fun d => d.parameters.length) = some 1 := by decide +kernel
theorem K1725 : (Cond.code yX0_isBreakpoint cX0_isBreakpoint 2 (some .boolean)) ∈ ALL := mAC ch_t7 (i := 209) (by decide +kernel) rfl
theorem K1722 : (Cond.methodLink RX11 543 yX0_isBreakpoint) ∈ ALL := mAC ch_t7 (i := 206) (by decide +kernel) rfl
theorem K1723 : (Cond.instanceMethod yX0_isBreakpoint) ∈ ALL := mAC ch_t7 (i := 207) (by decide +kernel) rfl
theorem K1724 : (Cond.selects RX0 yX0_isBreakpoint yX0_isBreakpoint) ∈ ALL := mAC ch_t7 (i := 208) (by decide +kernel) rfl
theorem K82 : (Cond.initialized RX0) ∈ ALL := mAC ch_t1 (i := 6) (by decide +kernel) rfl
theorem GV_RX11_543 : GoodIn ALL (wsV RX11 543 RX0 yX0_isBreakpoint (Cond.code yX0_isBreakpoint cX0_isBreakpoint 2 (some .boolean) :: ALL)) := gV K1722 K1723 K1724 K82 K1725
theorem HD_yX11_needThread : yX11_needThread.cls ≠ "java/lang/invoke/MethodHandle" ∧ yX11_needThread.cls ≠ "java/lang/invoke/VarHandle" ∧ (parseMethodDescriptor yX11_needThread.desc).map (fun d => d.parameters.length) = some 1 := by decide +kernel
theorem K1145 : (Cond.code yX11_needThread cX11_needThread 2 none) ∈ ALL := mAC ch_t5 (i := 109) (by decide +kernel) rfl
theorem K1142 : (Cond.methodLink RX11 272 yX11_needThread) ∈ ALL := mAC ch_t5 (i := 106) (by decide +kernel) rfl
theorem K1144 : (Cond.instanceMethod yX11_needThread) ∈ ALL := mAC ch_t5 (i := 108) (by decide +kernel) rfl
theorem K9 : (Cond.selects RX11 yX11_needThread yX11_needThread) ∈ ALL := mAC ch_sel (i := 9) (by decide +kernel) rfl
theorem GV_RX11_272 : GoodIn ALL (wsV RX11 272 RX11 yX11_needThread (Cond.code yX11_needThread cX11_needThread 2 none :: ALL)) := gV K1142 K1144 K9 K77 K1145
theorem HD_yX11_needFrame : yX11_needFrame.cls ≠ "java/lang/invoke/MethodHandle" ∧ yX11_needFrame.cls ≠ "java/lang/invoke/VarHandle" ∧ (parseMethodDescriptor yX11_needFrame.desc).map (fun d => d.parameters.length) = some 2 := by decide +kernel
theorem K1238 : (Cond.code yX11_needFrame cX11_needFrame 3 none) ∈ ALL := mAC ch_t5 (i := 202) (by decide +kernel) rfl
theorem K1235 : (Cond.methodLink RX11 317 yX11_needFrame) ∈ ALL := mAC ch_t5 (i := 199) (by decide +kernel) rfl
theorem K1237 : (Cond.instanceMethod yX11_needFrame) ∈ ALL := mAC ch_t5 (i := 201) (by decide +kernel) rfl
theorem K12 : (Cond.selects RX11 yX11_needFrame yX11_needFrame) ∈ ALL := mAC ch_sel (i := 12) (by decide +kernel) rfl
theorem GV_RX11_317 : GoodIn ALL (wsV RX11 317 RX11 yX11_needFrame (Cond.code yX11_needFrame cX11_needFrame 3 none :: ALL)) := gV K1235 K1237 K12 K77 K1238
theorem dX11_isBelow_0 : decode cX11_isBelow 0 = .ok (.iload_n 0, 1) := by decide +kernel
theorem dX11_isBelow_1 : decode cX11_isBelow 1 = .ok (.ifCond .lt 12, 3) := by decide +kernel
theorem dX11_isBelow_4 : decode cX11_isBelow 4 = .ok (.iload_n 0, 1) := by decide +kernel
theorem dX11_isBelow_5 : decode cX11_isBelow 5 = .ok (.iload_n 1, 1) := by decide +kernel
theorem dX11_isBelow_6 : decode cX11_isBelow 6 = .ok (.if_icmp .ge 7, 3) := by decide +kernel
theorem dX11_isBelow_9 : decode cX11_isBelow 9 = .ok (.iconst 1, 1) := by decide +kernel
theorem dX11_isBelow_10 : decode cX11_isBelow 10 = .ok (.goto 4, 3) := by decide +kernel
theorem dX11_isBelow_13 : decode cX11_isBelow 13 = .ok (.iconst 0, 1) := by decide +kernel
theorem dX11_isBelow_14 : decode cX11_isBelow 14 = .ok (.ireturn, 1) := by decide +kernel
theorem dX3_hasPlace_0 : decode cX3_hasPlace 0 = .ok (.iload_n 1, 1) := by decide +kernel
theorem dX3_hasPlace_1 : decode cX3_hasPlace 1 = .ok (.aload_n 0, 1) := by decide +kernel
theorem dX3_hasPlace_2 : decode cX3_hasPlace 2 = .ok (.getfield 54, 3) := by decide +kernel
theorem dX3_hasPlace_5 : decode cX3_hasPlace 5 = .ok (.invokestatic 46, 3) := by decide +kernel
theorem dX3_hasPlace_8 : decode cX3_hasPlace 8 = .ok (.ireturn, 1) := by decide +kernel
theorem dX4_isRow_0 : decode cX4_isRow 0 = .ok (.iload_n 1, 1) := by decide +kernel
theorem dX4_isRow_1 : decode cX4_isRow 1 = .ok (.aload_n 0, 1) := by decide +kernel
theorem dX4_isRow_2 : decode cX4_isRow 2 = .ok (.getfield 24, 3) := by decide +kernel
theorem dX4_isRow_5 : decode cX4_isRow 5 = .ok (.invokestatic 32, 3) := by decide +kernel
theorem dX4_isRow_8 : decode cX4_isRow 8 = .ok (.ireturn, 1) := by decide +kernel
theorem dX2_isVariable_0 : decode cX2_isVariable 0 = .ok (.iload_n 1, 1) := by decide +kernel
theorem dX2_isVariable_1 : decode cX2_isVariable 1 = .ok (.aload_n 0, 1) := by decide +kernel
theorem dX2_isVariable_2 : decode cX2_isVariable 2 = .ok (.getfield 54, 3) := by decide +kernel
theorem dX2_isVariable_5 : decode cX2_isVariable 5 = .ok (.invokestatic 50, 3) := by decide +kernel
theorem dX2_isVariable_8 : decode cX2_isVariable 8 = .ok (.ireturn, 1) := by decide +kernel
theorem dX0_isBreakpoint_0 : decode cX0_isBreakpoint 0 = .ok (.iload_n 1, 1) := by decide +kernel
theorem dX0_isBreakpoint_1 : decode cX0_isBreakpoint 1 = .ok (.aload_n 0, 1) := by decide +kernel
theorem dX0_isBreakpoint_2 : decode cX0_isBreakpoint 2 = .ok (.getfield 61, 3) := by decide +kernel
theorem dX0_isBreakpoint_5 : decode cX0_isBreakpoint 5 = .ok (.invokestatic 65, 3) := by decide +kernel
theorem dX0_isBreakpoint_8 : decode cX0_isBreakpoint 8 = .ok (.ireturn, 1) := by decide +kernel
theorem dX11_needPlace_0 : decode cX11_needPlace 0 = .ok (.aload_n 0, 1) := by decide +kernel
theorem dX11_needPlace_1 : decode cX11_needPlace 1 = .ok (.getfield 10, 3) := by decide +kernel
theorem dX11_needPlace_4 : decode cX11_needPlace 4 = .ok (.iload_n 1, 1) := by decide +kernel
theorem dX11_needPlace_5 : decode cX11_needPlace 5 = .ok (.invokevirtual 534, 3) := by decide +kernel
theorem dX11_needPlace_8 : decode cX11_needPlace 8 = .ok (.ifCond .ne 14, 3) := by decide +kernel
theorem dX11_needPlace_11 : decode cX11_needPlace 11 = .ok (.new 223, 3) := by decide +kernel
theorem dX11_needPlace_14 : decode cX11_needPlace 14 = .ok (.dup, 1) := by decide +kernel
theorem dX11_needPlace_15 : decode cX11_needPlace 15 = .ok (.ldc_w 537, 3) := by decide +kernel
theorem dX11_needPlace_18 : decode cX11_needPlace 18 = .ok (.invokespecial 227, 3) := by decide +kernel
theorem dX11_needPlace_21 : decode cX11_needPlace 21 = .ok (.athrow, 1) := by decide +kernel
theorem dX11_needPlace_22 : decode cX11_needPlace 22 = .ok (.return_, 1) := by decide +kernel
theorem dX11_needFunction_0 : decode cX11_needFunction 0 = .ok (.aload_n 0, 1) := by decide +kernel
theorem dX11_needFunction_1 : decode cX11_needFunction 1 = .ok (.getfield 10, 3) := by decide +kernel
theorem dX11_needFunction_4 : decode cX11_needFunction 4 = .ok (.getfield 140, 3) := by decide +kernel
theorem dX11_needFunction_7 : decode cX11_needFunction 7 = .ok (.iload_n 1, 1) := by decide +kernel
theorem dX11_needFunction_8 : decode cX11_needFunction 8 = .ok (.invokevirtual 219, 3) := by decide +kernel
theorem dX11_needFunction_11 : decode cX11_needFunction 11 = .ok (.ifCond .ne 14, 3) := by decide +kernel
theorem dX11_needFunction_14 : decode cX11_needFunction 14 = .ok (.new 223, 3) := by decide +kernel
theorem dX11_needFunction_17 : decode cX11_needFunction 17 = .ok (.dup, 1) := by decide +kernel
theorem dX11_needFunction_18 : decode cX11_needFunction 18 = .ok (.ldc_w 539, 3) := by decide +kernel
theorem dX11_needFunction_21 : decode cX11_needFunction 21 = .ok (.invokespecial 227, 3) := by decide +kernel
theorem dX11_needFunction_24 : decode cX11_needFunction 24 = .ok (.athrow, 1) := by decide +kernel
theorem dX11_needFunction_25 : decode cX11_needFunction 25 = .ok (.return_, 1) := by decide +kernel
theorem dX11_needThread_0 : decode cX11_needThread 0 = .ok (.iload_n 1, 1) := by decide +kernel
theorem dX11_needThread_1 : decode cX11_needThread 1 = .ok (.aload_n 0, 1) := by decide +kernel
theorem dX11_needThread_2 : decode cX11_needThread 2 = .ok (.getfield 44, 3) := by decide +kernel
theorem dX11_needThread_5 : decode cX11_needThread 5 = .ok (.getfield 499, 3) := by decide +kernel
theorem dX11_needThread_8 : decode cX11_needThread 8 = .ok (.invokestatic 168, 3) := by decide +kernel
theorem dX11_needThread_11 : decode cX11_needThread 11 = .ok (.ifCond .ne 14, 3) := by decide +kernel
theorem dX11_needThread_14 : decode cX11_needThread 14 = .ok (.new 223, 3) := by decide +kernel
theorem dX11_needThread_17 : decode cX11_needThread 17 = .ok (.dup, 1) := by decide +kernel
theorem dX11_needThread_18 : decode cX11_needThread 18 = .ok (.ldc_w 541, 3) := by decide +kernel
theorem dX11_needThread_21 : decode cX11_needThread 21 = .ok (.invokespecial 227, 3) := by decide +kernel
theorem dX11_needThread_24 : decode cX11_needThread 24 = .ok (.athrow, 1) := by decide +kernel
theorem dX11_needThread_25 : decode cX11_needThread 25 = .ok (.return_, 1) := by decide +kernel
theorem dX11_needBreakpoint_0 : decode cX11_needBreakpoint 0 = .ok (.aload_n 0, 1) := by decide +kernel
theorem dX11_needBreakpoint_1 : decode cX11_needBreakpoint 1 = .ok (.getfield 30, 3) := by decide +kernel
theorem dX11_needBreakpoint_4 : decode cX11_needBreakpoint 4 = .ok (.iload_n 1, 1) := by decide +kernel
theorem dX11_needBreakpoint_5 : decode cX11_needBreakpoint 5 = .ok (.invokevirtual 543, 3) := by decide +kernel
theorem dX11_needBreakpoint_8 : decode cX11_needBreakpoint 8 = .ok (.ifCond .ne 14, 3) := by decide +kernel
theorem dX11_needBreakpoint_11 : decode cX11_needBreakpoint 11 = .ok (.new 223, 3) := by decide +kernel
theorem dX11_needBreakpoint_14 : decode cX11_needBreakpoint 14 = .ok (.dup, 1) := by decide +kernel
theorem dX11_needBreakpoint_15 : decode cX11_needBreakpoint 15 = .ok (.ldc_w 546, 3) := by decide +kernel
theorem dX11_needBreakpoint_18 : decode cX11_needBreakpoint 18 = .ok (.invokespecial 227, 3) := by decide +kernel
theorem dX11_needBreakpoint_21 : decode cX11_needBreakpoint 21 = .ok (.athrow, 1) := by decide +kernel
theorem dX11_needBreakpoint_22 : decode cX11_needBreakpoint 22 = .ok (.return_, 1) := by decide +kernel
theorem dX11_needFrame_0 : decode cX11_needFrame 0 = .ok (.aload_n 0, 1) := by decide +kernel
theorem dX11_needFrame_1 : decode cX11_needFrame 1 = .ok (.iload_n 1, 1) := by decide +kernel
theorem dX11_needFrame_2 : decode cX11_needFrame 2 = .ok (.invokevirtual 272, 3) := by decide +kernel
theorem dX11_needFrame_5 : decode cX11_needFrame 5 = .ok (.aload_n 0, 1) := by decide +kernel
theorem dX11_needFrame_6 : decode cX11_needFrame 6 = .ok (.getfield 65, 3) := by decide +kernel
theorem dX11_needFrame_9 : decode cX11_needFrame 9 = .ok (.aload_n 0, 1) := by decide +kernel
theorem dX11_needFrame_10 : decode cX11_needFrame 10 = .ok (.getfield 44, 3) := by decide +kernel
theorem dX11_needFrame_13 : decode cX11_needFrame 13 = .ok (.iload_n 1, 1) := by decide +kernel
theorem dX11_needFrame_14 : decode cX11_needFrame 14 = .ok (.invokevirtual 275, 3) := by decide +kernel
theorem dX11_needFrame_17 : decode cX11_needFrame 17 = .ok (.invokevirtual 309, 3) := by decide +kernel
theorem dX11_needFrame_20 : decode cX11_needFrame 20 = .ok (.aload_n 0, 1) := by decide +kernel
theorem dX11_needFrame_21 : decode cX11_needFrame 21 = .ok (.getfield 65, 3) := by decide +kernel
theorem dX11_needFrame_24 : decode cX11_needFrame 24 = .ok (.iload_n 2, 1) := by decide +kernel
theorem dX11_needFrame_25 : decode cX11_needFrame 25 = .ok (.aload_n 0, 1) := by decide +kernel
theorem dX11_needFrame_26 : decode cX11_needFrame 26 = .ok (.getfield 72, 3) := by decide +kernel
theorem dX11_needFrame_29 : decode cX11_needFrame 29 = .ok (.invokevirtual 554, 3) := by decide +kernel
theorem dX11_needFrame_32 : decode cX11_needFrame 32 = .ok (.ifCond .ne 14, 3) := by decide +kernel
theorem dX11_needFrame_35 : decode cX11_needFrame 35 = .ok (.new 223, 3) := by decide +kernel
theorem dX11_needFrame_38 : decode cX11_needFrame 38 = .ok (.dup, 1) := by decide +kernel
theorem dX11_needFrame_39 : decode cX11_needFrame 39 = .ok (.ldc_w 558, 3) := by decide +kernel
theorem dX11_needFrame_42 : decode cX11_needFrame 42 = .ok (.invokespecial 227, 3) := by decide +kernel
theorem dX11_needFrame_45 : decode cX11_needFrame 45 = .ok (.athrow, 1) := by decide +kernel
theorem dX11_needFrame_46 : decode cX11_needFrame 46 = .ok (.aload_n 0, 1) := by decide +kernel
theorem dX11_needFrame_47 : decode cX11_needFrame 47 = .ok (.getfield 72, 3) := by decide +kernel
theorem dX11_needFrame_50 : decode cX11_needFrame 50 = .ok (.iload_n 1, 1) := by decide +kernel
theorem dX11_needFrame_51 : decode cX11_needFrame 51 = .ok (.putfield 560, 3) := by decide +kernel
theorem dX11_needFrame_54 : decode cX11_needFrame 54 = .ok (.return_, 1) := by decide +kernel
theorem dX11_needWord_0 : decode cX11_needWord 0 = .ok (.aload_n 0, 1) := by decide +kernel
theorem dX11_needWord_1 : decode cX11_needWord 1 = .ok (.iload_n 1, 1) := by decide +kernel
theorem dX11_needWord_2 : decode cX11_needWord 2 = .ok (.iload_n 2, 1) := by decide +kernel
theorem dX11_needWord_3 : decode cX11_needWord 3 = .ok (.invokevirtual 317, 3) := by decide +kernel
theorem dX11_needWord_6 : decode cX11_needWord 6 = .ok (.iload_n 3, 1) := by decide +kernel
theorem dX11_needWord_7 : decode cX11_needWord 7 = .ok (.invokestatic 228, 3) := by decide +kernel
theorem dX11_needWord_10 : decode cX11_needWord 10 = .ok (.aload_n 0, 1) := by decide +kernel
theorem dX11_needWord_11 : decode cX11_needWord 11 = .ok (.iload_n 3, 1) := by decide +kernel
theorem dX11_needWord_12 : decode cX11_needWord 12 = .ok (.invokevirtual 340, 3) := by decide +kernel
theorem dX11_needWord_15 : decode cX11_needWord 15 = .ok (.istore 5, 2) := by decide +kernel
theorem dX11_needWord_17 : decode cX11_needWord 17 = .ok (.iload 5, 2) := by decide +kernel
theorem dX11_needWord_19 : decode cX11_needWord 19 = .ok (.iconst (-1), 1) := by decide +kernel
theorem dX11_needWord_20 : decode cX11_needWord 20 = .ok (.if_icmp .eq 31, 3) := by decide +kernel
theorem dX11_needWord_23 : decode cX11_needWord 23 = .ok (.iload 4, 2) := by decide +kernel
theorem dX11_needWord_25 : decode cX11_needWord 25 = .ok (.aload_n 0, 1) := by decide +kernel
theorem dX11_needWord_26 : decode cX11_needWord 26 = .ok (.getfield 21, 3) := by decide +kernel
theorem dX11_needWord_29 : decode cX11_needWord 29 = .ok (.iload 5, 2) := by decide +kernel
theorem dX11_needWord_31 : decode cX11_needWord 31 = .ok (.invokevirtual 563, 3) := by decide +kernel
theorem dX11_needWord_34 : decode cX11_needWord 34 = .ok (.invokestatic 168, 3) := by decide +kernel
theorem dX11_needWord_37 : decode cX11_needWord 37 = .ok (.ifCond .ne 14, 3) := by decide +kernel
theorem dX11_needWord_40 : decode cX11_needWord 40 = .ok (.new 223, 3) := by decide +kernel
theorem dX11_needWord_43 : decode cX11_needWord 43 = .ok (.dup, 1) := by decide +kernel
theorem dX11_needWord_44 : decode cX11_needWord 44 = .ok (.ldc_w 566, 3) := by decide +kernel
theorem dX11_needWord_47 : decode cX11_needWord 47 = .ok (.invokespecial 227, 3) := by decide +kernel
theorem dX11_needWord_50 : decode cX11_needWord 50 = .ok (.athrow, 1) := by decide +kernel
theorem dX11_needWord_51 : decode cX11_needWord 51 = .ok (.iload 5, 2) := by decide +kernel
theorem dX11_needWord_53 : decode cX11_needWord 53 = .ok (.invokestatic 355, 3) := by decide +kernel
theorem dX11_needWord_56 : decode cX11_needWord 56 = .ok (.aload_n 0, 1) := by decide +kernel
theorem dX11_needWord_57 : decode cX11_needWord 57 = .ok (.getfield 79, 3) := by decide +kernel
theorem dX11_needWord_60 : decode cX11_needWord 60 = .ok (.invokevirtual 344, 3) := by decide +kernel
theorem dX11_needWord_63 : decode cX11_needWord 63 = .ok (.ifCond .eq 14, 3) := by decide +kernel
theorem dX11_needWord_66 : decode cX11_needWord 66 = .ok (.new 287, 3) := by decide +kernel
theorem dX11_needWord_69 : decode cX11_needWord 69 = .ok (.dup, 1) := by decide +kernel
theorem dX11_needWord_70 : decode cX11_needWord 70 = .ok (.ldc_w 568, 3) := by decide +kernel
theorem dX11_needWord_73 : decode cX11_needWord 73 = .ok (.invokespecial 291, 3) := by decide +kernel
theorem dX11_needWord_76 : decode cX11_needWord 76 = .ok (.athrow, 1) := by decide +kernel
theorem dX11_needWord_77 : decode cX11_needWord 77 = .ok (.return_, 1) := by decide +kernel
