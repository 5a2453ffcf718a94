theorem K427 : (Cond.fieldLinkNest RX11 306 "Unwindlens$Target" "time" "I" RX11) ∈ NGS := mNC ch_t2 (i := 111) (by decide +kernel) rfl
theorem K580 : (Cond.constantLong RX6 89 7) ∈ ALL := mAC ch_t3 (i := 24) (by decide +kernel) rfl
theorem K581 : (Cond.constantLong RX6 91 31) ∈ ALL := mAC ch_t3 (i := 25) (by decide +kernel) rfl
theorem K422 : (Cond.fieldLink RX6 36 "Unwindlens$Target" "count" "I") ∈ ALL := mAC ch_t2 (i := 106) (by decide +kernel) rfl
theorem HD_yX6_sum : yX6_sum.cls ≠ "java/lang/invoke/MethodHandle" ∧ yX6_sum.cls ≠ "java/lang/invoke/VarHandle" ∧ (parseMethodDescriptor yX6_sum.desc).map (fun d => d.parameters.length) = some 0 := by decide +kernel
theorem K579 : (Cond.code yX6_sum cX6_sum 4 (some .long)) ∈ ALL := mAC ch_t3 (i := 23) (by decide +kernel) rfl
theorem K576 : (Cond.methodLink RX11 511 yX6_sum) ∈ ALL := mAC ch_t3 (i := 20) (by decide +kernel) rfl
theorem K577 : (Cond.instanceMethod yX6_sum) ∈ ALL := mAC ch_t3 (i := 21) (by decide +kernel) rfl
theorem K578 : (Cond.selects RX6 yX6_sum yX6_sum) ∈ ALL := mAC ch_t3 (i := 22) (by decide +kernel) rfl
theorem GV_RX11_511 : GoodIn ALL (wsV RX11 511 RX6 yX6_sum (Cond.code yX6_sum cX6_sum 4 (some .long) :: ALL)) := gV K576 K577 K578 K86 K579
theorem K620 : (Cond.methodLink RX7 25 arraycopyName) ∈ ALL := mAC ch_t3 (i := 64) (by decide +kernel) rfl
theorem K615 : (Cond.native arraycopyName) ∈ ALL := mAC ch_t3 (i := 59) (by decide +kernel) rfl
theorem K614 : (Cond.static arraycopyName) ∈ ALL := mAC ch_t3 (i := 58) (by decide +kernel) rfl
theorem K104 : (Cond.initialized RJ10) ∈ ALL := mAC ch_t1 (i := 28) (by decide +kernel) rfl
theorem K386 : (Cond.fieldLink RX7 31 "Unwindlens$Task" "size" "I") ∈ ALL := mAC ch_t2 (i := 70) (by decide +kernel) rfl
theorem K392 : (Cond.fieldLink RX7 35 "Unwindlens$Task" "base" "I") ∈ ALL := mAC ch_t2 (i := 76) (by decide +kernel) rfl
theorem K396 : (Cond.fieldLink RX7 38 "Unwindlens$Task" "place" "I") ∈ ALL := mAC ch_t2 (i := 80) (by decide +kernel) rfl
theorem K613 : (Cond.methodLink RX6 26 arraycopyName) ∈ ALL := mAC ch_t3 (i := 57) (by decide +kernel) rfl
theorem HD_yX7_copyFrom : yX7_copyFrom.cls ≠ "java/lang/invoke/MethodHandle" ∧ yX7_copyFrom.cls ≠ "java/lang/invoke/VarHandle" ∧ (parseMethodDescriptor yX7_copyFrom.desc).map (fun d => d.parameters.length) = some 1 := by decide +kernel
theorem K619 : (Cond.code yX7_copyFrom cX7_copyFrom 2 none) ∈ ALL := mAC ch_t3 (i := 63) (by decide +kernel) rfl
theorem K616 : (Cond.methodLink RX6 32 yX7_copyFrom) ∈ ALL := mAC ch_t3 (i := 60) (by decide +kernel) rfl
theorem K617 : (Cond.instanceMethod yX7_copyFrom) ∈ ALL := mAC ch_t3 (i := 61) (by decide +kernel) rfl
theorem K618 : (Cond.selects RX7 yX7_copyFrom yX7_copyFrom) ∈ ALL := mAC ch_t3 (i := 62) (by decide +kernel) rfl
theorem GV_RX6_32 : GoodIn ALL (wsV RX6 32 RX7 yX7_copyFrom (Cond.code yX7_copyFrom cX7_copyFrom 2 none :: ALL)) := gV K616 K617 K618 K87 K619
theorem K426 : (Cond.fieldLink RX6 39 "Unwindlens$Target" "time" "I") ∈ ALL := mAC ch_t2 (i := 110) (by decide +kernel) rfl
theorem HD_yX6_copyFrom : yX6_copyFrom.cls ≠ "java/lang/invoke/MethodHandle" ∧ yX6_copyFrom.cls ≠ "java/lang/invoke/VarHandle" ∧ (parseMethodDescriptor yX6_copyFrom.desc).map (fun d => d.parameters.length) = some 1 := by decide +kernel
theorem K612 : (Cond.code yX6_copyFrom cX6_copyFrom 3 none) ∈ ALL := mAC ch_t3 (i := 56) (by decide +kernel) rfl
theorem K609 : (Cond.methodLink RX1 26 yX6_copyFrom) ∈ ALL := mAC ch_t3 (i := 53) (by decide +kernel) rfl
theorem K610 : (Cond.instanceMethod yX6_copyFrom) ∈ ALL := mAC ch_t3 (i := 54) (by decide +kernel) rfl
theorem K611 : (Cond.selects RX6 yX6_copyFrom yX6_copyFrom) ∈ ALL := mAC ch_t3 (i := 55) (by decide +kernel) rfl
theorem GV_RX1_26 : GoodIn ALL (wsV RX1 26 RX6 yX6_copyFrom (Cond.code yX6_copyFrom cX6_copyFrom 3 none :: ALL)) := gV K609 K610 K611 K86 K612
theorem K450 : (Cond.fieldLink RX1 30 "Unwindlens$History" "count" "I") ∈ ALL := mAC ch_t2 (i := 134) (by decide +kernel) rfl
theorem K451 : (Cond.fieldLinkNest RX11 466 "Unwindlens$History" "count" "I" RX11) ∈ NGS := mNC ch_t2 (i := 135) (by decide +kernel) rfl
theorem HD_yX1_replay : yX1_replay.cls ≠ "java/lang/invoke/MethodHandle" ∧ yX1_replay.cls ≠ "java/lang/invoke/VarHandle" ∧ (parseMethodDescriptor yX1_replay.desc).map (fun d => d.parameters.length) = some 2 := by decide +kernel
theorem K608 : (Cond.code yX1_replay cX1_replay 4 none) ∈ ALL := mAC ch_t3 (i := 52) (by decide +kernel) rfl
theorem K605 : (Cond.methodLink RX11 515 yX1_replay) ∈ ALL := mAC ch_t3 (i := 49) (by decide +kernel) rfl
theorem K606 : (Cond.instanceMethod yX1_replay) ∈ ALL := mAC ch_t3 (i := 50) (by decide +kernel) rfl
theorem K607 : (Cond.selects RX1 yX1_replay yX1_replay) ∈ ALL := mAC ch_t3 (i := 51) (by decide +kernel) rfl
theorem GV_RX11_515 : GoodIn ALL (wsV RX11 515 RX1 yX1_replay (Cond.code yX1_replay cX1_replay 4 none :: ALL)) := gV K605 K606 K607 K88 K608
theorem K360 : (Cond.fieldLink RX10 26 "Unwindlens$Watches" "count" "I") ∈ ALL := mAC ch_t2 (i := 44) (by decide +kernel) rfl
theorem K586 : (Cond.methodLinkNest RX6 49 yX11_isBelow RX11) ∈ NGS := mNC ch_t3 (i := 30) (by decide +kernel) rfl
theorem HD_yX11_needCell : yX11_needCell.cls ≠ "java/lang/invoke/MethodHandle" ∧ yX11_needCell.cls ≠ "java/lang/invoke/VarHandle" ∧ (parseMethodDescriptor yX11_needCell.desc).map (fun d => d.parameters.length) = some 1 := by decide +kernel
theorem K1200 : (Cond.code yX11_needCell cX11_needCell 1 none) ∈ ALL := mAC ch_t5 (i := 164) (by decide +kernel) rfl
theorem K1198 : (Cond.methodLink RX11 300 yX11_needCell) ∈ ALL := mAC ch_t5 (i := 162) (by decide +kernel) rfl
theorem K1199 : (Cond.static yX11_needCell) ∈ ALL := mAC ch_t5 (i := 163) (by decide +kernel) rfl
theorem GS_RX11_300 : GoodIn ALL (va_wsS RX11 300 yX11_needCell (Cond.code yX11_needCell cX11_needCell 1 none :: ALL)) := gS K1198 K1199 K77 K1200
theorem HD_yX6_cellAt : yX6_cellAt.cls ≠ "java/lang/invoke/MethodHandle" ∧ yX6_cellAt.cls ≠ "java/lang/invoke/VarHandle" ∧ (parseMethodDescriptor yX6_cellAt.desc).map (fun d => d.parameters.length) = some 1 := by decide +kernel
theorem K941 : (Cond.code yX6_cellAt cX6_cellAt 2 (some .int)) ∈ ALL := mAC ch_t4 (i := 145) (by decide +kernel) rfl
theorem K1202 : (Cond.methodLink RX11 303 yX6_cellAt) ∈ ALL := mAC ch_t5 (i := 166) (by decide +kernel) rfl
theorem K939 : (Cond.instanceMethod yX6_cellAt) ∈ ALL := mAC ch_t4 (i := 143) (by decide +kernel) rfl
theorem K940 : (Cond.selects RX6 yX6_cellAt yX6_cellAt) ∈ ALL := mAC ch_t4 (i := 144) (by decide +kernel) rfl
theorem GV_RX11_303 : GoodIn ALL (wsV RX11 303 RX6 yX6_cellAt (Cond.code yX6_cellAt cX6_cellAt 2 (some .int) :: ALL)) := gV K1202 K939 K940 K86 K941
theorem HD_yX10_isFull : yX10_isFull.cls ≠ "java/lang/invoke/MethodHandle" ∧ yX10_isFull.cls ≠ "java/lang/invoke/VarHandle" ∧ (parseMethodDescriptor yX10_isFull.desc).map (fun d => d.parameters.length) = some 0 := by decide +kernel
theorem K1771 : (Cond.code yX10_isFull cX10_isFull 1 (some .boolean)) ∈ ALL := mAC ch_t8 (i := 15) (by decide +kernel) rfl
theorem K1768 : (Cond.methodLink RX11 551 yX10_isFull) ∈ ALL := mAC ch_t8 (i := 12) (by decide +kernel) rfl
theorem K1769 : (Cond.instanceMethod yX10_isFull) ∈ ALL := mAC ch_t8 (i := 13) (by decide +kernel) rfl
theorem K1770 : (Cond.selects RX10 yX10_isFull yX10_isFull) ∈ ALL := mAC ch_t8 (i := 14) (by decide +kernel) rfl
theorem GV_RX11_551 : GoodIn ALL (wsV RX11 551 RX10 yX10_isFull (Cond.code yX10_isFull cX10_isFull 1 (some .boolean) :: ALL)) := gV K1768 K1769 K1770 K85 K1771
theorem K297 : (Cond.fieldLink RX5 15 "Unwindlens$Spot" "thread" "I") ∈ ALL := mAC ch_t1 (i := 221) (by decide +kernel) rfl
theorem K298 : (Cond.fieldLink RX5 19 "Unwindlens$Spot" "number" "I") ∈ ALL := mAC ch_t1 (i := 222) (by decide +kernel) rfl
theorem HD_yX11_endBy : yX11_endBy.cls ≠ "java/lang/invoke/MethodHandle" ∧ yX11_endBy.cls ≠ "java/lang/invoke/VarHandle" ∧ (parseMethodDescriptor yX11_endBy.desc).map (fun d => d.parameters.length) = some 2 := by decide +kernel
theorem K1806 : (Cond.code yX11_endBy cX11_endBy 3 none) ∈ ALL := mAC ch_t8 (i := 50) (by decide +kernel) rfl
theorem K1803 : (Cond.methodLink RX11 427 yX11_endBy) ∈ ALL := mAC ch_t8 (i := 47) (by decide +kernel) rfl
theorem K1805 : (Cond.instanceMethod yX11_endBy) ∈ ALL := mAC ch_t8 (i := 49) (by decide +kernel) rfl
theorem K25 : (Cond.selects RX11 yX11_endBy yX11_endBy) ∈ ALL := mAC ch_sel (i := 25) (by decide +kernel) rfl
theorem GV_RX11_427 : GoodIn ALL (wsV RX11 427 RX11 yX11_endBy (Cond.code yX11_endBy cX11_endBy 3 none :: ALL)) := gV K1803 K1805 K25 K77 K1806
theorem HD_yX11_nextThread : yX11_nextThread.cls ≠ "java/lang/invoke/MethodHandle" ∧ yX11_nextThread.cls ≠ "java/lang/invoke/VarHandle" ∧ (parseMethodDescriptor yX11_nextThread.desc).map (fun d => d.parameters.length) = some 0 := by decide +kernel
theorem K1810 : (Cond.code yX11_nextThread cX11_nextThread 3 (some .int)) ∈ ALL := mAC ch_t8 (i := 54) (by decide +kernel) rfl
theorem K1807 : (Cond.methodLink RX11 431 yX11_nextThread) ∈ ALL := mAC ch_t8 (i := 51) (by decide +kernel) rfl
theorem K1809 : (Cond.instanceMethod yX11_nextThread) ∈ ALL := mAC ch_t8 (i := 53) (by decide +kernel) rfl
theorem K26 : (Cond.selects RX11 yX11_nextThread yX11_nextThread) ∈ ALL := mAC ch_sel (i := 26) (by decide +kernel) rfl
theorem GV_RX11_431 : GoodIn ALL (wsV RX11 431 RX11 yX11_nextThread (Cond.code yX11_nextThread cX11_nextThread 3 (some .int) :: ALL)) := gV K1807 K1809 K26 K77 K1810
theorem K749 : (Cond.classLink RX11 171 "java/lang/IllegalArgumentException") ∈ ALL := mAC ch_t3 (i := 193) (by decide +kernel) rfl
theorem K102 : (Cond.initialized "java/lang/IllegalArgumentException") ∈ ALL := mAC ch_t1 (i := 26) (by decide +kernel) rfl
theorem K970 : (Cond.classLink RX11 156 "java/lang/UnsupportedOperationException") ∈ ALL := mAC ch_t4 (i := 174) (by decide +kernel) rfl
theorem K115 : (Cond.initialized "java/lang/UnsupportedOperationException") ∈ ALL := mAC ch_t1 (i := 39) (by decide +kernel) rfl
theorem K1997 : (Cond.classLink RX11 500 "java/lang/ArithmeticException") ∈ ALL := mAC ch_t9 (i := 1) (by decide +kernel) rfl
theorem K122 : (Cond.initialized "java/lang/ArithmeticException") ∈ ALL := mAC ch_t1 (i := 46) (by decide +kernel) rfl
theorem dX11_time_0 : decode cX11_time 0 = .ok (.aload_n 0, 1) := by decide +kernel
theorem dX11_time_1 : decode cX11_time 1 = .ok (.getfield 44, 3) := by decide +kernel
theorem dX11_time_4 : decode cX11_time 4 = .ok (.getfield 306, 3) := by decide +kernel
theorem dX11_time_7 : decode cX11_time 7 = .ok (.ireturn, 1) := by decide +kernel
theorem dX11_reason_0 : decode cX11_reason 0 = .ok (.aload_n 0, 1) := by decide +kernel
theorem dX11_reason_1 : decode cX11_reason 1 = .ok (.getfield 90, 3) := by decide +kernel
theorem dX11_reason_4 : decode cX11_reason 4 = .ok (.ireturn, 1) := by decide +kernel
theorem dX6_sum_0 : decode cX6_sum 0 = .ok (.ldc2_w 89, 3) := by decide +kernel
theorem dX6_sum_3 : decode cX6_sum 3 = .ok (.lstore_n 1, 1) := by decide +kernel
theorem dX6_sum_4 : decode cX6_sum 4 = .ok (.iconst 0, 1) := by decide +kernel
theorem dX6_sum_5 : decode cX6_sum 5 = .ok (.istore_n 3, 1) := by decide +kernel
theorem dX6_sum_6 : decode cX6_sum 6 = .ok (.iload_n 3, 1) := by decide +kernel
theorem dX6_sum_7 : decode cX6_sum 7 = .ok (.bipush 16, 2) := by decide +kernel
theorem dX6_sum_9 : decode cX6_sum 9 = .ok (.if_icmp .ge 23, 3) := by decide +kernel
theorem dX6_sum_12 : decode cX6_sum 12 = .ok (.ldc2_w 91, 3) := by decide +kernel
theorem dX6_sum_15 : decode cX6_sum 15 = .ok (.lload_n 1, 1) := by decide +kernel
theorem dX6_sum_16 : decode cX6_sum 16 = .ok (.lmul, 1) := by decide +kernel
theorem dX6_sum_17 : decode cX6_sum 17 = .ok (.aload_n 0, 1) := by decide +kernel
theorem dX6_sum_18 : decode cX6_sum 18 = .ok (.getfield 9, 3) := by decide +kernel
theorem dX6_sum_21 : decode cX6_sum 21 = .ok (.iload_n 3, 1) := by decide +kernel
theorem dX6_sum_22 : decode cX6_sum 22 = .ok (.iaload, 1) := by decide +kernel
theorem dX6_sum_23 : decode cX6_sum 23 = .ok (.i2l, 1) := by decide +kernel
theorem dX6_sum_24 : decode cX6_sum 24 = .ok (.ladd, 1) := by decide +kernel
theorem dX6_sum_25 : decode cX6_sum 25 = .ok (.lstore_n 1, 1) := by decide +kernel
theorem dX6_sum_26 : decode cX6_sum 26 = .ok (.iinc 3 1, 3) := by decide +kernel
theorem dX6_sum_29 : decode cX6_sum 29 = .ok (.goto (-23), 3) := by decide +kernel
theorem dX6_sum_32 : decode cX6_sum 32 = .ok (.iconst 0, 1) := by decide +kernel
theorem dX6_sum_33 : decode cX6_sum 33 = .ok (.istore_n 3, 1) := by decide +kernel
theorem dX6_sum_34 : decode cX6_sum 34 = .ok (.iload_n 3, 1) := by decide +kernel
theorem dX6_sum_35 : decode cX6_sum 35 = .ok (.aload_n 0, 1) := by decide +kernel
theorem dX6_sum_36 : decode cX6_sum 36 = .ok (.getfield 36, 3) := by decide +kernel
theorem dX6_sum_39 : decode cX6_sum 39 = .ok (.if_icmp .ge 19, 3) := by decide +kernel
theorem dX6_sum_42 : decode cX6_sum 42 = .ok (.lload_n 1, 1) := by decide +kernel
theorem dX6_sum_43 : decode cX6_sum 43 = .ok (.aload_n 0, 1) := by decide +kernel
theorem dX6_sum_44 : decode cX6_sum 44 = .ok (.iload_n 3, 1) := by decide +kernel
theorem dX6_sum_45 : decode cX6_sum 45 = .ok (.invokevirtual 42, 3) := by decide +kernel
theorem dX6_sum_48 : decode cX6_sum 48 = .ok (.invokestatic 93, 3) := by decide +kernel
theorem dX6_sum_51 : decode cX6_sum 51 = .ok (.lstore_n 1, 1) := by decide +kernel
theorem dX6_sum_52 : decode cX6_sum 52 = .ok (.iinc 3 1, 3) := by decide +kernel
theorem dX6_sum_55 : decode cX6_sum 55 = .ok (.goto (-21), 3) := by decide +kernel
theorem dX6_sum_58 : decode cX6_sum 58 = .ok (.lload_n 1, 1) := by decide +kernel
theorem dX6_sum_59 : decode cX6_sum 59 = .ok (.lreturn, 1) := by decide +kernel
theorem dX11_checksum_0 : decode cX11_checksum 0 = .ok (.aload_n 0, 1) := by decide +kernel
theorem dX11_checksum_1 : decode cX11_checksum 1 = .ok (.getfield 44, 3) := by decide +kernel
theorem dX11_checksum_4 : decode cX11_checksum 4 = .ok (.invokevirtual 511, 3) := by decide +kernel
theorem dX11_checksum_7 : decode cX11_checksum 7 = .ok (.lreturn, 1) := by decide +kernel
theorem dX7_copyFrom_0 : decode cX7_copyFrom 0 = .ok (.aload_n 1, 1) := by decide +kernel
theorem dX7_copyFrom_1 : decode cX7_copyFrom 1 = .ok (.getfield 9, 3) := by decide +kernel
theorem dX7_copyFrom_4 : decode cX7_copyFrom 4 = .ok (.iconst 0, 1) := by decide +kernel
theorem dX7_copyFrom_5 : decode cX7_copyFrom 5 = .ok (.aload_n 0, 1) := by decide +kernel
theorem dX7_copyFrom_6 : decode cX7_copyFrom 6 = .ok (.getfield 9, 3) := by decide +kernel
theorem dX7_copyFrom_9 : decode cX7_copyFrom 9 = .ok (.iconst 0, 1) := by decide +kernel
theorem dX7_copyFrom_10 : decode cX7_copyFrom 10 = .ok (.iconst 4, 1) := by decide +kernel
theorem dX7_copyFrom_11 : decode cX7_copyFrom 11 = .ok (.invokestatic 25, 3) := by decide +kernel
theorem dX7_copyFrom_14 : decode cX7_copyFrom 14 = .ok (.aload_n 1, 1) := by decide +kernel
theorem dX7_copyFrom_15 : decode cX7_copyFrom 15 = .ok (.getfield 15, 3) := by decide +kernel
theorem dX7_copyFrom_18 : decode cX7_copyFrom 18 = .ok (.iconst 0, 1) := by decide +kernel
theorem dX7_copyFrom_19 : decode cX7_copyFrom 19 = .ok (.aload_n 0, 1) := by decide +kernel
theorem dX7_copyFrom_20 : decode cX7_copyFrom 20 = .ok (.getfield 15, 3) := by decide +kernel
theorem dX7_copyFrom_23 : decode cX7_copyFrom 23 = .ok (.iconst 0, 1) := by decide +kernel
theorem dX7_copyFrom_24 : decode cX7_copyFrom 24 = .ok (.bipush 40, 2) := by decide +kernel
theorem dX7_copyFrom_26 : decode cX7_copyFrom 26 = .ok (.invokestatic 25, 3) := by decide +kernel
theorem dX7_copyFrom_29 : decode cX7_copyFrom 29 = .ok (.aload_n 0, 1) := by decide +kernel
theorem dX7_copyFrom_30 : decode cX7_copyFrom 30 = .ok (.aload_n 1, 1) := by decide +kernel
theorem dX7_copyFrom_31 : decode cX7_copyFrom 31 = .ok (.getfield 31, 3) := by decide +kernel
theorem dX7_copyFrom_34 : decode cX7_copyFrom 34 = .ok (.putfield 31, 3) := by decide +kernel
theorem dX7_copyFrom_37 : decode cX7_copyFrom 37 = .ok (.aload_n 0, 1) := by decide +kernel
theorem dX7_copyFrom_38 : decode cX7_copyFrom 38 = .ok (.aload_n 1, 1) := by decide +kernel
theorem dX7_copyFrom_39 : decode cX7_copyFrom 39 = .ok (.getfield 35, 3) := by decide +kernel
theorem dX7_copyFrom_42 : decode cX7_copyFrom 42 = .ok (.putfield 35, 3) := by decide +kernel
theorem dX7_copyFrom_45 : decode cX7_copyFrom 45 = .ok (.aload_n 0, 1) := by decide +kernel
theorem dX7_copyFrom_46 : decode cX7_copyFrom 46 = .ok (.aload_n 1, 1) := by decide +kernel
theorem dX7_copyFrom_47 : decode cX7_copyFrom 47 = .ok (.getfield 38, 3) := by decide +kernel
theorem dX7_copyFrom_50 : decode cX7_copyFrom 50 = .ok (.putfield 38, 3) := by decide +kernel
theorem dX7_copyFrom_53 : decode cX7_copyFrom 53 = .ok (.aload_n 0, 1) := by decide +kernel
theorem dX7_copyFrom_54 : decode cX7_copyFrom 54 = .ok (.aload_n 1, 1) := by decide +kernel
theorem dX7_copyFrom_55 : decode cX7_copyFrom 55 = .ok (.getfield 18, 3) := by decide +kernel
theorem dX7_copyFrom_58 : decode cX7_copyFrom 58 = .ok (.putfield 18, 3) := by decide +kernel
theorem dX7_copyFrom_61 : decode cX7_copyFrom 61 = .ok (.aload_n 0, 1) := by decide +kernel
theorem dX7_copyFrom_62 : decode cX7_copyFrom 62 = .ok (.aload_n 1, 1) := by decide +kernel
theorem dX7_copyFrom_63 : decode cX7_copyFrom 63 = .ok (.getfield 22, 3) := by decide +kernel
theorem dX7_copyFrom_66 : decode cX7_copyFrom 66 = .ok (.putfield 22, 3) := by decide +kernel
theorem dX7_copyFrom_69 : decode cX7_copyFrom 69 = .ok (.return_, 1) := by decide +kernel
theorem dX6_copyFrom_0 : decode cX6_copyFrom 0 = .ok (.aload_n 1, 1) := by decide +kernel
theorem dX6_copyFrom_1 : decode cX6_copyFrom 1 = .ok (.getfield 9, 3) := by decide +kernel
theorem dX6_copyFrom_4 : decode cX6_copyFrom 4 = .ok (.iconst 0, 1) := by decide +kernel
theorem dX6_copyFrom_5 : decode cX6_copyFrom 5 = .ok (.aload_n 0, 1) := by decide +kernel
theorem dX6_copyFrom_6 : decode cX6_copyFrom 6 = .ok (.getfield 9, 3) := by decide +kernel
theorem dX6_copyFrom_9 : decode cX6_copyFrom 9 = .ok (.iconst 0, 1) := by decide +kernel
theorem dX6_copyFrom_10 : decode cX6_copyFrom 10 = .ok (.bipush 16, 2) := by decide +kernel
theorem dX6_copyFrom_12 : decode cX6_copyFrom 12 = .ok (.invokestatic 26, 3) := by decide +kernel
theorem dX6_copyFrom_15 : decode cX6_copyFrom 15 = .ok (.iconst 0, 1) := by decide +kernel
theorem dX6_copyFrom_16 : decode cX6_copyFrom 16 = .ok (.istore_n 2, 1) := by decide +kernel
theorem dX6_copyFrom_17 : decode cX6_copyFrom 17 = .ok (.iload_n 2, 1) := by decide +kernel
theorem dX6_copyFrom_18 : decode cX6_copyFrom 18 = .ok (.iconst 3, 1) := by decide +kernel
theorem dX6_copyFrom_19 : decode cX6_copyFrom 19 = .ok (.if_icmp .ge 24, 3) := by decide +kernel
theorem dX6_copyFrom_22 : decode cX6_copyFrom 22 = .ok (.aload_n 0, 1) := by decide +kernel
theorem dX6_copyFrom_23 : decode cX6_copyFrom 23 = .ok (.getfield 17, 3) := by decide +kernel
theorem dX6_copyFrom_26 : decode cX6_copyFrom 26 = .ok (.iload_n 2, 1) := by decide +kernel
theorem dX6_copyFrom_27 : decode cX6_copyFrom 27 = .ok (.aaload, 1) := by decide +kernel
theorem dX6_copyFrom_28 : decode cX6_copyFrom 28 = .ok (.aload_n 1, 1) := by decide +kernel
theorem dX6_copyFrom_29 : decode cX6_copyFrom 29 = .ok (.getfield 17, 3) := by decide +kernel
theorem dX6_copyFrom_32 : decode cX6_copyFrom 32 = .ok (.iload_n 2, 1) := by decide +kernel
theorem dX6_copyFrom_33 : decode cX6_copyFrom 33 = .ok (.aaload, 1) := by decide +kernel
theorem dX6_copyFrom_34 : decode cX6_copyFrom 34 = .ok (.invokevirtual 32, 3) := by decide +kernel
theorem dX6_copyFrom_37 : decode cX6_copyFrom 37 = .ok (.iinc 2 1, 3) := by decide +kernel
theorem dX6_copyFrom_40 : decode cX6_copyFrom 40 = .ok (.goto (-23), 3) := by decide +kernel
theorem dX6_copyFrom_43 : decode cX6_copyFrom 43 = .ok (.aload_n 0, 1) := by decide +kernel
theorem dX6_copyFrom_44 : decode cX6_copyFrom 44 = .ok (.aload_n 1, 1) := by decide +kernel
theorem dX6_copyFrom_45 : decode cX6_copyFrom 45 = .ok (.getfield 36, 3) := by decide +kernel
theorem dX6_copyFrom_48 : decode cX6_copyFrom 48 = .ok (.putfield 36, 3) := by decide +kernel
theorem dX6_copyFrom_51 : decode cX6_copyFrom 51 = .ok (.aload_n 0, 1) := by decide +kernel
theorem dX6_copyFrom_52 : decode cX6_copyFrom 52 = .ok (.aload_n 1, 1) := by decide +kernel
theorem dX6_copyFrom_53 : decode cX6_copyFrom 53 = .ok (.getfield 21, 3) := by decide +kernel
theorem dX6_copyFrom_56 : decode cX6_copyFrom 56 = .ok (.putfield 21, 3) := by decide +kernel
theorem dX6_copyFrom_59 : decode cX6_copyFrom 59 = .ok (.aload_n 0, 1) := by decide +kernel
theorem dX6_copyFrom_60 : decode cX6_copyFrom 60 = .ok (.aload_n 1, 1) := by decide +kernel
theorem dX6_copyFrom_61 : decode cX6_copyFrom 61 = .ok (.getfield 39, 3) := by decide +kernel
theorem dX6_copyFrom_64 : decode cX6_copyFrom 64 = .ok (.putfield 39, 3) := by decide +kernel
theorem dX6_copyFrom_67 : decode cX6_copyFrom 67 = .ok (.return_, 1) := by decide +kernel
theorem dX1_begin_0 : decode cX1_begin 0 = .ok (.aload_n 0, 1) := by decide +kernel
theorem dX1_begin_1 : decode cX1_begin 1 = .ok (.getfield 12, 3) := by decide +kernel
theorem dX1_begin_4 : decode cX1_begin 4 = .ok (.aload_n 1, 1) := by decide +kernel
theorem dX1_begin_5 : decode cX1_begin 5 = .ok (.invokevirtual 26, 3) := by decide +kernel
theorem dX1_begin_8 : decode cX1_begin 8 = .ok (.aload_n 0, 1) := by decide +kernel
theorem dX1_begin_9 : decode cX1_begin 9 = .ok (.iconst 0, 1) := by decide +kernel
theorem dX1_begin_10 : decode cX1_begin 10 = .ok (.putfield 30, 3) := by decide +kernel
theorem dX1_begin_13 : decode cX1_begin 13 = .ok (.return_, 1) := by decide +kernel
theorem dX1_replay_0 : decode cX1_replay 0 = .ok (.aload_n 1, 1) := by decide +kernel
theorem dX1_replay_1 : decode cX1_replay 1 = .ok (.aload_n 0, 1) := by decide +kernel
theorem dX1_replay_2 : decode cX1_replay 2 = .ok (.getfield 12, 3) := by decide +kernel
theorem dX1_replay_5 : decode cX1_replay 5 = .ok (.invokevirtual 26, 3) := by decide +kernel
theorem dX1_replay_8 : decode cX1_replay 8 = .ok (.iconst 0, 1) := by decide +kernel
theorem dX1_replay_9 : decode cX1_replay 9 = .ok (.istore_n 3, 1) := by decide +kernel
theorem dX1_replay_10 : decode cX1_replay 10 = .ok (.iload_n 3, 1) := by decide +kernel
theorem dX1_replay_11 : decode cX1_replay 11 = .ok (.iload_n 2, 1) := by decide +kernel
theorem dX1_replay_12 : decode cX1_replay 12 = .ok (.if_icmp .ge 22, 3) := by decide +kernel
theorem dX1_replay_15 : decode cX1_replay 15 = .ok (.aload_n 1, 1) := by decide +kernel
theorem dX1_replay_16 : decode cX1_replay 16 = .ok (.aload_n 0, 1) := by decide +kernel
theorem dX1_replay_17 : decode cX1_replay 17 = .ok (.getfield 22, 3) := by decide +kernel
theorem dX1_replay_20 : decode cX1_replay 20 = .ok (.aload_n 0, 1) := by decide +kernel
theorem dX1_replay_21 : decode cX1_replay 21 = .ok (.iload_n 3, 1) := by decide +kernel
theorem dX1_replay_22 : decode cX1_replay 22 = .ok (.invokevirtual 41, 3) := by decide +kernel
theorem dX1_replay_25 : decode cX1_replay 25 = .ok (.invokevirtual 45, 3) := by decide +kernel
theorem dX1_replay_28 : decode cX1_replay 28 = .ok (.iinc 3 1, 3) := by decide +kernel
theorem dX1_replay_31 : decode cX1_replay 31 = .ok (.goto (-21), 3) := by decide +kernel
theorem dX1_replay_34 : decode cX1_replay 34 = .ok (.return_, 1) := by decide +kernel
theorem dX11_isTrue_0 : decode cX11_isTrue 0 = .ok (.aload_n 0, 1) := by decide +kernel
theorem dX11_isTrue_1 : decode cX11_isTrue 1 = .ok (.getfield 54, 3) := by decide +kernel
theorem dX11_isTrue_4 : decode cX11_isTrue 4 = .ok (.aload_n 0, 1) := by decide +kernel
theorem dX11_isTrue_5 : decode cX11_isTrue 5 = .ok (.getfield 48, 3) := by decide +kernel
theorem dX11_isTrue_8 : decode cX11_isTrue 8 = .ok (.aload_n 0, 1) := by decide +kernel
theorem dX11_isTrue_9 : decode cX11_isTrue 9 = .ok (.getfield 54, 3) := by decide +kernel
theorem dX11_isTrue_12 : decode cX11_isTrue 12 = .ok (.getfield 466, 3) := by decide +kernel
theorem dX11_isTrue_15 : decode cX11_isTrue 15 = .ok (.invokevirtual 515, 3) := by decide +kernel
theorem dX11_isTrue_18 : decode cX11_isTrue 18 = .ok (.aload_n 0, 1) := by decide +kernel
theorem dX11_isTrue_19 : decode cX11_isTrue 19 = .ok (.getfield 48, 3) := by decide +kernel
theorem dX11_isTrue_22 : decode cX11_isTrue 22 = .ok (.invokevirtual 511, 3) := by decide +kernel
theorem dX11_isTrue_25 : decode cX11_isTrue 25 = .ok (.aload_n 0, 1) := by decide +kernel
theorem dX11_isTrue_26 : decode cX11_isTrue 26 = .ok (.getfield 44, 3) := by decide +kernel
theorem dX11_isTrue_29 : decode cX11_isTrue 29 = .ok (.invokevirtual 511, 3) := by decide +kernel
theorem dX11_isTrue_32 : decode cX11_isTrue 32 = .ok (.lcmp, 1) := by decide +kernel
theorem dX11_isTrue_33 : decode cX11_isTrue 33 = .ok (.ifCond .eq 5, 3) := by decide +kernel
theorem dX11_isTrue_36 : decode cX11_isTrue 36 = .ok (.iconst 0, 1) := by decide +kernel
theorem dX11_isTrue_37 : decode cX11_isTrue 37 = .ok (.ireturn, 1) := by decide +kernel
theorem dX11_isTrue_38 : decode cX11_isTrue 38 = .ok (.iconst 0, 1) := by decide +kernel
theorem dX11_isTrue_39 : decode cX11_isTrue 39 = .ok (.istore_n 1, 1) := by decide +kernel
theorem dX11_isTrue_40 : decode cX11_isTrue 40 = .ok (.iload_n 1, 1) := by decide +kernel
theorem dX11_isTrue_41 : decode cX11_isTrue 41 = .ok (.aload_n 0, 1) := by decide +kernel
theorem dX11_isTrue_42 : decode cX11_isTrue 42 = .ok (.getfield 44, 3) := by decide +kernel
theorem dX11_isTrue_45 : decode cX11_isTrue 45 = .ok (.getfield 499, 3) := by decide +kernel
theorem dX11_isTrue_48 : decode cX11_isTrue 48 = .ok (.if_icmp .ge 36, 3) := by decide +kernel
theorem dX11_isTrue_51 : decode cX11_isTrue 51 = .ok (.aload_n 0, 1) := by decide +kernel
theorem dX11_isTrue_52 : decode cX11_isTrue 52 = .ok (.getfield 65, 3) := by decide +kernel
theorem dX11_isTrue_55 : decode cX11_isTrue 55 = .ok (.aload_n 0, 1) := by decide +kernel
theorem dX11_isTrue_56 : decode cX11_isTrue 56 = .ok (.getfield 44, 3) := by decide +kernel
theorem dX11_isTrue_59 : decode cX11_isTrue 59 = .ok (.iload_n 1, 1) := by decide +kernel
theorem dX11_isTrue_60 : decode cX11_isTrue 60 = .ok (.invokevirtual 275, 3) := by decide +kernel
theorem dX11_isTrue_63 : decode cX11_isTrue 63 = .ok (.invokevirtual 309, 3) := by decide +kernel
theorem dX11_isTrue_66 : decode cX11_isTrue 66 = .ok (.aload_n 0, 1) := by decide +kernel
theorem dX11_isTrue_67 : decode cX11_isTrue 67 = .ok (.getfield 65, 3) := by decide +kernel
theorem dX11_isTrue_70 : decode cX11_isTrue 70 = .ok (.invokevirtual 519, 3) := by decide +kernel
theorem dX11_isTrue_73 : decode cX11_isTrue 73 = .ok (.ifCond .ne 5, 3) := by decide +kernel
theorem dX11_isTrue_76 : decode cX11_isTrue 76 = .ok (.iconst 0, 1) := by decide +kernel
theorem dX11_isTrue_77 : decode cX11_isTrue 77 = .ok (.ireturn, 1) := by decide +kernel
theorem dX11_isTrue_78 : decode cX11_isTrue 78 = .ok (.iinc 1 1, 3) := by decide +kernel
theorem dX11_isTrue_81 : decode cX11_isTrue 81 = .ok (.goto (-41), 3) := by decide +kernel
theorem dX11_isTrue_84 : decode cX11_isTrue 84 = .ok (.iconst 1, 1) := by decide +kernel
theorem dX11_isTrue_85 : decode cX11_isTrue 85 = .ok (.ireturn, 1) := by decide +kernel
theorem dX11_stepsBackToBreakpoint_0 : decode cX11_stepsBackToBreakpoint 0 = .ok (.iconst 0, 1) := by decide +kernel
theorem dX11_stepsBackToBreakpoint_1 : decode cX11_stepsBackToBreakpoint 1 = .ok (.istore_n 1, 1) := by decide +kernel
theorem dX11_stepsBackToBreakpoint_2 : decode cX11_stepsBackToBreakpoint 2 = .ok (.aload_n 0, 1) := by decide +kernel
theorem dX11_stepsBackToBreakpoint_3 : decode cX11_stepsBackToBreakpoint 3 = .ok (.getfield 54, 3) := by decide +kernel
theorem dX11_stepsBackToBreakpoint_6 : decode cX11_stepsBackToBreakpoint 6 = .ok (.aload_n 0, 1) := by decide +kernel
theorem dX11_stepsBackToBreakpoint_7 : decode cX11_stepsBackToBreakpoint 7 = .ok (.getfield 48, 3) := by decide +kernel
theorem dX11_stepsBackToBreakpoint_10 : decode cX11_stepsBackToBreakpoint 10 = .ok (.iconst 0, 1) := by decide +kernel
theorem dX11_stepsBackToBreakpoint_11 : decode cX11_stepsBackToBreakpoint 11 = .ok (.invokevirtual 515, 3) := by decide +kernel
theorem dX11_stepsBackToBreakpoint_14 : decode cX11_stepsBackToBreakpoint 14 = .ok (.iconst 0, 1) := by decide +kernel
theorem dX11_stepsBackToBreakpoint_15 : decode cX11_stepsBackToBreakpoint 15 = .ok (.istore_n 2, 1) := by decide +kernel
theorem dX11_stepsBackToBreakpoint_16 : decode cX11_stepsBackToBreakpoint 16 = .ok (.iload_n 2, 1) := by decide +kernel
theorem dX11_stepsBackToBreakpoint_17 : decode cX11_stepsBackToBreakpoint 17 = .ok (.aload_n 0, 1) := by decide +kernel
theorem dX11_stepsBackToBreakpoint_18 : decode cX11_stepsBackToBreakpoint 18 = .ok (.getfield 54, 3) := by decide +kernel
theorem dX11_stepsBackToBreakpoint_21 : decode cX11_stepsBackToBreakpoint 21 = .ok (.getfield 466, 3) := by decide +kernel
theorem dX11_stepsBackToBreakpoint_24 : decode cX11_stepsBackToBreakpoint 24 = .ok (.if_icmp .ge 55, 3) := by decide +kernel
theorem dX11_stepsBackToBreakpoint_27 : decode cX11_stepsBackToBreakpoint 27 = .ok (.aload_n 0, 1) := by decide +kernel
theorem dX11_stepsBackToBreakpoint_28 : decode cX11_stepsBackToBreakpoint 28 = .ok (.getfield 54, 3) := by decide +kernel
theorem dX11_stepsBackToBreakpoint_31 : decode cX11_stepsBackToBreakpoint 31 = .ok (.iload_n 2, 1) := by decide +kernel
theorem dX11_stepsBackToBreakpoint_32 : decode cX11_stepsBackToBreakpoint 32 = .ok (.invokevirtual 635, 3) := by decide +kernel
theorem dX11_stepsBackToBreakpoint_35 : decode cX11_stepsBackToBreakpoint 35 = .ok (.istore_n 3, 1) := by decide +kernel
theorem dX11_stepsBackToBreakpoint_36 : decode cX11_stepsBackToBreakpoint 36 = .ok (.aload_n 0, 1) := by decide +kernel
theorem dX11_stepsBackToBreakpoint_37 : decode cX11_stepsBackToBreakpoint 37 = .ok (.getfield 30, 3) := by decide +kernel
theorem dX11_stepsBackToBreakpoint_40 : decode cX11_stepsBackToBreakpoint 40 = .ok (.aload_n 0, 1) := by decide +kernel
theorem dX11_stepsBackToBreakpoint_41 : decode cX11_stepsBackToBreakpoint 41 = .ok (.getfield 48, 3) := by decide +kernel
theorem dX11_stepsBackToBreakpoint_44 : decode cX11_stepsBackToBreakpoint 44 = .ok (.iload_n 3, 1) := by decide +kernel
theorem dX11_stepsBackToBreakpoint_45 : decode cX11_stepsBackToBreakpoint 45 = .ok (.invokevirtual 638, 3) := by decide +kernel
theorem dX11_stepsBackToBreakpoint_48 : decode cX11_stepsBackToBreakpoint 48 = .ok (.ifCond .eq 13, 3) := by decide +kernel
theorem dX11_stepsBackToBreakpoint_51 : decode cX11_stepsBackToBreakpoint 51 = .ok (.aload_n 0, 1) := by decide +kernel
theorem dX11_stepsBackToBreakpoint_52 : decode cX11_stepsBackToBreakpoint 52 = .ok (.getfield 54, 3) := by decide +kernel
theorem dX11_stepsBackToBreakpoint_55 : decode cX11_stepsBackToBreakpoint 55 = .ok (.getfield 466, 3) := by decide +kernel
theorem dX11_stepsBackToBreakpoint_58 : decode cX11_stepsBackToBreakpoint 58 = .ok (.iload_n 2, 1) := by decide +kernel
theorem dX11_stepsBackToBreakpoint_59 : decode cX11_stepsBackToBreakpoint 59 = .ok (.isub, 1) := by decide +kernel
theorem dX11_stepsBackToBreakpoint_60 : decode cX11_stepsBackToBreakpoint 60 = .ok (.istore_n 1, 1) := by decide +kernel
theorem dX11_stepsBackToBreakpoint_61 : decode cX11_stepsBackToBreakpoint 61 = .ok (.aload_n 0, 1) := by decide +kernel
theorem dX11_stepsBackToBreakpoint_62 : decode cX11_stepsBackToBreakpoint 62 = .ok (.getfield 48, 3) := by decide +kernel
theorem dX11_stepsBackToBreakpoint_65 : decode cX11_stepsBackToBreakpoint 65 = .ok (.aload_n 0, 1) := by decide +kernel
theorem dX11_stepsBackToBreakpoint_66 : decode cX11_stepsBackToBreakpoint 66 = .ok (.getfield 10, 3) := by decide +kernel
theorem dX11_stepsBackToBreakpoint_69 : decode cX11_stepsBackToBreakpoint 69 = .ok (.iload_n 3, 1) := by decide +kernel
theorem dX11_stepsBackToBreakpoint_70 : decode cX11_stepsBackToBreakpoint 70 = .ok (.invokevirtual 608, 3) := by decide +kernel
theorem dX11_stepsBackToBreakpoint_73 : decode cX11_stepsBackToBreakpoint 73 = .ok (.iinc 2 1, 3) := by decide +kernel
theorem dX11_stepsBackToBreakpoint_76 : decode cX11_stepsBackToBreakpoint 76 = .ok (.goto (-60), 3) := by decide +kernel
theorem dX11_stepsBackToBreakpoint_79 : decode cX11_stepsBackToBreakpoint 79 = .ok (.iload_n 1, 1) := by decide +kernel
theorem dX11_stepsBackToBreakpoint_80 : decode cX11_stepsBackToBreakpoint 80 = .ok (.ireturn, 1) := by decide +kernel
theorem dX11_nextThread_0 : decode cX11_nextThread 0 = .ok (.iconst 1, 1) := by decide +kernel
theorem dX11_nextThread_1 : decode cX11_nextThread 1 = .ok (.istore_n 1, 1) := by decide +kernel
theorem dX11_nextThread_2 : decode cX11_nextThread 2 = .ok (.iload_n 1, 1) := by decide +kernel
theorem dX11_nextThread_3 : decode cX11_nextThread 3 = .ok (.aload_n 0, 1) := by decide +kernel
theorem dX11_nextThread_4 : decode cX11_nextThread 4 = .ok (.getfield 44, 3) := by decide +kernel
theorem dX11_nextThread_7 : decode cX11_nextThread 7 = .ok (.getfield 499, 3) := by decide +kernel
theorem dX11_nextThread_10 : decode cX11_nextThread 10 = .ok (.if_icmp .gt 64, 3) := by decide +kernel
theorem dX11_nextThread_13 : decode cX11_nextThread 13 = .ok (.aload_n 0, 1) := by decide +kernel
theorem dX11_nextThread_14 : decode cX11_nextThread 14 = .ok (.getfield 44, 3) := by decide +kernel
theorem dX11_nextThread_17 : decode cX11_nextThread 17 = .ok (.getfield 596, 3) := by decide +kernel
theorem dX11_nextThread_20 : decode cX11_nextThread 20 = .ok (.iload_n 1, 1) := by decide +kernel
theorem dX11_nextThread_21 : decode cX11_nextThread 21 = .ok (.iadd, 1) := by decide +kernel
theorem dX11_nextThread_22 : decode cX11_nextThread 22 = .ok (.istore_n 2, 1) := by decide +kernel
theorem dX11_nextThread_23 : decode cX11_nextThread 23 = .ok (.iload_n 2, 1) := by decide +kernel
theorem dX11_nextThread_24 : decode cX11_nextThread 24 = .ok (.aload_n 0, 1) := by decide +kernel
theorem dX11_nextThread_25 : decode cX11_nextThread 25 = .ok (.getfield 44, 3) := by decide +kernel
theorem dX11_nextThread_28 : decode cX11_nextThread 28 = .ok (.getfield 499, 3) := by decide +kernel
theorem dX11_nextThread_31 : decode cX11_nextThread 31 = .ok (.if_icmp .lt 13, 3) := by decide +kernel
theorem dX11_nextThread_34 : decode cX11_nextThread 34 = .ok (.iload_n 2, 1) := by decide +kernel
theorem dX11_nextThread_35 : decode cX11_nextThread 35 = .ok (.aload_n 0, 1) := by decide +kernel
theorem dX11_nextThread_36 : decode cX11_nextThread 36 = .ok (.getfield 44, 3) := by decide +kernel
theorem dX11_nextThread_39 : decode cX11_nextThread 39 = .ok (.getfield 499, 3) := by decide +kernel
theorem dX11_nextThread_42 : decode cX11_nextThread 42 = .ok (.isub, 1) := by decide +kernel
theorem dX11_nextThread_43 : decode cX11_nextThread 43 = .ok (.istore_n 2, 1) := by decide +kernel
theorem dX11_nextThread_44 : decode cX11_nextThread 44 = .ok (.aload_n 0, 1) := by decide +kernel
theorem dX11_nextThread_45 : decode cX11_nextThread 45 = .ok (.getfield 44, 3) := by decide +kernel
theorem dX11_nextThread_48 : decode cX11_nextThread 48 = .ok (.iload_n 2, 1) := by decide +kernel
theorem dX11_nextThread_49 : decode cX11_nextThread 49 = .ok (.invokevirtual 275, 3) := by decide +kernel
theorem dX11_nextThread_52 : decode cX11_nextThread 52 = .ok (.invokevirtual 445, 3) := by decide +kernel
theorem dX11_nextThread_55 : decode cX11_nextThread 55 = .ok (.ifCond .eq 13, 3) := by decide +kernel
theorem dX11_nextThread_58 : decode cX11_nextThread 58 = .ok (.aload_n 0, 1) := by decide +kernel
theorem dX11_nextThread_59 : decode cX11_nextThread 59 = .ok (.iload_n 2, 1) := by decide +kernel
theorem dX11_nextThread_60 : decode cX11_nextThread 60 = .ok (.invokevirtual 292, 3) := by decide +kernel
theorem dX11_nextThread_63 : decode cX11_nextThread 63 = .ok (.ifCond .ne 5, 3) := by decide +kernel
theorem dX11_nextThread_66 : decode cX11_nextThread 66 = .ok (.iload_n 2, 1) := by decide +kernel
theorem dX11_nextThread_67 : decode cX11_nextThread 67 = .ok (.ireturn, 1) := by decide +kernel
theorem dX11_nextThread_68 : decode cX11_nextThread 68 = .ok (.iinc 1 1, 3) := by decide +kernel
theorem dX11_nextThread_71 : decode cX11_nextThread 71 = .ok (.goto (-69), 3) := by decide +kernel
theorem dX11_nextThread_74 : decode cX11_nextThread 74 = .ok (.iconst (-1), 1) := by decide +kernel
theorem dX11_nextThread_75 : decode cX11_nextThread 75 = .ok (.ireturn, 1) := by decide +kernel
theorem dX3_placesBeginning_0 : decode cX3_placesBeginning 0 = .ok (.lconst 0, 1) := by decide +kernel
theorem dX3_placesBeginning_1 : decode cX3_placesBeginning 1 = .ok (.lstore_n 2, 1) := by decide +kernel
theorem dX3_placesBeginning_2 : decode cX3_placesBeginning 2 = .ok (.iconst 0, 1) := by decide +kernel
theorem dX3_placesBeginning_3 : decode cX3_placesBeginning 3 = .ok (.istore 4, 2) := by decide +kernel
theorem dX3_placesBeginning_5 : decode cX3_placesBeginning 5 = .ok (.iload 4, 2) := by decide +kernel
theorem dX3_placesBeginning_7 : decode cX3_placesBeginning 7 = .ok (.aload_n 0, 1) := by decide +kernel
theorem dX3_placesBeginning_8 : decode cX3_placesBeginning 8 = .ok (.getfield 54, 3) := by decide +kernel
theorem dX3_placesBeginning_11 : decode cX3_placesBeginning 11 = .ok (.if_icmp .ge 35, 3) := by decide +kernel
theorem dX3_placesBeginning_14 : decode cX3_placesBeginning 14 = .ok (.aload_n 0, 1) := by decide +kernel
theorem dX3_placesBeginning_15 : decode cX3_placesBeginning 15 = .ok (.iload 4, 2) := by decide +kernel
theorem dX3_placesBeginning_17 : decode cX3_placesBeginning 17 = .ok (.invokevirtual 70, 3) := by decide +kernel
theorem dX3_placesBeginning_20 : decode cX3_placesBeginning 20 = .ok (.iload_n 1, 1) := by decide +kernel
theorem dX3_placesBeginning_21 : decode cX3_placesBeginning 21 = .ok (.if_icmp .ne 19, 3) := by decide +kernel
theorem dX3_placesBeginning_24 : decode cX3_placesBeginning 24 = .ok (.aload_n 0, 1) := by decide +kernel
theorem dX3_placesBeginning_25 : decode cX3_placesBeginning 25 = .ok (.iload 4, 2) := by decide +kernel
theorem dX3_placesBeginning_27 : decode cX3_placesBeginning 27 = .ok (.invokevirtual 83, 3) := by decide +kernel
theorem dX3_placesBeginning_30 : decode cX3_placesBeginning 30 = .ok (.ifCond .eq 10, 3) := by decide +kernel
theorem dX3_placesBeginning_33 : decode cX3_placesBeginning 33 = .ok (.lload_n 2, 1) := by decide +kernel
theorem dX3_placesBeginning_34 : decode cX3_placesBeginning 34 = .ok (.lconst 1, 1) := by decide +kernel
theorem dX3_placesBeginning_35 : decode cX3_placesBeginning 35 = .ok (.iload 4, 2) := by decide +kernel
theorem dX3_placesBeginning_37 : decode cX3_placesBeginning 37 = .ok (.lshl, 1) := by decide +kernel
theorem dX3_placesBeginning_38 : decode cX3_placesBeginning 38 = .ok (.lor, 1) := by decide +kernel
theorem dX3_placesBeginning_39 : decode cX3_placesBeginning 39 = .ok (.lstore_n 2, 1) := by decide +kernel
theorem dX3_placesBeginning_40 : decode cX3_placesBeginning 40 = .ok (.iinc 4 1, 3) := by decide +kernel
theorem dX3_placesBeginning_43 : decode cX3_placesBeginning 43 = .ok (.goto (-38), 3) := by decide +kernel
theorem dX3_placesBeginning_46 : decode cX3_placesBeginning 46 = .ok (.lload_n 2, 1) := by decide +kernel
theorem dX3_placesBeginning_47 : decode cX3_placesBeginning 47 = .ok (.lreturn, 1) := by decide +kernel
theorem dX10_isFull_0 : decode cX10_isFull 0 = .ok (.aload_n 0, 1) := by decide +kernel
theorem dX10_isFull_1 : decode cX10_isFull 1 = .ok (.getfield 26, 3) := by decide +kernel
theorem dX10_isFull_4 : decode cX10_isFull 4 = .ok (.iconst 4, 1) := by decide +kernel
theorem dX10_isFull_5 : decode cX10_isFull 5 = .ok (.if_icmp .lt 7, 3) := by decide +kernel
theorem dX10_isFull_8 : decode cX10_isFull 8 = .ok (.iconst 1, 1) := by decide +kernel
theorem dX10_isFull_9 : decode cX10_isFull 9 = .ok (.goto 4, 3) := by decide +kernel
theorem dX10_isFull_12 : decode cX10_isFull 12 = .ok (.iconst 0, 1) := by decide +kernel
theorem dX10_isFull_13 : decode cX10_isFull 13 = .ok (.ireturn, 1) := by decide +kernel
theorem dX3_isFull_0 : decode cX3_isFull 0 = .ok (.aload_n 0, 1) := by decide +kernel
theorem dX3_isFull_1 : decode cX3_isFull 1 = .ok (.getfield 54, 3) := by decide +kernel
theorem dX3_isFull_4 : decode cX3_isFull 4 = .ok (.bipush 60, 2) := by decide +kernel
theorem dX3_isFull_6 : decode cX3_isFull 6 = .ok (.if_icmp .lt 7, 3) := by decide +kernel
theorem dX3_isFull_9 : decode cX3_isFull 9 = .ok (.iconst 1, 1) := by decide +kernel
theorem dX3_isFull_10 : decode cX3_isFull 10 = .ok (.goto 4, 3) := by decide +kernel
theorem dX3_isFull_13 : decode cX3_isFull 13 = .ok (.iconst 0, 1) := by decide +kernel
theorem dX3_isFull_14 : decode cX3_isFull 14 = .ok (.ireturn, 1) := by decide +kernel
theorem dX11_needCell_0 : decode cX11_needCell 0 = .ok (.iload_n 0, 1) := by decide +kernel
theorem dX11_needCell_1 : decode cX11_needCell 1 = .ok (.bipush 16, 2) := by decide +kernel
theorem dX11_needCell_3 : decode cX11_needCell 3 = .ok (.invokestatic 168, 3) := by decide +kernel
theorem dX11_needCell_6 : decode cX11_needCell 6 = .ok (.ifCond .ne 14, 3) := by decide +kernel
theorem dX11_needCell_9 : decode cX11_needCell 9 = .ok (.new 223, 3) := by decide +kernel
theorem dX11_needCell_12 : decode cX11_needCell 12 = .ok (.dup, 1) := by decide +kernel
theorem dX11_needCell_13 : decode cX11_needCell 13 = .ok (.ldc_w 532, 3) := by decide +kernel
theorem dX11_needCell_16 : decode cX11_needCell 16 = .ok (.invokespecial 227, 3) := by decide +kernel
theorem dX11_needCell_19 : decode cX11_needCell 19 = .ok (.athrow, 1) := by decide +kernel
theorem dX11_needCell_20 : decode cX11_needCell 20 = .ok (.return_, 1) := by decide +kernel
theorem dX6_cellAt_0 : decode cX6_cellAt 0 = .ok (.iload_n 1, 1) := by decide +kernel
theorem dX6_cellAt_1 : decode cX6_cellAt 1 = .ok (.bipush 16, 2) := by decide +kernel
theorem dX6_cellAt_3 : decode cX6_cellAt 3 = .ok (.invokestatic 49, 3) := by decide +kernel
theorem dX6_cellAt_6 : decode cX6_cellAt 6 = .ok (.ifCond .eq 12, 3) := by decide +kernel
theorem dX6_cellAt_9 : decode cX6_cellAt 9 = .ok (.aload_n 0, 1) := by decide +kernel
theorem dX6_cellAt_10 : decode cX6_cellAt 10 = .ok (.getfield 9, 3) := by decide +kernel
theorem dX6_cellAt_13 : decode cX6_cellAt 13 = .ok (.iload_n 1, 1) := by decide +kernel
theorem dX6_cellAt_14 : decode cX6_cellAt 14 = .ok (.iaload, 1) := by decide +kernel
theorem dX6_cellAt_15 : decode cX6_cellAt 15 = .ok (.goto 4, 3) := by decide +kernel
theorem dX6_cellAt_18 : decode cX6_cellAt 18 = .ok (.iconst 0, 1) := by decide +kernel
theorem dX6_cellAt_19 : decode cX6_cellAt 19 = .ok (.ireturn, 1) := by decide +kernel
theorem dX11_cell_0 : decode cX11_cell 0 = .ok (.iload_n 1, 1) := by decide +kernel
theorem dX11_cell_1 : decode cX11_cell 1 = .ok (.invokestatic 300, 3) := by decide +kernel
theorem dX11_cell_4 : decode cX11_cell 4 = .ok (.aload_n 0, 1) := by decide +kernel
theorem dX11_cell_5 : decode cX11_cell 5 = .ok (.getfield 44, 3) := by decide +kernel
theorem dX11_cell_8 : decode cX11_cell 8 = .ok (.iload_n 1, 1) := by decide +kernel
theorem dX11_cell_9 : decode cX11_cell 9 = .ok (.invokevirtual 303, 3) := by decide +kernel
theorem dX11_cell_12 : decode cX11_cell 12 = .ok (.ireturn, 1) := by decide +kernel
theorem dX11_needRoomForWatch_0 : decode cX11_needRoomForWatch 0 = .ok (.aload_n 0, 1) := by decide +kernel
theorem dX11_needRoomForWatch_1 : decode cX11_needRoomForWatch 1 = .ok (.getfield 37, 3) := by decide +kernel
theorem dX11_needRoomForWatch_4 : decode cX11_needRoomForWatch 4 = .ok (.invokevirtual 551, 3) := by decide +kernel
theorem dX11_needRoomForWatch_7 : decode cX11_needRoomForWatch 7 = .ok (.ifCond .eq 14, 3) := by decide +kernel
theorem dX11_needRoomForWatch_10 : decode cX11_needRoomForWatch 10 = .ok (.new 106, 3) := by decide +kernel
theorem dX11_needRoomForWatch_13 : decode cX11_needRoomForWatch 13 = .ok (.dup, 1) := by decide +kernel
theorem dX11_needRoomForWatch_14 : decode cX11_needRoomForWatch 14 = .ok (.ldc_w 552, 3) := by decide +kernel
theorem dX11_needRoomForWatch_17 : decode cX11_needRoomForWatch 17 = .ok (.invokespecial 110, 3) := by decide +kernel
theorem dX11_needRoomForWatch_20 : decode cX11_needRoomForWatch 20 = .ok (.athrow, 1) := by decide +kernel
theorem dX11_needRoomForWatch_21 : decode cX11_needRoomForWatch 21 = .ok (.return_, 1) := by decide +kernel
theorem dX5_become_0 : decode cX5_become 0 = .ok (.aload_n 0, 1) := by decide +kernel
theorem dX5_become_1 : decode cX5_become 1 = .ok (.iload_n 1, 1) := by decide +kernel
theorem dX5_become_2 : decode cX5_become 2 = .ok (.putfield 9, 3) := by decide +kernel
theorem dX5_become_5 : decode cX5_become 5 = .ok (.aload_n 0, 1) := by decide +kernel
theorem dX5_become_6 : decode cX5_become 6 = .ok (.iload_n 2, 1) := by decide +kernel
theorem dX5_become_7 : decode cX5_become 7 = .ok (.putfield 15, 3) := by decide +kernel
theorem dX5_become_10 : decode cX5_become 10 = .ok (.aload_n 0, 1) := by decide +kernel
theorem dX5_become_11 : decode cX5_become 11 = .ok (.iload_n 3, 1) := by decide +kernel
theorem dX5_become_12 : decode cX5_become 12 = .ok (.putfield 19, 3) := by decide +kernel
theorem dX5_become_15 : decode cX5_become 15 = .ok (.return_, 1) := by decide +kernel
theorem dX11_endBy_0 : decode cX11_endBy 0 = .ok (.aload_n 0, 1) := by decide +kernel
theorem dX11_endBy_1 : decode cX11_endBy 1 = .ok (.iload_n 1, 1) := by decide +kernel
theorem dX11_endBy_2 : decode cX11_endBy 2 = .ok (.putfield 90, 3) := by decide +kernel
theorem dX11_endBy_5 : decode cX11_endBy 5 = .ok (.aload_n 0, 1) := by decide +kernel
theorem dX11_endBy_6 : decode cX11_endBy 6 = .ok (.iload_n 2, 1) := by decide +kernel
theorem dX11_endBy_7 : decode cX11_endBy 7 = .ok (.putfield 94, 3) := by decide +kernel
theorem dX11_endBy_10 : decode cX11_endBy 10 = .ok (.return_, 1) := by decide +kernel
theorem dX11_run_0 : decode cX11_run 0 = .ok (.iload_n 1, 1) := by decide +kernel
theorem dX11_run_1 : decode cX11_run 1 = .ok (.iconst 1, 1) := by decide +kernel
theorem dX11_run_2 : decode cX11_run 2 = .ok (.if_icmp .lt 10, 3) := by decide +kernel
theorem dX11_run_5 : decode cX11_run 5 = .ok (.iload_n 1, 1) := by decide +kernel
theorem dX11_run_6 : decode cX11_run 6 = .ok (.sipush 500, 3) := by decide +kernel
theorem dX11_run_9 : decode cX11_run 9 = .ok (.if_icmp .le 14, 3) := by decide +kernel
theorem dX11_run_12 : decode cX11_run 12 = .ok (.new 171, 3) := by decide +kernel
theorem dX11_run_15 : decode cX11_run 15 = .ok (.dup, 1) := by decide +kernel
theorem dX11_run_16 : decode cX11_run 16 = .ok (.ldc_w 408, 3) := by decide +kernel
theorem dX11_run_19 : decode cX11_run 19 = .ok (.invokespecial 175, 3) := by decide +kernel
theorem dX11_run_22 : decode cX11_run 22 = .ok (.athrow, 1) := by decide +kernel
theorem dX11_run_23 : decode cX11_run 23 = .ok (.aload_n 0, 1) := by decide +kernel
theorem dX11_run_24 : decode cX11_run 24 = .ok (.bipush 110, 2) := by decide +kernel
theorem dX11_run_26 : decode cX11_run 26 = .ok (.iconst (-1), 1) := by decide +kernel
theorem dX11_run_27 : decode cX11_run 27 = .ok (.invokevirtual 427, 3) := by decide +kernel
theorem dX11_run_30 : decode cX11_run 30 = .ok (.iconst 0, 1) := by decide +kernel
theorem dX11_run_31 : decode cX11_run 31 = .ok (.istore_n 2, 1) := by decide +kernel
theorem dX11_run_32 : decode cX11_run 32 = .ok (.iload_n 2, 1) := by decide +kernel
theorem dX11_run_33 : decode cX11_run 33 = .ok (.iload_n 1, 1) := by decide +kernel
theorem dX11_run_34 : decode cX11_run 34 = .ok (.if_icmp .ge 54, 3) := by decide +kernel
theorem dX11_run_37 : decode cX11_run 37 = .ok (.aload_n 0, 1) := by decide +kernel
theorem dX11_run_38 : decode cX11_run 38 = .ok (.invokevirtual 431, 3) := by decide +kernel
theorem dX11_run_41 : decode cX11_run 41 = .ok (.istore_n 3, 1) := by decide +kernel
theorem dX11_run_42 : decode cX11_run 42 = .ok (.iload_n 3, 1) := by decide +kernel
theorem dX11_run_43 : decode cX11_run 43 = .ok (.iconst (-1), 1) := by decide +kernel
theorem dX11_run_44 : decode cX11_run 44 = .ok (.if_icmp .ne 12, 3) := by decide +kernel
theorem dX11_run_47 : decode cX11_run 47 = .ok (.aload_n 0, 1) := by decide +kernel
theorem dX11_run_48 : decode cX11_run 48 = .ok (.bipush 100, 2) := by decide +kernel
theorem dX11_run_50 : decode cX11_run 50 = .ok (.iconst (-1), 1) := by decide +kernel
theorem dX11_run_51 : decode cX11_run 51 = .ok (.invokevirtual 427, 3) := by decide +kernel
theorem dX11_run_54 : decode cX11_run 54 = .ok (.iload_n 2, 1) := by decide +kernel
theorem dX11_run_55 : decode cX11_run 55 = .ok (.ireturn, 1) := by decide +kernel
theorem dX11_run_56 : decode cX11_run 56 = .ok (.aload_n 0, 1) := by decide +kernel
theorem dX11_run_57 : decode cX11_run 57 = .ok (.iload_n 3, 1) := by decide +kernel
theorem dX11_run_58 : decode cX11_run 58 = .ok (.invokevirtual 434, 3) := by decide +kernel
theorem dX11_run_61 : decode cX11_run 61 = .ok (.ifCond .eq 5, 3) := by decide +kernel
theorem dX11_run_64 : decode cX11_run 64 = .ok (.iload_n 2, 1) := by decide +kernel
theorem dX11_run_65 : decode cX11_run 65 = .ok (.ireturn, 1) := by decide +kernel
theorem dX11_run_66 : decode cX11_run 66 = .ok (.aload_n 0, 1) := by decide +kernel
theorem dX11_run_67 : decode cX11_run 67 = .ok (.iload_n 3, 1) := by decide +kernel
theorem dX11_run_68 : decode cX11_run 68 = .ok (.invokevirtual 437, 3) := by decide +kernel
theorem dX11_run_71 : decode cX11_run 71 = .ok (.aload_n 0, 1) := by decide +kernel
theorem dX11_run_72 : decode cX11_run 72 = .ok (.invokevirtual 440, 3) := by decide +kernel
theorem dX11_run_75 : decode cX11_run 75 = .ok (.ifCond .eq 7, 3) := by decide +kernel
theorem dX11_run_78 : decode cX11_run 78 = .ok (.iload_n 2, 1) := by decide +kernel
theorem dX11_run_79 : decode cX11_run 79 = .ok (.iconst 1, 1) := by decide +kernel
theorem dX11_run_80 : decode cX11_run 80 = .ok (.iadd, 1) := by decide +kernel
theorem dX11_run_81 : decode cX11_run 81 = .ok (.ireturn, 1) := by decide +kernel
theorem dX11_run_82 : decode cX11_run 82 = .ok (.iinc 2 1, 3) := by decide +kernel
theorem dX11_run_85 : decode cX11_run 85 = .ok (.goto (-53), 3) := by decide +kernel
theorem dX11_run_88 : decode cX11_run 88 = .ok (.iload_n 1, 1) := by decide +kernel
theorem dX11_run_89 : decode cX11_run 89 = .ok (.ireturn, 1) := by decide +kernel
theorem dX11_back_0 : decode cX11_back 0 = .ok (.iload_n 1, 1) := by decide +kernel
theorem dX11_back_1 : decode cX11_back 1 = .ok (.iconst 1, 1) := by decide +kernel
theorem dX11_back_2 : decode cX11_back 2 = .ok (.if_icmp .lt 10, 3) := by decide +kernel
theorem dX11_back_5 : decode cX11_back 5 = .ok (.iload_n 1, 1) := by decide +kernel
theorem dX11_back_6 : decode cX11_back 6 = .ok (.sipush 1000, 3) := by decide +kernel
theorem dX11_back_9 : decode cX11_back 9 = .ok (.if_icmp .le 14, 3) := by decide +kernel
theorem dX11_back_12 : decode cX11_back 12 = .ok (.new 171, 3) := by decide +kernel
theorem dX11_back_15 : decode cX11_back 15 = .ok (.dup, 1) := by decide +kernel
theorem dX11_back_16 : decode cX11_back 16 = .ok (.ldc_w 408, 3) := by decide +kernel
theorem dX11_back_19 : decode cX11_back 19 = .ok (.invokespecial 175, 3) := by decide +kernel
theorem dX11_back_22 : decode cX11_back 22 = .ok (.athrow, 1) := by decide +kernel
theorem dX11_back_23 : decode cX11_back 23 = .ok (.iload_n 1, 1) := by decide +kernel
theorem dX11_back_24 : decode cX11_back 24 = .ok (.aload_n 0, 1) := by decide +kernel
theorem dX11_back_25 : decode cX11_back 25 = .ok (.getfield 54, 3) := by decide +kernel
theorem dX11_back_28 : decode cX11_back 28 = .ok (.getfield 466, 3) := by decide +kernel
theorem dX11_back_31 : decode cX11_back 31 = .ok (.if_icmp .le 14, 3) := by decide +kernel
theorem dX11_back_34 : decode cX11_back 34 = .ok (.new 156, 3) := by decide +kernel
theorem dX11_back_37 : decode cX11_back 37 = .ok (.dup, 1) := by decide +kernel
theorem dX11_back_38 : decode cX11_back 38 = .ok (.ldc_w 467, 3) := by decide +kernel
theorem dX11_back_41 : decode cX11_back 41 = .ok (.invokespecial 160, 3) := by decide +kernel
theorem dX11_back_44 : decode cX11_back 44 = .ok (.athrow, 1) := by decide +kernel
theorem dX11_back_45 : decode cX11_back 45 = .ok (.aload_n 0, 1) := by decide +kernel
theorem dX11_back_46 : decode cX11_back 46 = .ok (.iload_n 1, 1) := by decide +kernel
theorem dX11_back_47 : decode cX11_back 47 = .ok (.invokevirtual 469, 3) := by decide +kernel
theorem dX11_back_50 : decode cX11_back 50 = .ok (.aload_n 0, 1) := by decide +kernel
theorem dX11_back_51 : decode cX11_back 51 = .ok (.getfield 44, 3) := by decide +kernel
theorem dX11_back_54 : decode cX11_back 54 = .ok (.getfield 306, 3) := by decide +kernel
theorem dX11_back_57 : decode cX11_back 57 = .ok (.ireturn, 1) := by decide +kernel
theorem dX11_doneShare_0 : decode cX11_doneShare 0 = .ok (.aload_n 0, 1) := by decide +kernel
theorem dX11_doneShare_1 : decode cX11_doneShare 1 = .ok (.getfield 44, 3) := by decide +kernel
theorem dX11_doneShare_4 : decode cX11_doneShare 4 = .ok (.getfield 499, 3) := by decide +kernel
theorem dX11_doneShare_7 : decode cX11_doneShare 7 = .ok (.i2f, 1) := by decide +kernel
theorem dX11_doneShare_8 : decode cX11_doneShare 8 = .ok (.fstore_n 1, 1) := by decide +kernel
theorem dX11_doneShare_9 : decode cX11_doneShare 9 = .ok (.fload_n 1, 1) := by decide +kernel
theorem dX11_doneShare_10 : decode cX11_doneShare 10 = .ok (.fconst 0, 1) := by decide +kernel
theorem dX11_doneShare_11 : decode cX11_doneShare 11 = .ok (.fcmp .l, 1) := by decide +kernel
theorem dX11_doneShare_12 : decode cX11_doneShare 12 = .ok (.ifCond .ne 14, 3) := by decide +kernel
theorem dX11_doneShare_15 : decode cX11_doneShare 15 = .ok (.new 500, 3) := by decide +kernel
theorem dX11_doneShare_18 : decode cX11_doneShare 18 = .ok (.dup, 1) := by decide +kernel
theorem dX11_doneShare_19 : decode cX11_doneShare 19 = .ok (.ldc_w 502, 3) := by decide +kernel
theorem dX11_doneShare_22 : decode cX11_doneShare 22 = .ok (.invokespecial 504, 3) := by decide +kernel
theorem dX11_doneShare_25 : decode cX11_doneShare 25 = .ok (.athrow, 1) := by decide +kernel
theorem dX11_doneShare_26 : decode cX11_doneShare 26 = .ok (.aload_n 0, 1) := by decide +kernel
theorem dX11_doneShare_27 : decode cX11_doneShare 27 = .ok (.getfield 44, 3) := by decide +kernel
theorem dX11_doneShare_30 : decode cX11_doneShare 30 = .ok (.invokevirtual 505, 3) := by decide +kernel
theorem dX11_doneShare_33 : decode cX11_doneShare 33 = .ok (.i2f, 1) := by decide +kernel
theorem dX11_doneShare_34 : decode cX11_doneShare 34 = .ok (.fload_n 1, 1) := by decide +kernel
theorem dX11_doneShare_35 : decode cX11_doneShare 35 = .ok (.fdiv, 1) := by decide +kernel
theorem dX11_doneShare_36 : decode cX11_doneShare 36 = .ok (.freturn, 1) := by decide +kernel
theorem dX11_meanStack_0 : decode cX11_meanStack 0 = .ok (.aload_n 0, 1) := by decide +kernel
theorem dX11_meanStack_1 : decode cX11_meanStack 1 = .ok (.getfield 44, 3) := by decide +kernel
theorem dX11_meanStack_4 : decode cX11_meanStack 4 = .ok (.getfield 499, 3) := by decide +kernel
theorem dX11_meanStack_7 : decode cX11_meanStack 7 = .ok (.i2d, 1) := by decide +kernel
theorem dX11_meanStack_8 : decode cX11_meanStack 8 = .ok (.dstore_n 1, 1) := by decide +kernel
theorem dX11_meanStack_9 : decode cX11_meanStack 9 = .ok (.dload_n 1, 1) := by decide +kernel
theorem dX11_meanStack_10 : decode cX11_meanStack 10 = .ok (.dconst 0, 1) := by decide +kernel
theorem dX11_meanStack_11 : decode cX11_meanStack 11 = .ok (.dcmp .l, 1) := by decide +kernel
theorem dX11_meanStack_12 : decode cX11_meanStack 12 = .ok (.ifCond .ne 14, 3) := by decide +kernel
theorem dX11_meanStack_15 : decode cX11_meanStack 15 = .ok (.new 500, 3) := by decide +kernel
theorem dX11_meanStack_18 : decode cX11_meanStack 18 = .ok (.dup, 1) := by decide +kernel
theorem dX11_meanStack_19 : decode cX11_meanStack 19 = .ok (.ldc_w 502, 3) := by decide +kernel
theorem dX11_meanStack_22 : decode cX11_meanStack 22 = .ok (.invokespecial 504, 3) := by decide +kernel
theorem dX11_meanStack_25 : decode cX11_meanStack 25 = .ok (.athrow, 1) := by decide +kernel
theorem dX11_meanStack_26 : decode cX11_meanStack 26 = .ok (.aload_n 0, 1) := by decide +kernel
theorem dX11_meanStack_27 : decode cX11_meanStack 27 = .ok (.getfield 44, 3) := by decide +kernel
theorem dX11_meanStack_30 : decode cX11_meanStack 30 = .ok (.invokevirtual 508, 3) := by decide +kernel
theorem dX11_meanStack_33 : decode cX11_meanStack 33 = .ok (.i2d, 1) := by decide +kernel
theorem dX11_meanStack_34 : decode cX11_meanStack 34 = .ok (.dload_n 1, 1) := by decide +kernel
theorem dX11_meanStack_35 : decode cX11_meanStack 35 = .ok (.ddiv, 1) := by decide +kernel
theorem dX11_meanStack_36 : decode cX11_meanStack 36 = .ok (.dreturn, 1) := by decide +kernel
