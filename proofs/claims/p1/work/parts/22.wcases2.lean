theorem HD_yX11_time : yX11_time.cls ≠ "java/lang/invoke/MethodHandle" ∧ yX11_time.cls ≠ "java/lang/invoke/VarHandle" ∧ (parseMethodDescriptor yX11_time.desc).map (fun d => d.parameters.length) = some 0 := by decide +kernel
theorem K567 : (Cond.code yX11_time cX11_time 1 (some .int)) ∈ ALL := mAC ch_t3 (i := 11) (by decide +kernel) rfl
theorem K564 : (Cond.methodLink RL 220 yX11_time) ∈ ALL := mAC ch_t3 (i := 8) (by decide +kernel) rfl
theorem K565 : (Cond.instanceMethod yX11_time) ∈ ALL := mAC ch_t3 (i := 9) (by decide +kernel) rfl
theorem K566 : (Cond.selects RX11 yX11_time yX11_time) ∈ ALL := mAC ch_t3 (i := 10) (by decide +kernel) rfl
theorem GV_RL_220 : GoodIn ALL (wsV RL 220 RX11 yX11_time (Cond.code yX11_time cX11_time 1 (some .int) :: ALL)) := gV K564 K565 K566 K77 K567
theorem HD_yX15_time : yX15_time.cls ≠ "java/lang/invoke/MethodHandle" ∧ yX15_time.cls ≠ "java/lang/invoke/VarHandle" ∧ (parseMethodDescriptor yX15_time.desc).map (fun d => d.parameters.length) = some 0 := by decide +kernel
theorem K2537 : (Cond.code yX15_time cX15_time 1 (some .int)) ∈ ALL := mAC ch_t11 (i := 61) (by decide +kernel) rfl
theorem K2534 : (Cond.methodLink RL 223 yX15_time) ∈ ALL := mAC ch_t11 (i := 58) (by decide +kernel) rfl
theorem K2535 : (Cond.instanceMethod yX15_time) ∈ ALL := mAC ch_t11 (i := 59) (by decide +kernel) rfl
theorem K2536 : (Cond.selects RX15 yX15_time yX15_time) ∈ ALL := mAC ch_t11 (i := 60) (by decide +kernel) rfl
theorem GV_RL_223 : GoodIn ALL (wsV RL 223 RX15 yX15_time (Cond.code yX15_time cX15_time 1 (some .int) :: ALL)) := gV K2534 K2535 K2536 K94 K2537
theorem HD_yL_frames : yL_frames.cls ≠ "java/lang/invoke/MethodHandle" ∧ yL_frames.cls ≠ "java/lang/invoke/VarHandle" ∧ (parseMethodDescriptor yL_frames.desc).map (fun d => d.parameters.length) = some 3 := by decide +kernel
theorem K1205 : (Cond.codeWith yL_frames cL_frames 4 (some .int) [(0, 9, 12, 21)]) ∈ ALL := mAC ch_t5 (i := 169) (by decide +kernel) rfl
theorem K1203 : (Cond.methodLink RL 224 yL_frames) ∈ ALL := mAC ch_t5 (i := 167) (by decide +kernel) rfl
theorem K1204 : (Cond.static yL_frames) ∈ ALL := mAC ch_t5 (i := 168) (by decide +kernel) rfl
theorem GS_RL_224 : GoodIn ALL (va_wsS RL 224 yL_frames (Cond.codeWith yL_frames cL_frames 4 (some .int) [(0, 9, 12, 21)] :: ALL)) := gS K1203 K1204 K76 K1205
theorem HD_yX15_frames : yX15_frames.cls ≠ "java/lang/invoke/MethodHandle" ∧ yX15_frames.cls ≠ "java/lang/invoke/VarHandle" ∧ (parseMethodDescriptor yX15_frames.desc).map (fun d => d.parameters.length) = some 1 := by decide +kernel
theorem K2541 : (Cond.code yX15_frames cX15_frames 2 (some .int)) ∈ ALL := mAC ch_t11 (i := 65) (by decide +kernel) rfl
theorem K2538 : (Cond.methodLink RL 226 yX15_frames) ∈ ALL := mAC ch_t11 (i := 62) (by decide +kernel) rfl
theorem K2539 : (Cond.instanceMethod yX15_frames) ∈ ALL := mAC ch_t11 (i := 63) (by decide +kernel) rfl
theorem K2540 : (Cond.selects RX15 yX15_frames yX15_frames) ∈ ALL := mAC ch_t11 (i := 64) (by decide +kernel) rfl
theorem GV_RL_226 : GoodIn ALL (wsV RL 226 RX15 yX15_frames (Cond.code yX15_frames cX15_frames 2 (some .int) :: ALL)) := gV K2538 K2539 K2540 K94 K2541
theorem HD_yL_frame : yL_frame.cls ≠ "java/lang/invoke/MethodHandle" ∧ yL_frame.cls ≠ "java/lang/invoke/VarHandle" ∧ (parseMethodDescriptor yL_frame.desc).map (fun d => d.parameters.length) = some 5 := by decide +kernel
theorem K1230 : (Cond.codeWith yL_frame cL_frame 6 (some .int) [(0, 12, 15, 21), (0, 12, 19, 13)]) ∈ ALL := mAC ch_t5 (i := 194) (by decide +kernel) rfl
theorem K1228 : (Cond.methodLink RL 227 yL_frame) ∈ ALL := mAC ch_t5 (i := 192) (by decide +kernel) rfl
theorem K1229 : (Cond.static yL_frame) ∈ ALL := mAC ch_t5 (i := 193) (by decide +kernel) rfl
theorem GS_RL_227 : GoodIn ALL (va_wsS RL 227 yL_frame (Cond.codeWith yL_frame cL_frame 6 (some .int) [(0, 12, 15, 21), (0, 12, 19, 13)] :: ALL)) := gS K1228 K1229 K76 K1230
theorem HD_yX15_frame : yX15_frame.cls ≠ "java/lang/invoke/MethodHandle" ∧ yX15_frame.cls ≠ "java/lang/invoke/VarHandle" ∧ (parseMethodDescriptor yX15_frame.desc).map (fun d => d.parameters.length) = some 3 := by decide +kernel
theorem K2565 : (Cond.code yX15_frame cX15_frame 5 (some .int)) ∈ ALL := mAC ch_t11 (i := 89) (by decide +kernel) rfl
theorem K2562 : (Cond.methodLink RL 230 yX15_frame) ∈ ALL := mAC ch_t11 (i := 86) (by decide +kernel) rfl
theorem K2563 : (Cond.instanceMethod yX15_frame) ∈ ALL := mAC ch_t11 (i := 87) (by decide +kernel) rfl
theorem K2564 : (Cond.selects RX15 yX15_frame yX15_frame) ∈ ALL := mAC ch_t11 (i := 88) (by decide +kernel) rfl
theorem GV_RL_230 : GoodIn ALL (wsV RL 230 RX15 yX15_frame (Cond.code yX15_frame cX15_frame 5 (some .int) :: ALL)) := gV K2562 K2563 K2564 K94 K2565
theorem HD_yL_see : yL_see.cls ≠ "java/lang/invoke/MethodHandle" ∧ yL_see.cls ≠ "java/lang/invoke/VarHandle" ∧ (parseMethodDescriptor yL_see.desc).map (fun d => d.parameters.length) = some 5 := by decide +kernel
theorem K1269 : (Cond.codeWith yL_see cL_see 6 (some .int) [(0, 12, 15, 21), (0, 12, 19, 13)]) ∈ ALL := mAC ch_t5 (i := 233) (by decide +kernel) rfl
theorem K1267 : (Cond.methodLink RL 231 yL_see) ∈ ALL := mAC ch_t5 (i := 231) (by decide +kernel) rfl
theorem K1268 : (Cond.static yL_see) ∈ ALL := mAC ch_t5 (i := 232) (by decide +kernel) rfl
theorem GS_RL_231 : GoodIn ALL (va_wsS RL 231 yL_see (Cond.codeWith yL_see cL_see 6 (some .int) [(0, 12, 15, 21), (0, 12, 19, 13)] :: ALL)) := gS K1267 K1268 K76 K1269
theorem HD_yX15_see : yX15_see.cls ≠ "java/lang/invoke/MethodHandle" ∧ yX15_see.cls ≠ "java/lang/invoke/VarHandle" ∧ (parseMethodDescriptor yX15_see.desc).map (fun d => d.parameters.length) = some 3 := by decide +kernel
theorem K2578 : (Cond.code yX15_see cX15_see 6 (some .char)) ∈ ALL := mAC ch_t11 (i := 102) (by decide +kernel) rfl
theorem K2575 : (Cond.methodLink RL 233 yX15_see) ∈ ALL := mAC ch_t11 (i := 99) (by decide +kernel) rfl
theorem K2576 : (Cond.instanceMethod yX15_see) ∈ ALL := mAC ch_t11 (i := 100) (by decide +kernel) rfl
theorem K2577 : (Cond.selects RX15 yX15_see yX15_see) ∈ ALL := mAC ch_t11 (i := 101) (by decide +kernel) rfl
theorem GV_RL_233 : GoodIn ALL (wsV RL 233 RX15 yX15_see (Cond.code yX15_see cX15_see 6 (some .char) :: ALL)) := gV K2575 K2576 K2577 K94 K2578
theorem HD_yL_value : yL_value.cls ≠ "java/lang/invoke/MethodHandle" ∧ yL_value.cls ≠ "java/lang/invoke/VarHandle" ∧ (parseMethodDescriptor yL_value.desc).map (fun d => d.parameters.length) = some 6 := by decide +kernel
theorem K1320 : (Cond.codeWith yL_value cL_value 7 (some .int) [(0, 14, 17, 21), (0, 14, 21, 13), (0, 14, 25, 62)]) ∈ ALL := mAC ch_t6 (i := 44) (by decide +kernel) rfl
theorem K1318 : (Cond.methodLink RL 234 yL_value) ∈ ALL := mAC ch_t6 (i := 42) (by decide +kernel) rfl
theorem K1319 : (Cond.static yL_value) ∈ ALL := mAC ch_t6 (i := 43) (by decide +kernel) rfl
theorem GS_RL_234 : GoodIn ALL (va_wsS RL 234 yL_value (Cond.codeWith yL_value cL_value 7 (some .int) [(0, 14, 17, 21), (0, 14, 21, 13), (0, 14, 25, 62)] :: ALL)) := gS K1318 K1319 K76 K1320
theorem HD_yX15_value : yX15_value.cls ≠ "java/lang/invoke/MethodHandle" ∧ yX15_value.cls ≠ "java/lang/invoke/VarHandle" ∧ (parseMethodDescriptor yX15_value.desc).map (fun d => d.parameters.length) = some 4 := by decide +kernel
theorem K2594 : (Cond.code yX15_value cX15_value 7 (some .int)) ∈ ALL := mAC ch_t11 (i := 118) (by decide +kernel) rfl
theorem K2591 : (Cond.methodLink RL 237 yX15_value) ∈ ALL := mAC ch_t11 (i := 115) (by decide +kernel) rfl
theorem K2592 : (Cond.instanceMethod yX15_value) ∈ ALL := mAC ch_t11 (i := 116) (by decide +kernel) rfl
theorem K2593 : (Cond.selects RX15 yX15_value yX15_value) ∈ ALL := mAC ch_t11 (i := 117) (by decide +kernel) rfl
theorem GV_RL_237 : GoodIn ALL (wsV RL 237 RX15 yX15_value (Cond.code yX15_value cX15_value 7 (some .int) :: ALL)) := gV K2591 K2592 K2593 K94 K2594
theorem HD_yL_show : yL_show.cls ≠ "java/lang/invoke/MethodHandle" ∧ yL_show.cls ≠ "java/lang/invoke/VarHandle" ∧ (parseMethodDescriptor yL_show.desc).map (fun d => d.parameters.length) = some 5 := by decide +kernel
theorem K1339 : (Cond.codeWith yL_show cL_show 6 (some .int) [(0, 12, 15, 21), (0, 12, 19, 13), (0, 12, 23, 62)]) ∈ ALL := mAC ch_t6 (i := 63) (by decide +kernel) rfl
theorem K1337 : (Cond.methodLink RL 238 yL_show) ∈ ALL := mAC ch_t6 (i := 61) (by decide +kernel) rfl
theorem K1338 : (Cond.static yL_show) ∈ ALL := mAC ch_t6 (i := 62) (by decide +kernel) rfl
theorem GS_RL_238 : GoodIn ALL (va_wsS RL 238 yL_show (Cond.codeWith yL_show cL_show 6 (some .int) [(0, 12, 15, 21), (0, 12, 19, 13), (0, 12, 23, 62)] :: ALL)) := gS K1337 K1338 K76 K1339
theorem HD_yX15_show : yX15_show.cls ≠ "java/lang/invoke/MethodHandle" ∧ yX15_show.cls ≠ "java/lang/invoke/VarHandle" ∧ (parseMethodDescriptor yX15_show.desc).map (fun d => d.parameters.length) = some 3 := by decide +kernel
theorem K2603 : (Cond.code yX15_show cX15_show 10 (some .int)) ∈ ALL := mAC ch_t11 (i := 127) (by decide +kernel) rfl
theorem K2600 : (Cond.methodLink RL 240 yX15_show) ∈ ALL := mAC ch_t11 (i := 124) (by decide +kernel) rfl
theorem K2601 : (Cond.instanceMethod yX15_show) ∈ ALL := mAC ch_t11 (i := 125) (by decide +kernel) rfl
theorem K2602 : (Cond.selects RX15 yX15_show yX15_show) ∈ ALL := mAC ch_t11 (i := 126) (by decide +kernel) rfl
theorem GV_RL_240 : GoodIn ALL (wsV RL 240 RX15 yX15_show (Cond.code yX15_show cX15_show 10 (some .int) :: ALL)) := gV K2600 K2601 K2602 K94 K2603
theorem HD_yL_shown : yL_shown.cls ≠ "java/lang/invoke/MethodHandle" ∧ yL_shown.cls ≠ "java/lang/invoke/VarHandle" ∧ (parseMethodDescriptor yL_shown.desc).map (fun d => d.parameters.length) = some 3 := by decide +kernel
theorem K1640 : (Cond.codeWith yL_shown cL_shown 4 (some .int) [(0, 9, 12, 21)]) ∈ ALL := mAC ch_t7 (i := 124) (by decide +kernel) rfl
theorem K1638 : (Cond.methodLink RL 241 yL_shown) ∈ ALL := mAC ch_t7 (i := 122) (by decide +kernel) rfl
theorem K1639 : (Cond.static yL_shown) ∈ ALL := mAC ch_t7 (i := 123) (by decide +kernel) rfl
theorem GS_RL_241 : GoodIn ALL (va_wsS RL 241 yL_shown (Cond.codeWith yL_shown cL_shown 4 (some .int) [(0, 9, 12, 21)] :: ALL)) := gS K1638 K1639 K76 K1640
theorem HD_yX15_shown : yX15_shown.cls ≠ "java/lang/invoke/MethodHandle" ∧ yX15_shown.cls ≠ "java/lang/invoke/VarHandle" ∧ (parseMethodDescriptor yX15_shown.desc).map (fun d => d.parameters.length) = some 1 := by decide +kernel
theorem K2626 : (Cond.code yX15_shown cX15_shown 2 (some .char)) ∈ ALL := mAC ch_t11 (i := 150) (by decide +kernel) rfl
theorem K2623 : (Cond.methodLink RL 243 yX15_shown) ∈ ALL := mAC ch_t11 (i := 147) (by decide +kernel) rfl
theorem K2624 : (Cond.instanceMethod yX15_shown) ∈ ALL := mAC ch_t11 (i := 148) (by decide +kernel) rfl
theorem K2625 : (Cond.selects RX15 yX15_shown yX15_shown) ∈ ALL := mAC ch_t11 (i := 149) (by decide +kernel) rfl
theorem GV_RL_243 : GoodIn ALL (wsV RL 243 RX15 yX15_shown (Cond.code yX15_shown cX15_shown 2 (some .char) :: ALL)) := gV K2623 K2624 K2625 K94 K2626
theorem HD_yL_stop : yL_stop.cls ≠ "java/lang/invoke/MethodHandle" ∧ yL_stop.cls ≠ "java/lang/invoke/VarHandle" ∧ (parseMethodDescriptor yL_stop.desc).map (fun d => d.parameters.length) = some 3 := by decide +kernel
theorem K1658 : (Cond.codeWith yL_stop cL_stop 4 (some .int) [(0, 9, 12, 21), (0, 9, 15, 15)]) ∈ ALL := mAC ch_t7 (i := 142) (by decide +kernel) rfl
theorem K1656 : (Cond.methodLink RL 244 yL_stop) ∈ ALL := mAC ch_t7 (i := 140) (by decide +kernel) rfl
theorem K1657 : (Cond.static yL_stop) ∈ ALL := mAC ch_t7 (i := 141) (by decide +kernel) rfl
theorem GS_RL_244 : GoodIn ALL (va_wsS RL 244 yL_stop (Cond.codeWith yL_stop cL_stop 4 (some .int) [(0, 9, 12, 21), (0, 9, 15, 15)] :: ALL)) := gS K1656 K1657 K76 K1658
theorem HD_yX15_stop : yX15_stop.cls ≠ "java/lang/invoke/MethodHandle" ∧ yX15_stop.cls ≠ "java/lang/invoke/VarHandle" ∧ (parseMethodDescriptor yX15_stop.desc).map (fun d => d.parameters.length) = some 1 := by decide +kernel
theorem K2641 : (Cond.code yX15_stop cX15_stop 3 (some .int)) ∈ ALL := mAC ch_t11 (i := 165) (by decide +kernel) rfl
theorem K2638 : (Cond.methodLink RL 246 yX15_stop) ∈ ALL := mAC ch_t11 (i := 162) (by decide +kernel) rfl
theorem K2639 : (Cond.instanceMethod yX15_stop) ∈ ALL := mAC ch_t11 (i := 163) (by decide +kernel) rfl
theorem K2640 : (Cond.selects RX15 yX15_stop yX15_stop) ∈ ALL := mAC ch_t11 (i := 164) (by decide +kernel) rfl
theorem GV_RL_246 : GoodIn ALL (wsV RL 246 RX15 yX15_stop (Cond.code yX15_stop cX15_stop 3 (some .int) :: ALL)) := gV K2638 K2639 K2640 K94 K2641
theorem HD_yL_stopLine : yL_stopLine.cls ≠ "java/lang/invoke/MethodHandle" ∧ yL_stopLine.cls ≠ "java/lang/invoke/VarHandle" ∧ (parseMethodDescriptor yL_stopLine.desc).map (fun d => d.parameters.length) = some 3 := by decide +kernel
theorem K1679 : (Cond.codeWith yL_stopLine cL_stopLine 4 (some .int) [(0, 9, 12, 62), (0, 9, 15, 15)]) ∈ ALL := mAC ch_t7 (i := 163) (by decide +kernel) rfl
theorem K1677 : (Cond.methodLink RL 247 yL_stopLine) ∈ ALL := mAC ch_t7 (i := 161) (by decide +kernel) rfl
theorem K1678 : (Cond.static yL_stopLine) ∈ ALL := mAC ch_t7 (i := 162) (by decide +kernel) rfl
theorem GS_RL_247 : GoodIn ALL (va_wsS RL 247 yL_stopLine (Cond.codeWith yL_stopLine cL_stopLine 4 (some .int) [(0, 9, 12, 62), (0, 9, 15, 15)] :: ALL)) := gS K1677 K1678 K76 K1679
theorem HD_yX15_stopLine : yX15_stopLine.cls ≠ "java/lang/invoke/MethodHandle" ∧ yX15_stopLine.cls ≠ "java/lang/invoke/VarHandle" ∧ (parseMethodDescriptor yX15_stopLine.desc).map (fun d => d.parameters.length) = some 1 := by decide +kernel
theorem K2680 : (Cond.code yX15_stopLine cX15_stopLine 5 (some .int)) ∈ ALL := mAC ch_t11 (i := 204) (by decide +kernel) rfl
theorem K2677 : (Cond.methodLink RL 249 yX15_stopLine) ∈ ALL := mAC ch_t11 (i := 201) (by decide +kernel) rfl
theorem K2678 : (Cond.instanceMethod yX15_stopLine) ∈ ALL := mAC ch_t11 (i := 202) (by decide +kernel) rfl
theorem K2679 : (Cond.selects RX15 yX15_stopLine yX15_stopLine) ∈ ALL := mAC ch_t11 (i := 203) (by decide +kernel) rfl
theorem GV_RL_249 : GoodIn ALL (wsV RL 249 RX15 yX15_stopLine (Cond.code yX15_stopLine cX15_stopLine 5 (some .int) :: ALL)) := gV K2677 K2678 K2679 K94 K2680
theorem HD_yL_stopIn : yL_stopIn.cls ≠ "java/lang/invoke/MethodHandle" ∧ yL_stopIn.cls ≠ "java/lang/invoke/VarHandle" ∧ (parseMethodDescriptor yL_stopIn.desc).map (fun d => d.parameters.length) = some 3 := by decide +kernel
theorem K1700 : (Cond.codeWith yL_stopIn cL_stopIn 4 (some .int) [(0, 9, 12, 21), (0, 9, 15, 15)]) ∈ ALL := mAC ch_t7 (i := 184) (by decide +kernel) rfl
theorem K1698 : (Cond.methodLink RL 250 yL_stopIn) ∈ ALL := mAC ch_t7 (i := 182) (by decide +kernel) rfl
theorem K1699 : (Cond.static yL_stopIn) ∈ ALL := mAC ch_t7 (i := 183) (by decide +kernel) rfl
theorem GS_RL_250 : GoodIn ALL (va_wsS RL 250 yL_stopIn (Cond.codeWith yL_stopIn cL_stopIn 4 (some .int) [(0, 9, 12, 21), (0, 9, 15, 15)] :: ALL)) := gS K1698 K1699 K76 K1700
theorem HD_yX15_stopIn : yX15_stopIn.cls ≠ "java/lang/invoke/MethodHandle" ∧ yX15_stopIn.cls ≠ "java/lang/invoke/VarHandle" ∧ (parseMethodDescriptor yX15_stopIn.desc).map (fun d => d.parameters.length) = some 1 := by decide +kernel
theorem K2688 : (Cond.code yX15_stopIn cX15_stopIn 5 (some .int)) ∈ ALL := mAC ch_t11 (i := 212) (by decide +kernel) rfl
theorem K2685 : (Cond.methodLink RL 252 yX15_stopIn) ∈ ALL := mAC ch_t11 (i := 209) (by decide +kernel) rfl
theorem K2686 : (Cond.instanceMethod yX15_stopIn) ∈ ALL := mAC ch_t11 (i := 210) (by decide +kernel) rfl
theorem K2687 : (Cond.selects RX15 yX15_stopIn yX15_stopIn) ∈ ALL := mAC ch_t11 (i := 211) (by decide +kernel) rfl
theorem GV_RL_252 : GoodIn ALL (wsV RL 252 RX15 yX15_stopIn (Cond.code yX15_stopIn cX15_stopIn 5 (some .int) :: ALL)) := gV K2685 K2686 K2687 K94 K2688
theorem HD_yL_when : yL_when.cls ≠ "java/lang/invoke/MethodHandle" ∧ yL_when.cls ≠ "java/lang/invoke/VarHandle" ∧ (parseMethodDescriptor yL_when.desc).map (fun d => d.parameters.length) = some 6 := by decide +kernel
theorem K1713 : (Cond.codeWith yL_when cL_when 7 (some .int) [(0, 14, 17, 21), (0, 14, 21, 13)]) ∈ ALL := mAC ch_t7 (i := 197) (by decide +kernel) rfl
theorem K1711 : (Cond.methodLink RL 253 yL_when) ∈ ALL := mAC ch_t7 (i := 195) (by decide +kernel) rfl
theorem K1712 : (Cond.static yL_when) ∈ ALL := mAC ch_t7 (i := 196) (by decide +kernel) rfl
theorem GS_RL_253 : GoodIn ALL (va_wsS RL 253 yL_when (Cond.codeWith yL_when cL_when 7 (some .int) [(0, 14, 17, 21), (0, 14, 21, 13)] :: ALL)) := gS K1711 K1712 K76 K1713
theorem HD_yX15_when : yX15_when.cls ≠ "java/lang/invoke/MethodHandle" ∧ yX15_when.cls ≠ "java/lang/invoke/VarHandle" ∧ (parseMethodDescriptor yX15_when.desc).map (fun d => d.parameters.length) = some 4 := by decide +kernel
theorem K2692 : (Cond.code yX15_when cX15_when 6 (some .int)) ∈ ALL := mAC ch_t11 (i := 216) (by decide +kernel) rfl
theorem K2689 : (Cond.methodLink RL 255 yX15_when) ∈ ALL := mAC ch_t11 (i := 213) (by decide +kernel) rfl
theorem K2690 : (Cond.instanceMethod yX15_when) ∈ ALL := mAC ch_t11 (i := 214) (by decide +kernel) rfl
theorem K2691 : (Cond.selects RX15 yX15_when yX15_when) ∈ ALL := mAC ch_t11 (i := 215) (by decide +kernel) rfl
theorem GV_RL_255 : GoodIn ALL (wsV RL 255 RX15 yX15_when (Cond.code yX15_when cX15_when 6 (some .int) :: ALL)) := gV K2689 K2690 K2691 K94 K2692
theorem HD_yL_pass : yL_pass.cls ≠ "java/lang/invoke/MethodHandle" ∧ yL_pass.cls ≠ "java/lang/invoke/VarHandle" ∧ (parseMethodDescriptor yL_pass.desc).map (fun d => d.parameters.length) = some 4 := by decide +kernel
theorem K1739 : (Cond.codeWith yL_pass cL_pass 5 (some .int) [(0, 10, 13, 21), (0, 10, 17, 13)]) ∈ ALL := mAC ch_t7 (i := 223) (by decide +kernel) rfl
theorem K1737 : (Cond.methodLink RL 256 yL_pass) ∈ ALL := mAC ch_t7 (i := 221) (by decide +kernel) rfl
theorem K1738 : (Cond.static yL_pass) ∈ ALL := mAC ch_t7 (i := 222) (by decide +kernel) rfl
theorem GS_RL_256 : GoodIn ALL (va_wsS RL 256 yL_pass (Cond.codeWith yL_pass cL_pass 5 (some .int) [(0, 10, 13, 21), (0, 10, 17, 13)] :: ALL)) := gS K1737 K1738 K76 K1739
theorem HD_yX15_pass : yX15_pass.cls ≠ "java/lang/invoke/MethodHandle" ∧ yX15_pass.cls ≠ "java/lang/invoke/VarHandle" ∧ (parseMethodDescriptor yX15_pass.desc).map (fun d => d.parameters.length) = some 2 := by decide +kernel
theorem K2701 : (Cond.code yX15_pass cX15_pass 4 (some .int)) ∈ ALL := mAC ch_t11 (i := 225) (by decide +kernel) rfl
theorem K2698 : (Cond.methodLink RL 258 yX15_pass) ∈ ALL := mAC ch_t11 (i := 222) (by decide +kernel) rfl
theorem K2699 : (Cond.instanceMethod yX15_pass) ∈ ALL := mAC ch_t11 (i := 223) (by decide +kernel) rfl
theorem K2700 : (Cond.selects RX15 yX15_pass yX15_pass) ∈ ALL := mAC ch_t11 (i := 224) (by decide +kernel) rfl
theorem GV_RL_258 : GoodIn ALL (wsV RL 258 RX15 yX15_pass (Cond.code yX15_pass cX15_pass 4 (some .int) :: ALL)) := gV K2698 K2699 K2700 K94 K2701
theorem HD_yL_hits : yL_hits.cls ≠ "java/lang/invoke/MethodHandle" ∧ yL_hits.cls ≠ "java/lang/invoke/VarHandle" ∧ (parseMethodDescriptor yL_hits.desc).map (fun d => d.parameters.length) = some 3 := by decide +kernel
theorem K1752 : (Cond.codeWith yL_hits cL_hits 4 (some .int) [(0, 9, 12, 21)]) ∈ ALL := mAC ch_t7 (i := 236) (by decide +kernel) rfl
theorem K1750 : (Cond.methodLink RL 259 yL_hits) ∈ ALL := mAC ch_t7 (i := 234) (by decide +kernel) rfl
theorem K1751 : (Cond.static yL_hits) ∈ ALL := mAC ch_t7 (i := 235) (by decide +kernel) rfl
theorem GS_RL_259 : GoodIn ALL (va_wsS RL 259 yL_hits (Cond.codeWith yL_hits cL_hits 4 (some .int) [(0, 9, 12, 21)] :: ALL)) := gS K1750 K1751 K76 K1752
theorem HD_yX15_hits : yX15_hits.cls ≠ "java/lang/invoke/MethodHandle" ∧ yX15_hits.cls ≠ "java/lang/invoke/VarHandle" ∧ (parseMethodDescriptor yX15_hits.desc).map (fun d => d.parameters.length) = some 1 := by decide +kernel
theorem K2705 : (Cond.code yX15_hits cX15_hits 2 (some .int)) ∈ ALL := mAC ch_t11 (i := 229) (by decide +kernel) rfl
theorem K2702 : (Cond.methodLink RL 261 yX15_hits) ∈ ALL := mAC ch_t11 (i := 226) (by decide +kernel) rfl
theorem K2703 : (Cond.instanceMethod yX15_hits) ∈ ALL := mAC ch_t11 (i := 227) (by decide +kernel) rfl
theorem K2704 : (Cond.selects RX15 yX15_hits yX15_hits) ∈ ALL := mAC ch_t11 (i := 228) (by decide +kernel) rfl
theorem GV_RL_261 : GoodIn ALL (wsV RL 261 RX15 yX15_hits (Cond.code yX15_hits cX15_hits 2 (some .int) :: ALL)) := gV K2702 K2703 K2704 K94 K2705
theorem HD_yL_watch : yL_watch.cls ≠ "java/lang/invoke/MethodHandle" ∧ yL_watch.cls ≠ "java/lang/invoke/VarHandle" ∧ (parseMethodDescriptor yL_watch.desc).map (fun d => d.parameters.length) = some 3 := by decide +kernel
theorem K1759 : (Cond.codeWith yL_watch cL_watch 4 (some .int) [(0, 9, 12, 21), (0, 9, 15, 15)]) ∈ ALL := mAC ch_t8 (i := 3) (by decide +kernel) rfl
theorem K1757 : (Cond.methodLink RL 262 yL_watch) ∈ ALL := mAC ch_t8 (i := 1) (by decide +kernel) rfl
theorem K1758 : (Cond.static yL_watch) ∈ ALL := mAC ch_t8 (i := 2) (by decide +kernel) rfl
theorem GS_RL_262 : GoodIn ALL (va_wsS RL 262 yL_watch (Cond.codeWith yL_watch cL_watch 4 (some .int) [(0, 9, 12, 21), (0, 9, 15, 15)] :: ALL)) := gS K1757 K1758 K76 K1759
theorem HD_yX15_watch : yX15_watch.cls ≠ "java/lang/invoke/MethodHandle" ∧ yX15_watch.cls ≠ "java/lang/invoke/VarHandle" ∧ (parseMethodDescriptor yX15_watch.desc).map (fun d => d.parameters.length) = some 1 := by decide +kernel
theorem K2709 : (Cond.code yX15_watch cX15_watch 2 (some .int)) ∈ ALL := mAC ch_t11 (i := 233) (by decide +kernel) rfl
theorem K2706 : (Cond.methodLink RL 264 yX15_watch) ∈ ALL := mAC ch_t11 (i := 230) (by decide +kernel) rfl
theorem K2707 : (Cond.instanceMethod yX15_watch) ∈ ALL := mAC ch_t11 (i := 231) (by decide +kernel) rfl
theorem K2708 : (Cond.selects RX15 yX15_watch yX15_watch) ∈ ALL := mAC ch_t11 (i := 232) (by decide +kernel) rfl
theorem GV_RL_264 : GoodIn ALL (wsV RL 264 RX15 yX15_watch (Cond.code yX15_watch cX15_watch 2 (some .int) :: ALL)) := gV K2706 K2707 K2708 K94 K2709
theorem HD_yL_watchName : yL_watchName.cls ≠ "java/lang/invoke/MethodHandle" ∧ yL_watchName.cls ≠ "java/lang/invoke/VarHandle" ∧ (parseMethodDescriptor yL_watchName.desc).map (fun d => d.parameters.length) = some 5 := by decide +kernel
theorem K1786 : (Cond.codeWith yL_watchName cL_watchName 6 (some .int) [(0, 12, 15, 21), (0, 12, 19, 13), (0, 12, 23, 62), (0, 12, 27, 27), (0, 12, 31, 15)]) ∈ ALL := mAC ch_t8 (i := 30) (by decide +kernel) rfl
theorem K1784 : (Cond.methodLink RL 265 yL_watchName) ∈ ALL := mAC ch_t8 (i := 28) (by decide +kernel) rfl
theorem K1785 : (Cond.static yL_watchName) ∈ ALL := mAC ch_t8 (i := 29) (by decide +kernel) rfl
theorem GS_RL_265 : GoodIn ALL (va_wsS RL 265 yL_watchName (Cond.codeWith yL_watchName cL_watchName 6 (some .int) [(0, 12, 15, 21), (0, 12, 19, 13), (0, 12, 23, 62), (0, 12, 27, 27), (0, 12, 31, 15)] :: ALL)) := gS K1784 K1785 K76 K1786
theorem HD_yX15_watchName : yX15_watchName.cls ≠ "java/lang/invoke/MethodHandle" ∧ yX15_watchName.cls ≠ "java/lang/invoke/VarHandle" ∧ (parseMethodDescriptor yX15_watchName.desc).map (fun d => d.parameters.length) = some 3 := by decide +kernel
theorem K2713 : (Cond.code yX15_watchName cX15_watchName 8 (some .int)) ∈ ALL := mAC ch_t11 (i := 237) (by decide +kernel) rfl
theorem K2710 : (Cond.methodLink RL 267 yX15_watchName) ∈ ALL := mAC ch_t11 (i := 234) (by decide +kernel) rfl
theorem K2711 : (Cond.instanceMethod yX15_watchName) ∈ ALL := mAC ch_t11 (i := 235) (by decide +kernel) rfl
theorem K2712 : (Cond.selects RX15 yX15_watchName yX15_watchName) ∈ ALL := mAC ch_t11 (i := 236) (by decide +kernel) rfl
theorem GV_RL_267 : GoodIn ALL (wsV RL 267 RX15 yX15_watchName (Cond.code yX15_watchName cX15_watchName 8 (some .int) :: ALL)) := gV K2710 K2711 K2712 K94 K2713
