theorem HD_yL_code : yL_code.cls ≠ "java/lang/invoke/MethodHandle" ∧ yL_code.cls ≠ "java/lang/invoke/VarHandle" ∧ (parseMethodDescriptor yL_code.desc).map (fun d => d.parameters.length) = some 5 := by decide +kernel
theorem K733 : (Cond.codeWith yL_code cL_code 6 (some .int) [(0, 12, 15, 13), (0, 12, 19, 15)]) ∈ ALL := mAC ch_t3 (i := 177) (by decide +kernel) rfl
theorem K731 : (Cond.methodLink RL 161 yL_code) ∈ ALL := mAC ch_t3 (i := 175) (by decide +kernel) rfl
theorem K732 : (Cond.static yL_code) ∈ ALL := mAC ch_t3 (i := 176) (by decide +kernel) rfl
theorem K76 : (Cond.initialized RL) ∈ ALL := mAC ch_t1 (i := 0) (by decide +kernel) rfl
theorem GS_RL_161 : GoodIn ALL (va_wsS RL 161 yL_code (Cond.codeWith yL_code cL_code 6 (some .int) [(0, 12, 15, 13), (0, 12, 19, 15)] :: ALL)) := gS K731 K732 K76 K733
theorem HD_yX15_code : yX15_code.cls ≠ "java/lang/invoke/MethodHandle" ∧ yX15_code.cls ≠ "java/lang/invoke/VarHandle" ∧ (parseMethodDescriptor yX15_code.desc).map (fun d => d.parameters.length) = some 3 := by decide +kernel
theorem K2144 : (Cond.code yX15_code cX15_code 4 (some .int)) ∈ ALL := mAC ch_t9 (i := 148) (by decide +kernel) rfl
theorem K2141 : (Cond.methodLink RL 166 yX15_code) ∈ ALL := mAC ch_t9 (i := 145) (by decide +kernel) rfl
theorem K2142 : (Cond.instanceMethod yX15_code) ∈ ALL := mAC ch_t9 (i := 146) (by decide +kernel) rfl
theorem K2143 : (Cond.selects RX15 yX15_code yX15_code) ∈ ALL := mAC ch_t9 (i := 147) (by decide +kernel) rfl
theorem GV_RL_166 : GoodIn ALL (wsV RL 166 RX15 yX15_code (Cond.code yX15_code cX15_code 4 (some .int) :: ALL)) := gV K2141 K2142 K2143 K94 K2144
theorem HD_yX15_thrown : yX15_thrown.cls ≠ "java/lang/invoke/MethodHandle" ∧ yX15_thrown.cls ≠ "java/lang/invoke/VarHandle" ∧ (parseMethodDescriptor yX15_thrown.desc).map (fun d => d.parameters.length) = some 0 := by decide +kernel
theorem K2018 : (Cond.code yX15_thrown cX15_thrown 1 (some .int)) ∈ ALL := mAC ch_t9 (i := 22) (by decide +kernel) rfl
theorem K2015 : (Cond.methodLink RL 167 yX15_thrown) ∈ ALL := mAC ch_t9 (i := 19) (by decide +kernel) rfl
theorem K2016 : (Cond.instanceMethod yX15_thrown) ∈ ALL := mAC ch_t9 (i := 20) (by decide +kernel) rfl
theorem K2017 : (Cond.selects RX15 yX15_thrown yX15_thrown) ∈ ALL := mAC ch_t9 (i := 21) (by decide +kernel) rfl
theorem GV_RL_167 : GoodIn ALL (wsV RL 167 RX15 yX15_thrown (Cond.code yX15_thrown cX15_thrown 1 (some .int) :: ALL)) := gV K2015 K2016 K2017 K94 K2018
theorem HD_yL_patch : yL_patch.cls ≠ "java/lang/invoke/MethodHandle" ∧ yL_patch.cls ≠ "java/lang/invoke/VarHandle" ∧ (parseMethodDescriptor yL_patch.desc).map (fun d => d.parameters.length) = some 6 := by decide +kernel
theorem K856 : (Cond.codeWith yL_patch cL_patch 7 (some .int) [(0, 14, 17, 21), (0, 14, 21, 13)]) ∈ ALL := mAC ch_t4 (i := 60) (by decide +kernel) rfl
theorem K854 : (Cond.methodLink RL 170 yL_patch) ∈ ALL := mAC ch_t4 (i := 58) (by decide +kernel) rfl
theorem K855 : (Cond.static yL_patch) ∈ ALL := mAC ch_t4 (i := 59) (by decide +kernel) rfl
theorem GS_RL_170 : GoodIn ALL (va_wsS RL 170 yL_patch (Cond.codeWith yL_patch cL_patch 7 (some .int) [(0, 14, 17, 21), (0, 14, 21, 13)] :: ALL)) := gS K854 K855 K76 K856
theorem HD_yX15_patch : yX15_patch.cls ≠ "java/lang/invoke/MethodHandle" ∧ yX15_patch.cls ≠ "java/lang/invoke/VarHandle" ∧ (parseMethodDescriptor yX15_patch.desc).map (fun d => d.parameters.length) = some 4 := by decide +kernel
theorem K2304 : (Cond.code yX15_patch cX15_patch 6 (some .char)) ∈ ALL := mAC ch_t10 (i := 68) (by decide +kernel) rfl
theorem K2301 : (Cond.methodLink RL 173 yX15_patch) ∈ ALL := mAC ch_t10 (i := 65) (by decide +kernel) rfl
theorem K2302 : (Cond.instanceMethod yX15_patch) ∈ ALL := mAC ch_t10 (i := 66) (by decide +kernel) rfl
theorem K2303 : (Cond.selects RX15 yX15_patch yX15_patch) ∈ ALL := mAC ch_t10 (i := 67) (by decide +kernel) rfl
theorem GV_RL_173 : GoodIn ALL (wsV RL 173 RX15 yX15_patch (Cond.code yX15_patch cX15_patch 6 (some .char) :: ALL)) := gV K2301 K2302 K2303 K94 K2304
theorem HD_yL_function : yL_function.cls ≠ "java/lang/invoke/MethodHandle" ∧ yL_function.cls ≠ "java/lang/invoke/VarHandle" ∧ (parseMethodDescriptor yL_function.desc).map (fun d => d.parameters.length) = some 4 := by decide +kernel
theorem K944 : (Cond.codeWith yL_function cL_function 5 (some .int) [(0, 10, 13, 21), (0, 10, 17, 13), (0, 10, 21, 27), (0, 10, 25, 15)]) ∈ ALL := mAC ch_t4 (i := 148) (by decide +kernel) rfl
theorem K942 : (Cond.methodLink RL 174 yL_function) ∈ ALL := mAC ch_t4 (i := 146) (by decide +kernel) rfl
theorem K943 : (Cond.static yL_function) ∈ ALL := mAC ch_t4 (i := 147) (by decide +kernel) rfl
theorem GS_RL_174 : GoodIn ALL (va_wsS RL 174 yL_function (Cond.codeWith yL_function cL_function 5 (some .int) [(0, 10, 13, 21), (0, 10, 17, 13), (0, 10, 21, 27), (0, 10, 25, 15)] :: ALL)) := gS K942 K943 K76 K944
theorem HD_yX15_function : yX15_function.cls ≠ "java/lang/invoke/MethodHandle" ∧ yX15_function.cls ≠ "java/lang/invoke/VarHandle" ∧ (parseMethodDescriptor yX15_function.desc).map (fun d => d.parameters.length) = some 2 := by decide +kernel
theorem K2421 : (Cond.code yX15_function cX15_function 7 (some .int)) ∈ ALL := mAC ch_t10 (i := 185) (by decide +kernel) rfl
theorem K2418 : (Cond.methodLink RL 177 yX15_function) ∈ ALL := mAC ch_t10 (i := 182) (by decide +kernel) rfl
theorem K2419 : (Cond.instanceMethod yX15_function) ∈ ALL := mAC ch_t10 (i := 183) (by decide +kernel) rfl
theorem K2420 : (Cond.selects RX15 yX15_function yX15_function) ∈ ALL := mAC ch_t10 (i := 184) (by decide +kernel) rfl
theorem GV_RL_177 : GoodIn ALL (wsV RL 177 RX15 yX15_function (Cond.code yX15_function cX15_function 7 (some .int) :: ALL)) := gV K2418 K2419 K2420 K94 K2421
theorem HD_yL_line : yL_line.cls ≠ "java/lang/invoke/MethodHandle" ∧ yL_line.cls ≠ "java/lang/invoke/VarHandle" ∧ (parseMethodDescriptor yL_line.desc).map (fun d => d.parameters.length) = some 4 := by decide +kernel
theorem K998 : (Cond.codeWith yL_line cL_line 5 (some .int) [(0, 10, 13, 21), (0, 10, 17, 13)]) ∈ ALL := mAC ch_t4 (i := 202) (by decide +kernel) rfl
theorem K996 : (Cond.methodLink RL 178 yL_line) ∈ ALL := mAC ch_t4 (i := 200) (by decide +kernel) rfl
theorem K997 : (Cond.static yL_line) ∈ ALL := mAC ch_t4 (i := 201) (by decide +kernel) rfl
theorem GS_RL_178 : GoodIn ALL (va_wsS RL 178 yL_line (Cond.codeWith yL_line cL_line 5 (some .int) [(0, 10, 13, 21), (0, 10, 17, 13)] :: ALL)) := gS K996 K997 K76 K998
theorem HD_yX15_line : yX15_line.cls ≠ "java/lang/invoke/MethodHandle" ∧ yX15_line.cls ≠ "java/lang/invoke/VarHandle" ∧ (parseMethodDescriptor yX15_line.desc).map (fun d => d.parameters.length) = some 2 := by decide +kernel
theorem K2431 : (Cond.code yX15_line cX15_line 4 (some .int)) ∈ ALL := mAC ch_t10 (i := 195) (by decide +kernel) rfl
theorem K2428 : (Cond.methodLink RL 180 yX15_line) ∈ ALL := mAC ch_t10 (i := 192) (by decide +kernel) rfl
theorem K2429 : (Cond.instanceMethod yX15_line) ∈ ALL := mAC ch_t10 (i := 193) (by decide +kernel) rfl
theorem K2430 : (Cond.selects RX15 yX15_line yX15_line) ∈ ALL := mAC ch_t10 (i := 194) (by decide +kernel) rfl
theorem GV_RL_180 : GoodIn ALL (wsV RL 180 RX15 yX15_line (Cond.code yX15_line cX15_line 4 (some .int) :: ALL)) := gV K2428 K2429 K2430 K94 K2431
theorem HD_yL_rule : yL_rule.cls ≠ "java/lang/invoke/MethodHandle" ∧ yL_rule.cls ≠ "java/lang/invoke/VarHandle" ∧ (parseMethodDescriptor yL_rule.desc).map (fun d => d.parameters.length) = some 4 := by decide +kernel
theorem K1015 : (Cond.codeWith yL_rule cL_rule 5 (some .int) [(0, 10, 13, 21), (0, 10, 17, 13)]) ∈ ALL := mAC ch_t4 (i := 219) (by decide +kernel) rfl
theorem K1013 : (Cond.methodLink RL 181 yL_rule) ∈ ALL := mAC ch_t4 (i := 217) (by decide +kernel) rfl
theorem K1014 : (Cond.static yL_rule) ∈ ALL := mAC ch_t4 (i := 218) (by decide +kernel) rfl
theorem GS_RL_181 : GoodIn ALL (va_wsS RL 181 yL_rule (Cond.codeWith yL_rule cL_rule 5 (some .int) [(0, 10, 13, 21), (0, 10, 17, 13)] :: ALL)) := gS K1013 K1014 K76 K1015
theorem HD_yX15_rule : yX15_rule.cls ≠ "java/lang/invoke/MethodHandle" ∧ yX15_rule.cls ≠ "java/lang/invoke/VarHandle" ∧ (parseMethodDescriptor yX15_rule.desc).map (fun d => d.parameters.length) = some 2 := by decide +kernel
theorem K2437 : (Cond.code yX15_rule cX15_rule 4 (some .char)) ∈ ALL := mAC ch_t10 (i := 201) (by decide +kernel) rfl
theorem K2434 : (Cond.methodLink RL 184 yX15_rule) ∈ ALL := mAC ch_t10 (i := 198) (by decide +kernel) rfl
theorem K2435 : (Cond.instanceMethod yX15_rule) ∈ ALL := mAC ch_t10 (i := 199) (by decide +kernel) rfl
theorem K2436 : (Cond.selects RX15 yX15_rule yX15_rule) ∈ ALL := mAC ch_t10 (i := 200) (by decide +kernel) rfl
theorem GV_RL_184 : GoodIn ALL (wsV RL 184 RX15 yX15_rule (Cond.code yX15_rule cX15_rule 4 (some .char) :: ALL)) := gV K2434 K2435 K2436 K94 K2437
theorem HD_yL_inlined : yL_inlined.cls ≠ "java/lang/invoke/MethodHandle" ∧ yL_inlined.cls ≠ "java/lang/invoke/VarHandle" ∧ (parseMethodDescriptor yL_inlined.desc).map (fun d => d.parameters.length) = some 6 := by decide +kernel
theorem K1028 : (Cond.codeWith yL_inlined cL_inlined 7 (some .int) [(0, 14, 17, 21), (0, 14, 21, 13), (0, 14, 25, 27), (0, 14, 29, 15)]) ∈ ALL := mAC ch_t4 (i := 232) (by decide +kernel) rfl
theorem K1026 : (Cond.methodLink RL 185 yL_inlined) ∈ ALL := mAC ch_t4 (i := 230) (by decide +kernel) rfl
theorem K1027 : (Cond.static yL_inlined) ∈ ALL := mAC ch_t4 (i := 231) (by decide +kernel) rfl
theorem GS_RL_185 : GoodIn ALL (va_wsS RL 185 yL_inlined (Cond.codeWith yL_inlined cL_inlined 7 (some .int) [(0, 14, 17, 21), (0, 14, 21, 13), (0, 14, 25, 27), (0, 14, 29, 15)] :: ALL)) := gS K1026 K1027 K76 K1028
theorem HD_yX15_inlined : yX15_inlined.cls ≠ "java/lang/invoke/MethodHandle" ∧ yX15_inlined.cls ≠ "java/lang/invoke/VarHandle" ∧ (parseMethodDescriptor yX15_inlined.desc).map (fun d => d.parameters.length) = some 4 := by decide +kernel
theorem K2450 : (Cond.code yX15_inlined cX15_inlined 9 (some .int)) ∈ ALL := mAC ch_t10 (i := 214) (by decide +kernel) rfl
theorem K2447 : (Cond.methodLink RL 188 yX15_inlined) ∈ ALL := mAC ch_t10 (i := 211) (by decide +kernel) rfl
theorem K2448 : (Cond.instanceMethod yX15_inlined) ∈ ALL := mAC ch_t10 (i := 212) (by decide +kernel) rfl
theorem K2449 : (Cond.selects RX15 yX15_inlined yX15_inlined) ∈ ALL := mAC ch_t10 (i := 213) (by decide +kernel) rfl
theorem GV_RL_188 : GoodIn ALL (wsV RL 188 RX15 yX15_inlined (Cond.code yX15_inlined cX15_inlined 9 (some .int) :: ALL)) := gV K2447 K2448 K2449 K94 K2450
theorem HD_yL_scope : yL_scope.cls ≠ "java/lang/invoke/MethodHandle" ∧ yL_scope.cls ≠ "java/lang/invoke/VarHandle" ∧ (parseMethodDescriptor yL_scope.desc).map (fun d => d.parameters.length) = some 4 := by decide +kernel
theorem K1061 : (Cond.codeWith yL_scope cL_scope 5 (some .int) [(0, 10, 13, 21), (0, 10, 17, 13), (0, 10, 21, 27), (0, 10, 25, 15)]) ∈ ALL := mAC ch_t5 (i := 25) (by decide +kernel) rfl
theorem K1059 : (Cond.methodLink RL 189 yL_scope) ∈ ALL := mAC ch_t5 (i := 23) (by decide +kernel) rfl
theorem K1060 : (Cond.static yL_scope) ∈ ALL := mAC ch_t5 (i := 24) (by decide +kernel) rfl
theorem GS_RL_189 : GoodIn ALL (va_wsS RL 189 yL_scope (Cond.codeWith yL_scope cL_scope 5 (some .int) [(0, 10, 13, 21), (0, 10, 17, 13), (0, 10, 21, 27), (0, 10, 25, 15)] :: ALL)) := gS K1059 K1060 K76 K1061
theorem HD_yX15_scope : yX15_scope.cls ≠ "java/lang/invoke/MethodHandle" ∧ yX15_scope.cls ≠ "java/lang/invoke/VarHandle" ∧ (parseMethodDescriptor yX15_scope.desc).map (fun d => d.parameters.length) = some 2 := by decide +kernel
theorem K2457 : (Cond.code yX15_scope cX15_scope 7 (some .int)) ∈ ALL := mAC ch_t10 (i := 221) (by decide +kernel) rfl
theorem K2454 : (Cond.methodLink RL 191 yX15_scope) ∈ ALL := mAC ch_t10 (i := 218) (by decide +kernel) rfl
theorem K2455 : (Cond.instanceMethod yX15_scope) ∈ ALL := mAC ch_t10 (i := 219) (by decide +kernel) rfl
theorem K2456 : (Cond.selects RX15 yX15_scope yX15_scope) ∈ ALL := mAC ch_t10 (i := 220) (by decide +kernel) rfl
theorem GV_RL_191 : GoodIn ALL (wsV RL 191 RX15 yX15_scope (Cond.code yX15_scope cX15_scope 7 (some .int) :: ALL)) := gV K2454 K2455 K2456 K94 K2457
theorem HD_yL_variable : yL_variable.cls ≠ "java/lang/invoke/MethodHandle" ∧ yL_variable.cls ≠ "java/lang/invoke/VarHandle" ∧ (parseMethodDescriptor yL_variable.desc).map (fun d => d.parameters.length) = some 6 := by decide +kernel
theorem K1070 : (Cond.codeWith yL_variable cL_variable 7 (some .int) [(0, 14, 17, 21), (0, 14, 21, 13), (0, 14, 25, 15)]) ∈ ALL := mAC ch_t5 (i := 34) (by decide +kernel) rfl
theorem K1068 : (Cond.methodLink RL 192 yL_variable) ∈ ALL := mAC ch_t5 (i := 32) (by decide +kernel) rfl
theorem K1069 : (Cond.static yL_variable) ∈ ALL := mAC ch_t5 (i := 33) (by decide +kernel) rfl
theorem GS_RL_192 : GoodIn ALL (va_wsS RL 192 yL_variable (Cond.codeWith yL_variable cL_variable 7 (some .int) [(0, 14, 17, 21), (0, 14, 21, 13), (0, 14, 25, 15)] :: ALL)) := gS K1068 K1069 K76 K1070
theorem HD_yX15_variable : yX15_variable.cls ≠ "java/lang/invoke/MethodHandle" ∧ yX15_variable.cls ≠ "java/lang/invoke/VarHandle" ∧ (parseMethodDescriptor yX15_variable.desc).map (fun d => d.parameters.length) = some 4 := by decide +kernel
theorem K2461 : (Cond.code yX15_variable cX15_variable 6 (some .int)) ∈ ALL := mAC ch_t10 (i := 225) (by decide +kernel) rfl
theorem K2458 : (Cond.methodLink RL 195 yX15_variable) ∈ ALL := mAC ch_t10 (i := 222) (by decide +kernel) rfl
theorem K2459 : (Cond.instanceMethod yX15_variable) ∈ ALL := mAC ch_t10 (i := 223) (by decide +kernel) rfl
theorem K2460 : (Cond.selects RX15 yX15_variable yX15_variable) ∈ ALL := mAC ch_t10 (i := 224) (by decide +kernel) rfl
theorem GV_RL_195 : GoodIn ALL (wsV RL 195 RX15 yX15_variable (Cond.code yX15_variable cX15_variable 6 (some .int) :: ALL)) := gV K2458 K2459 K2460 K94 K2461
theorem HD_yL_where : yL_where.cls ≠ "java/lang/invoke/MethodHandle" ∧ yL_where.cls ≠ "java/lang/invoke/VarHandle" ∧ (parseMethodDescriptor yL_where.desc).map (fun d => d.parameters.length) = some 7 := by decide +kernel
theorem K1097 : (Cond.codeWith yL_where cL_where 8 (some .int) [(0, 16, 19, 21), (0, 16, 23, 13), (0, 16, 27, 15)]) ∈ ALL := mAC ch_t5 (i := 61) (by decide +kernel) rfl
theorem K1095 : (Cond.methodLink RL 196 yL_where) ∈ ALL := mAC ch_t5 (i := 59) (by decide +kernel) rfl
theorem K1096 : (Cond.static yL_where) ∈ ALL := mAC ch_t5 (i := 60) (by decide +kernel) rfl
theorem GS_RL_196 : GoodIn ALL (va_wsS RL 196 yL_where (Cond.codeWith yL_where cL_where 8 (some .int) [(0, 16, 19, 21), (0, 16, 23, 13), (0, 16, 27, 15)] :: ALL)) := gS K1095 K1096 K76 K1097
theorem HD_yX15_where : yX15_where.cls ≠ "java/lang/invoke/MethodHandle" ∧ yX15_where.cls ≠ "java/lang/invoke/VarHandle" ∧ (parseMethodDescriptor yX15_where.desc).map (fun d => d.parameters.length) = some 5 := by decide +kernel
theorem K2471 : (Cond.code yX15_where cX15_where 7 (some .int)) ∈ ALL := mAC ch_t10 (i := 235) (by decide +kernel) rfl
theorem K2468 : (Cond.methodLink RL 199 yX15_where) ∈ ALL := mAC ch_t10 (i := 232) (by decide +kernel) rfl
theorem K2469 : (Cond.instanceMethod yX15_where) ∈ ALL := mAC ch_t10 (i := 233) (by decide +kernel) rfl
theorem K2470 : (Cond.selects RX15 yX15_where yX15_where) ∈ ALL := mAC ch_t10 (i := 234) (by decide +kernel) rfl
theorem GV_RL_199 : GoodIn ALL (wsV RL 199 RX15 yX15_where (Cond.code yX15_where cX15_where 7 (some .int) :: ALL)) := gV K2468 K2469 K2470 K94 K2471
theorem HD_yL_thread : yL_thread.cls ≠ "java/lang/invoke/MethodHandle" ∧ yL_thread.cls ≠ "java/lang/invoke/VarHandle" ∧ (parseMethodDescriptor yL_thread.desc).map (fun d => d.parameters.length) = some 3 := by decide +kernel
theorem K1120 : (Cond.codeWith yL_thread cL_thread 4 (some .int) [(0, 9, 12, 21), (0, 9, 15, 15)]) ∈ ALL := mAC ch_t5 (i := 84) (by decide +kernel) rfl
theorem K1118 : (Cond.methodLink RL 200 yL_thread) ∈ ALL := mAC ch_t5 (i := 82) (by decide +kernel) rfl
theorem K1119 : (Cond.static yL_thread) ∈ ALL := mAC ch_t5 (i := 83) (by decide +kernel) rfl
theorem GS_RL_200 : GoodIn ALL (va_wsS RL 200 yL_thread (Cond.codeWith yL_thread cL_thread 4 (some .int) [(0, 9, 12, 21), (0, 9, 15, 15)] :: ALL)) := gS K1118 K1119 K76 K1120
theorem HD_yX15_thread : yX15_thread.cls ≠ "java/lang/invoke/MethodHandle" ∧ yX15_thread.cls ≠ "java/lang/invoke/VarHandle" ∧ (parseMethodDescriptor yX15_thread.desc).map (fun d => d.parameters.length) = some 1 := by decide +kernel
theorem K2475 : (Cond.code yX15_thread cX15_thread 3 (some .int)) ∈ ALL := mAC ch_t10 (i := 239) (by decide +kernel) rfl
theorem K2472 : (Cond.methodLink RL 203 yX15_thread) ∈ ALL := mAC ch_t10 (i := 236) (by decide +kernel) rfl
theorem K2473 : (Cond.instanceMethod yX15_thread) ∈ ALL := mAC ch_t10 (i := 237) (by decide +kernel) rfl
theorem K2474 : (Cond.selects RX15 yX15_thread yX15_thread) ∈ ALL := mAC ch_t10 (i := 238) (by decide +kernel) rfl
theorem GV_RL_203 : GoodIn ALL (wsV RL 203 RX15 yX15_thread (Cond.code yX15_thread cX15_thread 3 (some .int) :: ALL)) := gV K2472 K2473 K2474 K94 K2475
theorem HD_yL_state : yL_state.cls ≠ "java/lang/invoke/MethodHandle" ∧ yL_state.cls ≠ "java/lang/invoke/VarHandle" ∧ (parseMethodDescriptor yL_state.desc).map (fun d => d.parameters.length) = some 3 := by decide +kernel
theorem K1137 : (Cond.codeWith yL_state cL_state 4 (some .int) [(0, 9, 12, 21)]) ∈ ALL := mAC ch_t5 (i := 101) (by decide +kernel) rfl
theorem K1135 : (Cond.methodLink RL 204 yL_state) ∈ ALL := mAC ch_t5 (i := 99) (by decide +kernel) rfl
theorem K1136 : (Cond.static yL_state) ∈ ALL := mAC ch_t5 (i := 100) (by decide +kernel) rfl
theorem GS_RL_204 : GoodIn ALL (va_wsS RL 204 yL_state (Cond.codeWith yL_state cL_state 4 (some .int) [(0, 9, 12, 21)] :: ALL)) := gS K1135 K1136 K76 K1137
theorem HD_yX15_state : yX15_state.cls ≠ "java/lang/invoke/MethodHandle" ∧ yX15_state.cls ≠ "java/lang/invoke/VarHandle" ∧ (parseMethodDescriptor yX15_state.desc).map (fun d => d.parameters.length) = some 1 := by decide +kernel
theorem K2513 : (Cond.code yX15_state cX15_state 2 (some .char)) ∈ ALL := mAC ch_t11 (i := 37) (by decide +kernel) rfl
theorem K2510 : (Cond.methodLink RL 206 yX15_state) ∈ ALL := mAC ch_t11 (i := 34) (by decide +kernel) rfl
theorem K2511 : (Cond.instanceMethod yX15_state) ∈ ALL := mAC ch_t11 (i := 35) (by decide +kernel) rfl
theorem K2512 : (Cond.selects RX15 yX15_state yX15_state) ∈ ALL := mAC ch_t11 (i := 36) (by decide +kernel) rfl
theorem GV_RL_206 : GoodIn ALL (wsV RL 206 RX15 yX15_state (Cond.code yX15_state cX15_state 2 (some .char) :: ALL)) := gV K2510 K2511 K2512 K94 K2513
theorem HD_yL_fault : yL_fault.cls ≠ "java/lang/invoke/MethodHandle" ∧ yL_fault.cls ≠ "java/lang/invoke/VarHandle" ∧ (parseMethodDescriptor yL_fault.desc).map (fun d => d.parameters.length) = some 3 := by decide +kernel
theorem K1149 : (Cond.codeWith yL_fault cL_fault 4 (some .int) [(0, 9, 12, 21), (0, 9, 15, 62)]) ∈ ALL := mAC ch_t5 (i := 113) (by decide +kernel) rfl
theorem K1147 : (Cond.methodLink RL 207 yL_fault) ∈ ALL := mAC ch_t5 (i := 111) (by decide +kernel) rfl
theorem K1148 : (Cond.static yL_fault) ∈ ALL := mAC ch_t5 (i := 112) (by decide +kernel) rfl
theorem GS_RL_207 : GoodIn ALL (va_wsS RL 207 yL_fault (Cond.codeWith yL_fault cL_fault 4 (some .int) [(0, 9, 12, 21), (0, 9, 15, 62)] :: ALL)) := gS K1147 K1148 K76 K1149
theorem HD_yX15_fault : yX15_fault.cls ≠ "java/lang/invoke/MethodHandle" ∧ yX15_fault.cls ≠ "java/lang/invoke/VarHandle" ∧ (parseMethodDescriptor yX15_fault.desc).map (fun d => d.parameters.length) = some 1 := by decide +kernel
theorem K2521 : (Cond.code yX15_fault cX15_fault 2 (some .char)) ∈ ALL := mAC ch_t11 (i := 45) (by decide +kernel) rfl
theorem K2518 : (Cond.methodLink RL 209 yX15_fault) ∈ ALL := mAC ch_t11 (i := 42) (by decide +kernel) rfl
theorem K2519 : (Cond.instanceMethod yX15_fault) ∈ ALL := mAC ch_t11 (i := 43) (by decide +kernel) rfl
theorem K2520 : (Cond.selects RX15 yX15_fault yX15_fault) ∈ ALL := mAC ch_t11 (i := 44) (by decide +kernel) rfl
theorem GV_RL_209 : GoodIn ALL (wsV RL 209 RX15 yX15_fault (Cond.code yX15_fault cX15_fault 2 (some .char) :: ALL)) := gV K2518 K2519 K2520 K94 K2521
theorem HD_yL_hold : yL_hold.cls ≠ "java/lang/invoke/MethodHandle" ∧ yL_hold.cls ≠ "java/lang/invoke/VarHandle" ∧ (parseMethodDescriptor yL_hold.desc).map (fun d => d.parameters.length) = some 4 := by decide +kernel
theorem K1173 : (Cond.codeWith yL_hold cL_hold 5 (some .int) [(0, 17, 20, 21)]) ∈ ALL := mAC ch_t5 (i := 137) (by decide +kernel) rfl
theorem K1171 : (Cond.methodLink RL 210 yL_hold) ∈ ALL := mAC ch_t5 (i := 135) (by decide +kernel) rfl
theorem K1172 : (Cond.static yL_hold) ∈ ALL := mAC ch_t5 (i := 136) (by decide +kernel) rfl
theorem GS_RL_210 : GoodIn ALL (va_wsS RL 210 yL_hold (Cond.codeWith yL_hold cL_hold 5 (some .int) [(0, 17, 20, 21)] :: ALL)) := gS K1171 K1172 K76 K1173
theorem HD_yX15_hold : yX15_hold.cls ≠ "java/lang/invoke/MethodHandle" ∧ yX15_hold.cls ≠ "java/lang/invoke/VarHandle" ∧ (parseMethodDescriptor yX15_hold.desc).map (fun d => d.parameters.length) = some 2 := by decide +kernel
theorem K2525 : (Cond.code yX15_hold cX15_hold 4 (some .boolean)) ∈ ALL := mAC ch_t11 (i := 49) (by decide +kernel) rfl
theorem K2522 : (Cond.methodLink RL 213 yX15_hold) ∈ ALL := mAC ch_t11 (i := 46) (by decide +kernel) rfl
theorem K2523 : (Cond.instanceMethod yX15_hold) ∈ ALL := mAC ch_t11 (i := 47) (by decide +kernel) rfl
theorem K2524 : (Cond.selects RX15 yX15_hold yX15_hold) ∈ ALL := mAC ch_t11 (i := 48) (by decide +kernel) rfl
theorem GV_RL_213 : GoodIn ALL (wsV RL 213 RX15 yX15_hold (Cond.code yX15_hold cX15_hold 4 (some .boolean) :: ALL)) := gV K2522 K2523 K2524 K94 K2525
theorem HD_yL_register : yL_register.cls ≠ "java/lang/invoke/MethodHandle" ∧ yL_register.cls ≠ "java/lang/invoke/VarHandle" ∧ (parseMethodDescriptor yL_register.desc).map (fun d => d.parameters.length) = some 4 := by decide +kernel
theorem K1184 : (Cond.codeWith yL_register cL_register 5 (some .int) [(0, 10, 13, 21)]) ∈ ALL := mAC ch_t5 (i := 148) (by decide +kernel) rfl
theorem K1182 : (Cond.methodLink RL 214 yL_register) ∈ ALL := mAC ch_t5 (i := 146) (by decide +kernel) rfl
theorem K1183 : (Cond.static yL_register) ∈ ALL := mAC ch_t5 (i := 147) (by decide +kernel) rfl
theorem GS_RL_214 : GoodIn ALL (va_wsS RL 214 yL_register (Cond.codeWith yL_register cL_register 5 (some .int) [(0, 10, 13, 21)] :: ALL)) := gS K1182 K1183 K76 K1184
theorem HD_yX15_register : yX15_register.cls ≠ "java/lang/invoke/MethodHandle" ∧ yX15_register.cls ≠ "java/lang/invoke/VarHandle" ∧ (parseMethodDescriptor yX15_register.desc).map (fun d => d.parameters.length) = some 2 := by decide +kernel
theorem K2529 : (Cond.code yX15_register cX15_register 3 (some .int)) ∈ ALL := mAC ch_t11 (i := 53) (by decide +kernel) rfl
theorem K2526 : (Cond.methodLink RL 216 yX15_register) ∈ ALL := mAC ch_t11 (i := 50) (by decide +kernel) rfl
theorem K2527 : (Cond.instanceMethod yX15_register) ∈ ALL := mAC ch_t11 (i := 51) (by decide +kernel) rfl
theorem K2528 : (Cond.selects RX15 yX15_register yX15_register) ∈ ALL := mAC ch_t11 (i := 52) (by decide +kernel) rfl
theorem GV_RL_216 : GoodIn ALL (wsV RL 216 RX15 yX15_register (Cond.code yX15_register cX15_register 3 (some .int) :: ALL)) := gV K2526 K2527 K2528 K94 K2529
theorem HD_yL_cell : yL_cell.cls ≠ "java/lang/invoke/MethodHandle" ∧ yL_cell.cls ≠ "java/lang/invoke/VarHandle" ∧ (parseMethodDescriptor yL_cell.desc).map (fun d => d.parameters.length) = some 3 := by decide +kernel
theorem K1193 : (Cond.codeWith yL_cell cL_cell 4 (some .int) [(0, 9, 12, 21)]) ∈ ALL := mAC ch_t5 (i := 157) (by decide +kernel) rfl
theorem K1191 : (Cond.methodLink RL 217 yL_cell) ∈ ALL := mAC ch_t5 (i := 155) (by decide +kernel) rfl
theorem K1192 : (Cond.static yL_cell) ∈ ALL := mAC ch_t5 (i := 156) (by decide +kernel) rfl
theorem GS_RL_217 : GoodIn ALL (va_wsS RL 217 yL_cell (Cond.codeWith yL_cell cL_cell 4 (some .int) [(0, 9, 12, 21)] :: ALL)) := gS K1191 K1192 K76 K1193
theorem HD_yX15_cell : yX15_cell.cls ≠ "java/lang/invoke/MethodHandle" ∧ yX15_cell.cls ≠ "java/lang/invoke/VarHandle" ∧ (parseMethodDescriptor yX15_cell.desc).map (fun d => d.parameters.length) = some 1 := by decide +kernel
theorem K2533 : (Cond.code yX15_cell cX15_cell 2 (some .int)) ∈ ALL := mAC ch_t11 (i := 57) (by decide +kernel) rfl
theorem K2530 : (Cond.methodLink RL 219 yX15_cell) ∈ ALL := mAC ch_t11 (i := 54) (by decide +kernel) rfl
theorem K2531 : (Cond.instanceMethod yX15_cell) ∈ ALL := mAC ch_t11 (i := 55) (by decide +kernel) rfl
theorem K2532 : (Cond.selects RX15 yX15_cell yX15_cell) ∈ ALL := mAC ch_t11 (i := 56) (by decide +kernel) rfl
theorem GV_RL_219 : GoodIn ALL (wsV RL 219 RX15 yX15_cell (Cond.code yX15_cell cX15_cell 2 (some .int) :: ALL)) := gV K2530 K2531 K2532 K94 K2533
