theorem K142 : (Cond.methodLink RX4 3 objectInit) ∈ ALL := mAC ch_t1 (i := 66) (by decide +kernel) rfl
theorem K129 : (Cond.instanceMethod objectInit) ∈ ALL := mAC ch_t1 (i := 53) (by decide +kernel) rfl
theorem K130 : (Cond.code objectInit object_method_1_code 1 none) ∈ ALL := mAC ch_t1 (i := 54) (by decide +kernel) rfl
theorem K143 : (Cond.methodLink RX4 9 yJ9_max_7cf53) ∈ ALL := mAC ch_t1 (i := 67) (by decide +kernel) rfl
theorem K144 : (Cond.static yJ9_max_7cf53) ∈ ALL := mAC ch_t1 (i := 68) (by decide +kernel) rfl
theorem K80 : (Cond.initialized RJ9) ∈ ALL := mAC ch_t1 (i := 4) (by decide +kernel) rfl
theorem K145 : (Cond.code yJ9_max_7cf53 cJ9_max_7cf53 2 (some .int)) ∈ ALL := mAC ch_t1 (i := 69) (by decide +kernel) rfl
theorem K158 : (Cond.arrayClass .int) ∈ ALL := mAC ch_t1 (i := 82) (by decide +kernel) rfl
theorem K146 : (Cond.fieldLink RX4 15 "Unwindlens$Rows" "firsts" "[I") ∈ ALL := mAC ch_t1 (i := 70) (by decide +kernel) rfl
theorem K147 : (Cond.fieldLink RX4 21 "Unwindlens$Rows" "lasts" "[I") ∈ ALL := mAC ch_t1 (i := 71) (by decide +kernel) rfl
theorem K136 : (Cond.methodLink RX3 3 objectInit) ∈ ALL := mAC ch_t1 (i := 60) (by decide +kernel) rfl
theorem K137 : (Cond.classLink RX3 9 RX4) ∈ ALL := mAC ch_t1 (i := 61) (by decide +kernel) rfl
theorem K138 : (Cond.instantiable RX4 3) ∈ ALL := mAC ch_t1 (i := 62) (by decide +kernel) rfl
theorem HD_yX4_init : yX4_init.cls ≠ "java/lang/invoke/MethodHandle" ∧ yX4_init.cls ≠ "java/lang/invoke/VarHandle" ∧ (parseMethodDescriptor yX4_init.desc).map (fun d => d.parameters.length) = some 1 := by decide +kernel
theorem K141 : (Cond.code yX4_init cX4_init 2 none) ∈ ALL := mAC ch_t1 (i := 65) (by decide +kernel) rfl
theorem GI_K141 : GoodIn ALL (Cond.code yX4_init cX4_init 2 none :: ALL) := gI K141
theorem K139 : (Cond.methodLink RX3 11 yX4_init) ∈ ALL := mAC ch_t1 (i := 63) (by decide +kernel) rfl
theorem K140 : (Cond.instanceMethod yX4_init) ∈ ALL := mAC ch_t1 (i := 64) (by decide +kernel) rfl
theorem K159 : (Cond.fieldLink RX3 14 "Unwindlens$Program" "functions" "LUnwindlens$Rows;") ∈ ALL := mAC ch_t1 (i := 83) (by decide +kernel) rfl
theorem K162 : (Cond.fieldLink RX3 20 "Unwindlens$Program" "calls" "LUnwindlens$Rows;") ∈ ALL := mAC ch_t1 (i := 86) (by decide +kernel) rfl
theorem K164 : (Cond.fieldLink RX3 23 "Unwindlens$Program" "callFunctions" "[I") ∈ ALL := mAC ch_t1 (i := 88) (by decide +kernel) rfl
theorem K165 : (Cond.fieldLink RX3 27 "Unwindlens$Program" "callLines" "[I") ∈ ALL := mAC ch_t1 (i := 89) (by decide +kernel) rfl
theorem K193 : (Cond.arrayClass .char) ∈ ALL := mAC ch_t1 (i := 117) (by decide +kernel) rfl
theorem K166 : (Cond.fieldLink RX3 30 "Unwindlens$Program" "kinds" "[C") ∈ ALL := mAC ch_t1 (i := 90) (by decide +kernel) rfl
theorem K167 : (Cond.fieldLink RX3 34 "Unwindlens$Program" "lefts" "[I") ∈ ALL := mAC ch_t1 (i := 91) (by decide +kernel) rfl
theorem K168 : (Cond.fieldLink RX3 37 "Unwindlens$Program" "rights" "[I") ∈ ALL := mAC ch_t1 (i := 92) (by decide +kernel) rfl
theorem K169 : (Cond.fieldLink RX3 40 "Unwindlens$Program" "lines" "[I") ∈ ALL := mAC ch_t1 (i := 93) (by decide +kernel) rfl
theorem K170 : (Cond.fieldLink RX3 43 "Unwindlens$Program" "rules" "[C") ∈ ALL := mAC ch_t1 (i := 94) (by decide +kernel) rfl
theorem K199 : (Cond.methodLink RX2 3 objectInit) ∈ ALL := mAC ch_t1 (i := 123) (by decide +kernel) rfl
theorem K200 : (Cond.classLink RX2 9 RX4) ∈ ALL := mAC ch_t1 (i := 124) (by decide +kernel) rfl
theorem K201 : (Cond.methodLink RX2 11 yX4_init) ∈ ALL := mAC ch_t1 (i := 125) (by decide +kernel) rfl
theorem K203 : (Cond.fieldLink RX2 14 "Unwindlens$Names" "scopes" "LUnwindlens$Rows;") ∈ ALL := mAC ch_t1 (i := 127) (by decide +kernel) rfl
theorem K205 : (Cond.fieldLink RX2 20 "Unwindlens$Names" "homes" "LUnwindlens$Rows;") ∈ ALL := mAC ch_t1 (i := 129) (by decide +kernel) rfl
theorem K207 : (Cond.fieldLink RX2 23 "Unwindlens$Names" "homeVariables" "[I") ∈ ALL := mAC ch_t1 (i := 131) (by decide +kernel) rfl
theorem K208 : (Cond.fieldLink RX2 27 "Unwindlens$Names" "homeKinds" "[C") ∈ ALL := mAC ch_t1 (i := 132) (by decide +kernel) rfl
theorem K209 : (Cond.fieldLink RX2 31 "Unwindlens$Names" "homeNumbers" "[I") ∈ ALL := mAC ch_t1 (i := 133) (by decide +kernel) rfl
theorem K210 : (Cond.fieldLink RX2 34 "Unwindlens$Names" "variableScopes" "[I") ∈ ALL := mAC ch_t1 (i := 134) (by decide +kernel) rfl
theorem K211 : (Cond.fieldLink RX2 37 "Unwindlens$Names" "letters" "[C") ∈ ALL := mAC ch_t1 (i := 135) (by decide +kernel) rfl
theorem K212 : (Cond.fieldLink RX2 40 "Unwindlens$Names" "kinds" "[C") ∈ ALL := mAC ch_t1 (i := 136) (by decide +kernel) rfl
theorem K213 : (Cond.fieldLink RX2 43 "Unwindlens$Names" "words" "[I") ∈ ALL := mAC ch_t1 (i := 137) (by decide +kernel) rfl
theorem K202 : (Cond.fieldLink RX2 46 "Unwindlens$Names" "program" "LUnwindlens$Program;") ∈ ALL := mAC ch_t1 (i := 126) (by decide +kernel) rfl
theorem K249 : (Cond.methodLink RX9 3 objectInit) ∈ ALL := mAC ch_t1 (i := 173) (by decide +kernel) rfl
theorem K267 : (Cond.fieldLink RX9 9 "Unwindlens$View" "call" "I") ∈ ALL := mAC ch_t1 (i := 191) (by decide +kernel) rfl
theorem PN_RX9 : plainName RX9 = true := by decide +kernel
theorem K294 : (Cond.methodLink RX5 3 objectInit) ∈ ALL := mAC ch_t1 (i := 218) (by decide +kernel) rfl
theorem K295 : (Cond.fieldLink RX5 9 "Unwindlens$Spot" "kind" "C") ∈ ALL := mAC ch_t1 (i := 219) (by decide +kernel) rfl
theorem PN_RX5 : plainName RX5 = true := by decide +kernel
theorem K243 : (Cond.methodLink RX0 3 objectInit) ∈ ALL := mAC ch_t1 (i := 167) (by decide +kernel) rfl
theorem K244 : (Cond.classLink RX0 9 RX9) ∈ ALL := mAC ch_t1 (i := 168) (by decide +kernel) rfl
theorem K245 : (Cond.instantiable RX9 7) ∈ ALL := mAC ch_t1 (i := 169) (by decide +kernel) rfl
theorem K83 : (Cond.initialized RX9) ∈ ALL := mAC ch_t1 (i := 7) (by decide +kernel) rfl
theorem HD_yX9_init : yX9_init.cls ≠ "java/lang/invoke/MethodHandle" ∧ yX9_init.cls ≠ "java/lang/invoke/VarHandle" ∧ (parseMethodDescriptor yX9_init.desc).map (fun d => d.parameters.length) = some 0 := by decide +kernel
theorem K248 : (Cond.code yX9_init cX9_init 1 none) ∈ ALL := mAC ch_t1 (i := 172) (by decide +kernel) rfl
theorem GI_K248 : GoodIn ALL (Cond.code yX9_init cX9_init 1 none :: ALL) := gI K248
theorem K246 : (Cond.methodLinkNest RX0 11 yX9_init RX11) ∈ NGS := mNC ch_t1 (i := 170) (by decide +kernel) rfl
theorem K247 : (Cond.instanceMethod yX9_init) ∈ ALL := mAC ch_t1 (i := 171) (by decide +kernel) rfl
theorem K308 : (Cond.fieldLink RX0 12 "Unwindlens$Breakpoints" "top" "LUnwindlens$View;") ∈ ALL := mAC ch_t1 (i := 232) (by decide +kernel) rfl
theorem K289 : (Cond.classLink RX0 18 RX5) ∈ ALL := mAC ch_t1 (i := 213) (by decide +kernel) rfl
theorem K290 : (Cond.instantiable RX5 3) ∈ ALL := mAC ch_t1 (i := 214) (by decide +kernel) rfl
theorem K84 : (Cond.initialized RX5) ∈ ALL := mAC ch_t1 (i := 8) (by decide +kernel) rfl
theorem HD_yX5_init : yX5_init.cls ≠ "java/lang/invoke/MethodHandle" ∧ yX5_init.cls ≠ "java/lang/invoke/VarHandle" ∧ (parseMethodDescriptor yX5_init.desc).map (fun d => d.parameters.length) = some 0 := by decide +kernel
theorem K293 : (Cond.code yX5_init cX5_init 1 none) ∈ ALL := mAC ch_t1 (i := 217) (by decide +kernel) rfl
theorem GI_K293 : GoodIn ALL (Cond.code yX5_init cX5_init 1 none :: ALL) := gI K293
theorem K291 : (Cond.methodLinkNest RX0 20 yX5_init RX11) ∈ NGS := mNC ch_t1 (i := 215) (by decide +kernel) rfl
theorem K292 : (Cond.instanceMethod yX5_init) ∈ ALL := mAC ch_t1 (i := 216) (by decide +kernel) rfl
theorem K309 : (Cond.fieldLink RX0 21 "Unwindlens$Breakpoints" "spot" "LUnwindlens$Spot;") ∈ ALL := mAC ch_t1 (i := 233) (by decide +kernel) rfl
theorem K346 : (Cond.arrayClass .long) ∈ ALL := mAC ch_t2 (i := 30) (by decide +kernel) rfl
theorem K310 : (Cond.fieldLink RX0 25 "Unwindlens$Breakpoints" "places" "[J") ∈ ALL := mAC ch_t1 (i := 234) (by decide +kernel) rfl
theorem K311 : (Cond.fieldLink RX0 29 "Unwindlens$Breakpoints" "letters" "[C") ∈ ALL := mAC ch_t1 (i := 235) (by decide +kernel) rfl
theorem K312 : (Cond.fieldLink RX0 33 "Unwindlens$Breakpoints" "hows" "[C") ∈ ALL := mAC ch_t1 (i := 236) (by decide +kernel) rfl
theorem K313 : (Cond.fieldLink RX0 36 "Unwindlens$Breakpoints" "numbers" "[I") ∈ ALL := mAC ch_t1 (i := 237) (by decide +kernel) rfl
theorem K347 : (Cond.arrayClass .boolean) ∈ ALL := mAC ch_t2 (i := 31) (by decide +kernel) rfl
theorem K314 : (Cond.fieldLink RX0 40 "Unwindlens$Breakpoints" "isOn" "[Z") ∈ ALL := mAC ch_t1 (i := 238) (by decide +kernel) rfl
theorem K315 : (Cond.fieldLink RX0 44 "Unwindlens$Breakpoints" "passing" "[I") ∈ ALL := mAC ch_t1 (i := 239) (by decide +kernel) rfl
theorem K316 : (Cond.fieldLink RX0 47 "Unwindlens$Breakpoints" "counted" "[I") ∈ ALL := mAC ch_t2 (i := 0) (by decide +kernel) rfl
theorem K317 : (Cond.fieldLink RX0 50 "Unwindlens$Breakpoints" "stops" "[I") ∈ ALL := mAC ch_t2 (i := 1) (by decide +kernel) rfl
theorem K306 : (Cond.fieldLink RX0 53 "Unwindlens$Breakpoints" "program" "LUnwindlens$Program;") ∈ ALL := mAC ch_t1 (i := 230) (by decide +kernel) rfl
theorem K307 : (Cond.fieldLink RX0 57 "Unwindlens$Breakpoints" "names" "LUnwindlens$Names;") ∈ ALL := mAC ch_t1 (i := 231) (by decide +kernel) rfl
theorem K353 : (Cond.methodLink RX10 3 objectInit) ∈ ALL := mAC ch_t2 (i := 37) (by decide +kernel) rfl
theorem K354 : (Cond.classLink RX10 9 RX5) ∈ ALL := mAC ch_t2 (i := 38) (by decide +kernel) rfl
theorem K357 : (Cond.fieldLink RX10 11 "Unwindlens$Watches" "spots" "[LUnwindlens$Spot;") ∈ ALL := mAC ch_t2 (i := 41) (by decide +kernel) rfl
theorem K358 : (Cond.fieldLink RX10 17 "Unwindlens$Watches" "words" "[I") ∈ ALL := mAC ch_t2 (i := 42) (by decide +kernel) rfl
theorem K359 : (Cond.fieldLink RX10 21 "Unwindlens$Watches" "isEnded" "[Z") ∈ ALL := mAC ch_t2 (i := 43) (by decide +kernel) rfl
theorem K356 : (Cond.methodLinkNest RX10 25 yX5_init RX11) ∈ NGS := mNC ch_t2 (i := 40) (by decide +kernel) rfl
theorem PN_RX10 : plainName RX10 = true := by decide +kernel
theorem K382 : (Cond.methodLink RX7 3 objectInit) ∈ ALL := mAC ch_t2 (i := 66) (by decide +kernel) rfl
theorem K383 : (Cond.fieldLink RX7 9 "Unwindlens$Task" "registers" "[I") ∈ ALL := mAC ch_t2 (i := 67) (by decide +kernel) rfl
theorem K384 : (Cond.fieldLink RX7 15 "Unwindlens$Task" "stack" "[I") ∈ ALL := mAC ch_t2 (i := 68) (by decide +kernel) rfl
theorem K400 : (Cond.fieldLink RX7 18 "Unwindlens$Task" "state" "C") ∈ ALL := mAC ch_t2 (i := 84) (by decide +kernel) rfl
theorem K403 : (Cond.fieldLink RX7 22 "Unwindlens$Task" "fault" "C") ∈ ALL := mAC ch_t2 (i := 87) (by decide +kernel) rfl
theorem PN_RX7 : plainName RX7 = true := by decide +kernel
theorem K375 : (Cond.methodLink RX6 3 objectInit) ∈ ALL := mAC ch_t2 (i := 59) (by decide +kernel) rfl
theorem K420 : (Cond.fieldLink RX6 9 "Unwindlens$Target" "cells" "[I") ∈ ALL := mAC ch_t2 (i := 104) (by decide +kernel) rfl
theorem K376 : (Cond.classLink RX6 15 RX7) ∈ ALL := mAC ch_t2 (i := 60) (by decide +kernel) rfl
theorem K421 : (Cond.fieldLink RX6 17 "Unwindlens$Target" "tasks" "[LUnwindlens$Task;") ∈ ALL := mAC ch_t2 (i := 105) (by decide +kernel) rfl
theorem K424 : (Cond.fieldLink RX6 21 "Unwindlens$Target" "last" "I") ∈ ALL := mAC ch_t2 (i := 108) (by decide +kernel) rfl
theorem K378 : (Cond.instantiable RX7 7) ∈ ALL := mAC ch_t2 (i := 62) (by decide +kernel) rfl
theorem K87 : (Cond.initialized RX7) ∈ ALL := mAC ch_t1 (i := 11) (by decide +kernel) rfl
theorem HD_yX7_init : yX7_init.cls ≠ "java/lang/invoke/MethodHandle" ∧ yX7_init.cls ≠ "java/lang/invoke/VarHandle" ∧ (parseMethodDescriptor yX7_init.desc).map (fun d => d.parameters.length) = some 0 := by decide +kernel
theorem K381 : (Cond.code yX7_init cX7_init 1 none) ∈ ALL := mAC ch_t2 (i := 65) (by decide +kernel) rfl
theorem GI_K381 : GoodIn ALL (Cond.code yX7_init cX7_init 1 none :: ALL) := gI K381
theorem K379 : (Cond.methodLinkNest RX6 25 yX7_init RX11) ∈ NGS := mNC ch_t2 (i := 63) (by decide +kernel) rfl
theorem K380 : (Cond.instanceMethod yX7_init) ∈ ALL := mAC ch_t2 (i := 64) (by decide +kernel) rfl
theorem PN_RX6 : plainName RX6 = true := by decide +kernel
theorem K444 : (Cond.methodLink RX1 3 objectInit) ∈ ALL := mAC ch_t2 (i := 128) (by decide +kernel) rfl
theorem K445 : (Cond.classLink RX1 9 RX6) ∈ ALL := mAC ch_t2 (i := 129) (by decide +kernel) rfl
theorem K371 : (Cond.instantiable RX6 5) ∈ ALL := mAC ch_t2 (i := 55) (by decide +kernel) rfl
theorem K86 : (Cond.initialized RX6) ∈ ALL := mAC ch_t1 (i := 10) (by decide +kernel) rfl
theorem HD_yX6_init : yX6_init.cls ≠ "java/lang/invoke/MethodHandle" ∧ yX6_init.cls ≠ "java/lang/invoke/VarHandle" ∧ (parseMethodDescriptor yX6_init.desc).map (fun d => d.parameters.length) = some 0 := by decide +kernel
theorem K374 : (Cond.code yX6_init cX6_init 2 none) ∈ ALL := mAC ch_t2 (i := 58) (by decide +kernel) rfl
theorem GI_K374 : GoodIn ALL (Cond.code yX6_init cX6_init 2 none :: ALL) := gI K374
theorem K446 : (Cond.methodLink RX1 11 yX6_init) ∈ ALL := mAC ch_t2 (i := 130) (by decide +kernel) rfl
theorem K373 : (Cond.instanceMethod yX6_init) ∈ ALL := mAC ch_t2 (i := 57) (by decide +kernel) rfl
theorem K448 : (Cond.fieldLink RX1 12 "Unwindlens$History" "start" "LUnwindlens$Target;") ∈ ALL := mAC ch_t2 (i := 132) (by decide +kernel) rfl
theorem K449 : (Cond.fieldLink RX1 18 "Unwindlens$History" "threads" "[I") ∈ ALL := mAC ch_t2 (i := 133) (by decide +kernel) rfl
theorem K447 : (Cond.fieldLink RX1 22 "Unwindlens$History" "program" "LUnwindlens$Program;") ∈ ALL := mAC ch_t2 (i := 131) (by decide +kernel) rfl
theorem PN_RX1 : plainName RX1 = true := by decide +kernel
theorem K466 : (Cond.methodLink RX8 3 objectInit) ∈ ALL := mAC ch_t2 (i := 150) (by decide +kernel) rfl
theorem K468 : (Cond.fieldLink RX8 9 "Unwindlens$Unwinding" "places" "[I") ∈ ALL := mAC ch_t2 (i := 152) (by decide +kernel) rfl
theorem K469 : (Cond.fieldLink RX8 15 "Unwindlens$Unwinding" "bases" "[I") ∈ ALL := mAC ch_t2 (i := 153) (by decide +kernel) rfl
theorem K470 : (Cond.fieldLink RX8 18 "Unwindlens$Unwinding" "sizes" "[I") ∈ ALL := mAC ch_t2 (i := 154) (by decide +kernel) rfl
theorem K467 : (Cond.fieldLink RX8 21 "Unwindlens$Unwinding" "program" "LUnwindlens$Program;") ∈ ALL := mAC ch_t2 (i := 151) (by decide +kernel) rfl
theorem PN_RX8 : plainName RX8 = true := by decide +kernel
theorem K496 : (Cond.methodLink RJ5 3 objectInit) ∈ ALL := mAC ch_t2 (i := 180) (by decide +kernel) rfl
theorem K497 : (Cond.fieldLink RJ5 18 "java/lang/String" "COMPACT_STRINGS" "Z") ∈ ALL := mAC ch_t2 (i := 181) (by decide +kernel) rfl
theorem K520 : (Cond.arrayClass .byte) ∈ ALL := mAC ch_t2 (i := 204) (by decide +kernel) rfl
theorem K506 : (Cond.fieldLink RJ5 15 "java/lang/AbstractStringBuilder" "value" "[B") ∈ ALL := mAC ch_t2 (i := 190) (by decide +kernel) rfl
theorem K507 : (Cond.fieldLink RJ5 22 "java/lang/AbstractStringBuilder" "coder" "B") ∈ ALL := mAC ch_t2 (i := 191) (by decide +kernel) rfl
theorem PN_RJ5 : plainName RJ5 = true := by decide +kernel
theorem HD_yJ5_init_d00df : yJ5_init_d00df.cls ≠ "java/lang/invoke/MethodHandle" ∧ yJ5_init_d00df.cls ≠ "java/lang/invoke/VarHandle" ∧ (parseMethodDescriptor yJ5_init_d00df.desc).map (fun d => d.parameters.length) = some 1 := by decide +kernel
theorem K495 : (Cond.code yJ5_init_d00df cJ5_init_d00df 2 none) ∈ ALL := mAC ch_t2 (i := 179) (by decide +kernel) rfl
theorem GI_K495 : GoodIn ALL (Cond.code yJ5_init_d00df cJ5_init_d00df 2 none :: ALL) := gI K495
theorem K90 : (Cond.initialized RJ5) ∈ ALL := mAC ch_t1 (i := 14) (by decide +kernel) rfl
theorem K493 : (Cond.methodLink RJ4 1 yJ5_init_d00df) ∈ ALL := mAC ch_t2 (i := 177) (by decide +kernel) rfl
theorem K494 : (Cond.instanceMethod yJ5_init_d00df) ∈ ALL := mAC ch_t2 (i := 178) (by decide +kernel) rfl
theorem PN_RJ4 : plainName RJ4 = true := by decide +kernel
theorem K128 : (Cond.methodLink RX11 1 objectInit) ∈ ALL := mAC ch_t1 (i := 52) (by decide +kernel) rfl
theorem K131 : (Cond.classLink RX11 7 RX3) ∈ ALL := mAC ch_t1 (i := 55) (by decide +kernel) rfl
theorem K132 : (Cond.instantiable RX3 10) ∈ ALL := mAC ch_t1 (i := 56) (by decide +kernel) rfl
theorem HD_yX3_init : yX3_init.cls ≠ "java/lang/invoke/MethodHandle" ∧ yX3_init.cls ≠ "java/lang/invoke/VarHandle" ∧ (parseMethodDescriptor yX3_init.desc).map (fun d => d.parameters.length) = some 0 := by decide +kernel
theorem K135 : (Cond.code yX3_init cX3_init 1 none) ∈ ALL := mAC ch_t1 (i := 59) (by decide +kernel) rfl
theorem GI_K135 : GoodIn ALL (Cond.code yX3_init cX3_init 1 none :: ALL) := gI K135
theorem K133 : (Cond.methodLinkNest RX11 9 yX3_init RX11) ∈ NGS := mNC ch_t1 (i := 57) (by decide +kernel) rfl
theorem K134 : (Cond.instanceMethod yX3_init) ∈ ALL := mAC ch_t1 (i := 58) (by decide +kernel) rfl
theorem K194 : (Cond.classLink RX11 16 RX2) ∈ ALL := mAC ch_t1 (i := 118) (by decide +kernel) rfl
theorem K195 : (Cond.instantiable RX2 11) ∈ ALL := mAC ch_t1 (i := 119) (by decide +kernel) rfl
theorem HD_yX2_init : yX2_init.cls ≠ "java/lang/invoke/MethodHandle" ∧ yX2_init.cls ≠ "java/lang/invoke/VarHandle" ∧ (parseMethodDescriptor yX2_init.desc).map (fun d => d.parameters.length) = some 1 := by decide +kernel
theorem K198 : (Cond.code yX2_init cX2_init 2 none) ∈ ALL := mAC ch_t1 (i := 122) (by decide +kernel) rfl
theorem GI_K198 : GoodIn ALL (Cond.code yX2_init cX2_init 2 none :: ALL) := gI K198
theorem K196 : (Cond.methodLink RX11 18 yX2_init) ∈ ALL := mAC ch_t1 (i := 120) (by decide +kernel) rfl
theorem K197 : (Cond.instanceMethod yX2_init) ∈ ALL := mAC ch_t1 (i := 121) (by decide +kernel) rfl
theorem K238 : (Cond.classLink RX11 25 RX0) ∈ ALL := mAC ch_t1 (i := 162) (by decide +kernel) rfl
theorem K239 : (Cond.instantiable RX0 13) ∈ ALL := mAC ch_t1 (i := 163) (by decide +kernel) rfl
theorem HD_yX0_init : yX0_init.cls ≠ "java/lang/invoke/MethodHandle" ∧ yX0_init.cls ≠ "java/lang/invoke/VarHandle" ∧ (parseMethodDescriptor yX0_init.desc).map (fun d => d.parameters.length) = some 2 := by decide +kernel
theorem K242 : (Cond.code yX0_init cX0_init 3 none) ∈ ALL := mAC ch_t1 (i := 166) (by decide +kernel) rfl
theorem GI_K242 : GoodIn ALL (Cond.code yX0_init cX0_init 3 none :: ALL) := gI K242
theorem K240 : (Cond.methodLink RX11 27 yX0_init) ∈ ALL := mAC ch_t1 (i := 164) (by decide +kernel) rfl
theorem K241 : (Cond.instanceMethod yX0_init) ∈ ALL := mAC ch_t1 (i := 165) (by decide +kernel) rfl
theorem K348 : (Cond.classLink RX11 34 RX10) ∈ ALL := mAC ch_t2 (i := 32) (by decide +kernel) rfl
theorem K349 : (Cond.instantiable RX10 4) ∈ ALL := mAC ch_t2 (i := 33) (by decide +kernel) rfl
theorem K85 : (Cond.initialized RX10) ∈ ALL := mAC ch_t1 (i := 9) (by decide +kernel) rfl
theorem HD_yX10_init : yX10_init.cls ≠ "java/lang/invoke/MethodHandle" ∧ yX10_init.cls ≠ "java/lang/invoke/VarHandle" ∧ (parseMethodDescriptor yX10_init.desc).map (fun d => d.parameters.length) = some 0 := by decide +kernel
theorem K352 : (Cond.code yX10_init cX10_init 2 none) ∈ ALL := mAC ch_t2 (i := 36) (by decide +kernel) rfl
theorem GI_K352 : GoodIn ALL (Cond.code yX10_init cX10_init 2 none :: ALL) := gI K352
theorem K350 : (Cond.methodLink RX11 36 yX10_init) ∈ ALL := mAC ch_t2 (i := 34) (by decide +kernel) rfl
theorem K351 : (Cond.instanceMethod yX10_init) ∈ ALL := mAC ch_t2 (i := 35) (by decide +kernel) rfl
theorem K524 : (Cond.fieldLink RX11 37 "Unwindlens" "watches" "LUnwindlens$Watches;") ∈ ALL := mAC ch_t2 (i := 208) (by decide +kernel) rfl
theorem K370 : (Cond.classLink RX11 41 RX6) ∈ ALL := mAC ch_t2 (i := 54) (by decide +kernel) rfl
theorem K372 : (Cond.methodLink RX11 43 yX6_init) ∈ ALL := mAC ch_t2 (i := 56) (by decide +kernel) rfl
theorem K526 : (Cond.fieldLink RX11 48 "Unwindlens" "trial" "LUnwindlens$Target;") ∈ ALL := mAC ch_t2 (i := 210) (by decide +kernel) rfl
theorem K439 : (Cond.classLink RX11 51 RX1) ∈ ALL := mAC ch_t2 (i := 123) (by decide +kernel) rfl
theorem K440 : (Cond.instantiable RX1 4) ∈ ALL := mAC ch_t2 (i := 124) (by decide +kernel) rfl
theorem K88 : (Cond.initialized RX1) ∈ ALL := mAC ch_t1 (i := 12) (by decide +kernel) rfl
theorem HD_yX1_init : yX1_init.cls ≠ "java/lang/invoke/MethodHandle" ∧ yX1_init.cls ≠ "java/lang/invoke/VarHandle" ∧ (parseMethodDescriptor yX1_init.desc).map (fun d => d.parameters.length) = some 1 := by decide +kernel
theorem K443 : (Cond.code yX1_init cX1_init 2 none) ∈ ALL := mAC ch_t2 (i := 127) (by decide +kernel) rfl
theorem GI_K443 : GoodIn ALL (Cond.code yX1_init cX1_init 2 none :: ALL) := gI K443
theorem K441 : (Cond.methodLink RX11 53 yX1_init) ∈ ALL := mAC ch_t2 (i := 125) (by decide +kernel) rfl
theorem K442 : (Cond.instanceMethod yX1_init) ∈ ALL := mAC ch_t2 (i := 126) (by decide +kernel) rfl
theorem K527 : (Cond.fieldLink RX11 54 "Unwindlens" "history" "LUnwindlens$History;") ∈ ALL := mAC ch_t2 (i := 211) (by decide +kernel) rfl
theorem K528 : (Cond.fieldLink RX11 58 "Unwindlens" "held" "[Z") ∈ ALL := mAC ch_t2 (i := 212) (by decide +kernel) rfl
theorem K461 : (Cond.classLink RX11 62 RX8) ∈ ALL := mAC ch_t2 (i := 145) (by decide +kernel) rfl
theorem K462 : (Cond.instantiable RX8 5) ∈ ALL := mAC ch_t2 (i := 146) (by decide +kernel) rfl
theorem K89 : (Cond.initialized RX8) ∈ ALL := mAC ch_t1 (i := 13) (by decide +kernel) rfl
theorem HD_yX8_init : yX8_init.cls ≠ "java/lang/invoke/MethodHandle" ∧ yX8_init.cls ≠ "java/lang/invoke/VarHandle" ∧ (parseMethodDescriptor yX8_init.desc).map (fun d => d.parameters.length) = some 1 := by decide +kernel
theorem K465 : (Cond.code yX8_init cX8_init 2 none) ∈ ALL := mAC ch_t2 (i := 149) (by decide +kernel) rfl
theorem GI_K465 : GoodIn ALL (Cond.code yX8_init cX8_init 2 none :: ALL) := gI K465
theorem K463 : (Cond.methodLink RX11 64 yX8_init) ∈ ALL := mAC ch_t2 (i := 147) (by decide +kernel) rfl
theorem K464 : (Cond.instanceMethod yX8_init) ∈ ALL := mAC ch_t2 (i := 148) (by decide +kernel) rfl
theorem K529 : (Cond.fieldLink RX11 65 "Unwindlens" "unwinding" "LUnwindlens$Unwinding;") ∈ ALL := mAC ch_t2 (i := 213) (by decide +kernel) rfl
theorem K484 : (Cond.classLink RX11 69 RX9) ∈ ALL := mAC ch_t2 (i := 168) (by decide +kernel) rfl
theorem K485 : (Cond.methodLinkNest RX11 71 yX9_init RX11) ∈ NGS := mNC ch_t2 (i := 169) (by decide +kernel) rfl
theorem K530 : (Cond.fieldLink RX11 72 "Unwindlens" "view" "LUnwindlens$View;") ∈ ALL := mAC ch_t2 (i := 214) (by decide +kernel) rfl
theorem K486 : (Cond.classLink RX11 76 RX5) ∈ ALL := mAC ch_t2 (i := 170) (by decide +kernel) rfl
theorem K487 : (Cond.methodLinkNest RX11 78 yX5_init RX11) ∈ NGS := mNC ch_t2 (i := 171) (by decide +kernel) rfl
theorem K531 : (Cond.fieldLink RX11 79 "Unwindlens" "spot" "LUnwindlens$Spot;") ∈ ALL := mAC ch_t2 (i := 215) (by decide +kernel) rfl
theorem K488 : (Cond.classLink RX11 83 RJ4) ∈ ALL := mAC ch_t2 (i := 172) (by decide +kernel) rfl
theorem K489 : (Cond.instantiable RJ4 4) ∈ ALL := mAC ch_t2 (i := 173) (by decide +kernel) rfl
theorem K91 : (Cond.initialized RJ4) ∈ ALL := mAC ch_t1 (i := 15) (by decide +kernel) rfl
theorem HD_yJ4_init_da8c8 : yJ4_init_da8c8.cls ≠ "java/lang/invoke/MethodHandle" ∧ yJ4_init_da8c8.cls ≠ "java/lang/invoke/VarHandle" ∧ (parseMethodDescriptor yJ4_init_da8c8.desc).map (fun d => d.parameters.length) = some 0 := by decide +kernel
theorem K492 : (Cond.code yJ4_init_da8c8 cJ4_init_da8c8 1 none) ∈ ALL := mAC ch_t2 (i := 176) (by decide +kernel) rfl
theorem GI_K492 : GoodIn ALL (Cond.code yJ4_init_da8c8 cJ4_init_da8c8 1 none :: ALL) := gI K492
theorem K490 : (Cond.methodLink RX11 85 yJ4_init_da8c8) ∈ ALL := mAC ch_t2 (i := 174) (by decide +kernel) rfl
theorem K491 : (Cond.instanceMethod yJ4_init_da8c8) ∈ ALL := mAC ch_t2 (i := 175) (by decide +kernel) rfl
theorem K532 : (Cond.fieldLink RX11 86 "Unwindlens" "signs" "Ljava/lang/StringBuilder;") ∈ ALL := mAC ch_t2 (i := 216) (by decide +kernel) rfl
theorem K533 : (Cond.fieldLink RX11 90 "Unwindlens" "ending" "C") ∈ ALL := mAC ch_t2 (i := 217) (by decide +kernel) rfl
theorem K534 : (Cond.fieldLink RX11 94 "Unwindlens" "ender" "I") ∈ ALL := mAC ch_t2 (i := 218) (by decide +kernel) rfl
theorem dX4_init_0 : decode cX4_init 0 = .ok (.aload_n 0, 1) := by decide +kernel
theorem dX4_init_1 : decode cX4_init 1 = .ok (.invokespecial 3, 3) := by decide +kernel
theorem dX4_init_4 : decode cX4_init 4 = .ok (.aload_n 0, 1) := by decide +kernel
theorem dX4_init_5 : decode cX4_init 5 = .ok (.iload_n 1, 1) := by decide +kernel
theorem dX4_init_6 : decode cX4_init 6 = .ok (.iconst 0, 1) := by decide +kernel
theorem dX4_init_7 : decode cX4_init 7 = .ok (.invokestatic 9, 3) := by decide +kernel
theorem dX4_init_10 : decode cX4_init 10 = .ok (.newarray .int, 2) := by decide +kernel
theorem dX4_init_12 : decode cX4_init 12 = .ok (.putfield 15, 3) := by decide +kernel
theorem dX4_init_15 : decode cX4_init 15 = .ok (.aload_n 0, 1) := by decide +kernel
theorem dX4_init_16 : decode cX4_init 16 = .ok (.iload_n 1, 1) := by decide +kernel
theorem dX4_init_17 : decode cX4_init 17 = .ok (.iconst 0, 1) := by decide +kernel
theorem dX4_init_18 : decode cX4_init 18 = .ok (.invokestatic 9, 3) := by decide +kernel
theorem dX4_init_21 : decode cX4_init 21 = .ok (.newarray .int, 2) := by decide +kernel
theorem dX4_init_23 : decode cX4_init 23 = .ok (.putfield 21, 3) := by decide +kernel
theorem dX4_init_26 : decode cX4_init 26 = .ok (.return_, 1) := by decide +kernel
theorem dX3_init_0 : decode cX3_init 0 = .ok (.aload_n 0, 1) := by decide +kernel
theorem dX3_init_1 : decode cX3_init 1 = .ok (.invokespecial 3, 3) := by decide +kernel
theorem dX3_init_4 : decode cX3_init 4 = .ok (.aload_n 0, 1) := by decide +kernel
theorem dX3_init_5 : decode cX3_init 5 = .ok (.new 9, 3) := by decide +kernel
theorem dX3_init_8 : decode cX3_init 8 = .ok (.dup, 1) := by decide +kernel
theorem dX3_init_9 : decode cX3_init 9 = .ok (.bipush 6, 2) := by decide +kernel
theorem dX3_init_11 : decode cX3_init 11 = .ok (.invokespecial 11, 3) := by decide +kernel
theorem dX3_init_14 : decode cX3_init 14 = .ok (.putfield 14, 3) := by decide +kernel
theorem dX3_init_17 : decode cX3_init 17 = .ok (.aload_n 0, 1) := by decide +kernel
theorem dX3_init_18 : decode cX3_init 18 = .ok (.new 9, 3) := by decide +kernel
theorem dX3_init_21 : decode cX3_init 21 = .ok (.dup, 1) := by decide +kernel
theorem dX3_init_22 : decode cX3_init 22 = .ok (.bipush 6, 2) := by decide +kernel
theorem dX3_init_24 : decode cX3_init 24 = .ok (.invokespecial 11, 3) := by decide +kernel
theorem dX3_init_27 : decode cX3_init 27 = .ok (.putfield 20, 3) := by decide +kernel
theorem dX3_init_30 : decode cX3_init 30 = .ok (.aload_n 0, 1) := by decide +kernel
theorem dX3_init_31 : decode cX3_init 31 = .ok (.bipush 6, 2) := by decide +kernel
theorem dX3_init_33 : decode cX3_init 33 = .ok (.newarray .int, 2) := by decide +kernel
theorem dX3_init_35 : decode cX3_init 35 = .ok (.putfield 23, 3) := by decide +kernel
theorem dX3_init_38 : decode cX3_init 38 = .ok (.aload_n 0, 1) := by decide +kernel
theorem dX3_init_39 : decode cX3_init 39 = .ok (.bipush 6, 2) := by decide +kernel
theorem dX3_init_41 : decode cX3_init 41 = .ok (.newarray .int, 2) := by decide +kernel
theorem dX3_init_43 : decode cX3_init 43 = .ok (.putfield 27, 3) := by decide +kernel
theorem dX3_init_46 : decode cX3_init 46 = .ok (.aload_n 0, 1) := by decide +kernel
theorem dX3_init_47 : decode cX3_init 47 = .ok (.bipush 60, 2) := by decide +kernel
theorem dX3_init_49 : decode cX3_init 49 = .ok (.newarray .char, 2) := by decide +kernel
theorem dX3_init_51 : decode cX3_init 51 = .ok (.putfield 30, 3) := by decide +kernel
theorem dX3_init_54 : decode cX3_init 54 = .ok (.aload_n 0, 1) := by decide +kernel
theorem dX3_init_55 : decode cX3_init 55 = .ok (.bipush 60, 2) := by decide +kernel
theorem dX3_init_57 : decode cX3_init 57 = .ok (.newarray .int, 2) := by decide +kernel
theorem dX3_init_59 : decode cX3_init 59 = .ok (.putfield 34, 3) := by decide +kernel
theorem dX3_init_62 : decode cX3_init 62 = .ok (.aload_n 0, 1) := by decide +kernel
theorem dX3_init_63 : decode cX3_init 63 = .ok (.bipush 60, 2) := by decide +kernel
theorem dX3_init_65 : decode cX3_init 65 = .ok (.newarray .int, 2) := by decide +kernel
theorem dX3_init_67 : decode cX3_init 67 = .ok (.putfield 37, 3) := by decide +kernel
theorem dX3_init_70 : decode cX3_init 70 = .ok (.aload_n 0, 1) := by decide +kernel
theorem dX3_init_71 : decode cX3_init 71 = .ok (.bipush 60, 2) := by decide +kernel
theorem dX3_init_73 : decode cX3_init 73 = .ok (.newarray .int, 2) := by decide +kernel
theorem dX3_init_75 : decode cX3_init 75 = .ok (.putfield 40, 3) := by decide +kernel
theorem dX3_init_78 : decode cX3_init 78 = .ok (.aload_n 0, 1) := by decide +kernel
theorem dX3_init_79 : decode cX3_init 79 = .ok (.bipush 60, 2) := by decide +kernel
theorem dX3_init_81 : decode cX3_init 81 = .ok (.newarray .char, 2) := by decide +kernel
theorem dX3_init_83 : decode cX3_init 83 = .ok (.putfield 43, 3) := by decide +kernel
theorem dX3_init_86 : decode cX3_init 86 = .ok (.return_, 1) := by decide +kernel
theorem dX2_init_0 : decode cX2_init 0 = .ok (.aload_n 0, 1) := by decide +kernel
theorem dX2_init_1 : decode cX2_init 1 = .ok (.invokespecial 3, 3) := by decide +kernel
theorem dX2_init_4 : decode cX2_init 4 = .ok (.aload_n 0, 1) := by decide +kernel
theorem dX2_init_5 : decode cX2_init 5 = .ok (.new 9, 3) := by decide +kernel
theorem dX2_init_8 : decode cX2_init 8 = .ok (.dup, 1) := by decide +kernel
theorem dX2_init_9 : decode cX2_init 9 = .ok (.bipush 12, 2) := by decide +kernel
theorem dX2_init_11 : decode cX2_init 11 = .ok (.invokespecial 11, 3) := by decide +kernel
theorem dX2_init_14 : decode cX2_init 14 = .ok (.putfield 14, 3) := by decide +kernel
theorem dX2_init_17 : decode cX2_init 17 = .ok (.aload_n 0, 1) := by decide +kernel
theorem dX2_init_18 : decode cX2_init 18 = .ok (.new 9, 3) := by decide +kernel
theorem dX2_init_21 : decode cX2_init 21 = .ok (.dup, 1) := by decide +kernel
theorem dX2_init_22 : decode cX2_init 22 = .ok (.bipush 24, 2) := by decide +kernel
theorem dX2_init_24 : decode cX2_init 24 = .ok (.invokespecial 11, 3) := by decide +kernel
theorem dX2_init_27 : decode cX2_init 27 = .ok (.putfield 20, 3) := by decide +kernel
theorem dX2_init_30 : decode cX2_init 30 = .ok (.aload_n 0, 1) := by decide +kernel
theorem dX2_init_31 : decode cX2_init 31 = .ok (.bipush 24, 2) := by decide +kernel
theorem dX2_init_33 : decode cX2_init 33 = .ok (.newarray .int, 2) := by decide +kernel
theorem dX2_init_35 : decode cX2_init 35 = .ok (.putfield 23, 3) := by decide +kernel
theorem dX2_init_38 : decode cX2_init 38 = .ok (.aload_n 0, 1) := by decide +kernel
theorem dX2_init_39 : decode cX2_init 39 = .ok (.bipush 24, 2) := by decide +kernel
theorem dX2_init_41 : decode cX2_init 41 = .ok (.newarray .char, 2) := by decide +kernel
theorem dX2_init_43 : decode cX2_init 43 = .ok (.putfield 27, 3) := by decide +kernel
theorem dX2_init_46 : decode cX2_init 46 = .ok (.aload_n 0, 1) := by decide +kernel
theorem dX2_init_47 : decode cX2_init 47 = .ok (.bipush 24, 2) := by decide +kernel
theorem dX2_init_49 : decode cX2_init 49 = .ok (.newarray .int, 2) := by decide +kernel
theorem dX2_init_51 : decode cX2_init 51 = .ok (.putfield 31, 3) := by decide +kernel
theorem dX2_init_54 : decode cX2_init 54 = .ok (.aload_n 0, 1) := by decide +kernel
theorem dX2_init_55 : decode cX2_init 55 = .ok (.bipush 20, 2) := by decide +kernel
theorem dX2_init_57 : decode cX2_init 57 = .ok (.newarray .int, 2) := by decide +kernel
theorem dX2_init_59 : decode cX2_init 59 = .ok (.putfield 34, 3) := by decide +kernel
theorem dX2_init_62 : decode cX2_init 62 = .ok (.aload_n 0, 1) := by decide +kernel
theorem dX2_init_63 : decode cX2_init 63 = .ok (.bipush 20, 2) := by decide +kernel
theorem dX2_init_65 : decode cX2_init 65 = .ok (.newarray .char, 2) := by decide +kernel
theorem dX2_init_67 : decode cX2_init 67 = .ok (.putfield 37, 3) := by decide +kernel
theorem dX2_init_70 : decode cX2_init 70 = .ok (.aload_n 0, 1) := by decide +kernel
theorem dX2_init_71 : decode cX2_init 71 = .ok (.bipush 20, 2) := by decide +kernel
theorem dX2_init_73 : decode cX2_init 73 = .ok (.newarray .char, 2) := by decide +kernel
theorem dX2_init_75 : decode cX2_init 75 = .ok (.putfield 40, 3) := by decide +kernel
theorem dX2_init_78 : decode cX2_init 78 = .ok (.aload_n 0, 1) := by decide +kernel
theorem dX2_init_79 : decode cX2_init 79 = .ok (.bipush 20, 2) := by decide +kernel
theorem dX2_init_81 : decode cX2_init 81 = .ok (.newarray .int, 2) := by decide +kernel
theorem dX2_init_83 : decode cX2_init 83 = .ok (.putfield 43, 3) := by decide +kernel
theorem dX2_init_86 : decode cX2_init 86 = .ok (.aload_n 0, 1) := by decide +kernel
theorem dX2_init_87 : decode cX2_init 87 = .ok (.aload_n 1, 1) := by decide +kernel
theorem dX2_init_88 : decode cX2_init 88 = .ok (.putfield 46, 3) := by decide +kernel
theorem dX2_init_91 : decode cX2_init 91 = .ok (.return_, 1) := by decide +kernel
theorem dX9_init_0 : decode cX9_init 0 = .ok (.aload_n 0, 1) := by decide +kernel
theorem dX9_init_1 : decode cX9_init 1 = .ok (.invokespecial 3, 3) := by decide +kernel
theorem dX9_init_4 : decode cX9_init 4 = .ok (.aload_n 0, 1) := by decide +kernel
theorem dX9_init_5 : decode cX9_init 5 = .ok (.iconst (-1), 1) := by decide +kernel
theorem dX9_init_6 : decode cX9_init 6 = .ok (.putfield 9, 3) := by decide +kernel
theorem dX9_init_9 : decode cX9_init 9 = .ok (.return_, 1) := by decide +kernel
theorem dX5_init_0 : decode cX5_init 0 = .ok (.aload_n 0, 1) := by decide +kernel
theorem dX5_init_1 : decode cX5_init 1 = .ok (.invokespecial 3, 3) := by decide +kernel
theorem dX5_init_4 : decode cX5_init 4 = .ok (.aload_n 0, 1) := by decide +kernel
theorem dX5_init_5 : decode cX5_init 5 = .ok (.bipush 45, 2) := by decide +kernel
theorem dX5_init_7 : decode cX5_init 7 = .ok (.putfield 9, 3) := by decide +kernel
theorem dX5_init_10 : decode cX5_init 10 = .ok (.return_, 1) := by decide +kernel
theorem dX0_init_0 : decode cX0_init 0 = .ok (.aload_n 0, 1) := by decide +kernel
theorem dX0_init_1 : decode cX0_init 1 = .ok (.invokespecial 3, 3) := by decide +kernel
theorem dX0_init_4 : decode cX0_init 4 = .ok (.aload_n 0, 1) := by decide +kernel
theorem dX0_init_5 : decode cX0_init 5 = .ok (.new 9, 3) := by decide +kernel
theorem dX0_init_8 : decode cX0_init 8 = .ok (.dup, 1) := by decide +kernel
theorem dX0_init_9 : decode cX0_init 9 = .ok (.invokespecial 11, 3) := by decide +kernel
theorem dX0_init_12 : decode cX0_init 12 = .ok (.putfield 12, 3) := by decide +kernel
theorem dX0_init_15 : decode cX0_init 15 = .ok (.aload_n 0, 1) := by decide +kernel
theorem dX0_init_16 : decode cX0_init 16 = .ok (.new 18, 3) := by decide +kernel
theorem dX0_init_19 : decode cX0_init 19 = .ok (.dup, 1) := by decide +kernel
theorem dX0_init_20 : decode cX0_init 20 = .ok (.invokespecial 20, 3) := by decide +kernel
theorem dX0_init_23 : decode cX0_init 23 = .ok (.putfield 21, 3) := by decide +kernel
theorem dX0_init_26 : decode cX0_init 26 = .ok (.aload_n 0, 1) := by decide +kernel
theorem dX0_init_27 : decode cX0_init 27 = .ok (.bipush 8, 2) := by decide +kernel
theorem dX0_init_29 : decode cX0_init 29 = .ok (.newarray .long, 2) := by decide +kernel
theorem dX0_init_31 : decode cX0_init 31 = .ok (.putfield 25, 3) := by decide +kernel
theorem dX0_init_34 : decode cX0_init 34 = .ok (.aload_n 0, 1) := by decide +kernel
theorem dX0_init_35 : decode cX0_init 35 = .ok (.bipush 8, 2) := by decide +kernel
theorem dX0_init_37 : decode cX0_init 37 = .ok (.newarray .char, 2) := by decide +kernel
theorem dX0_init_39 : decode cX0_init 39 = .ok (.putfield 29, 3) := by decide +kernel
theorem dX0_init_42 : decode cX0_init 42 = .ok (.aload_n 0, 1) := by decide +kernel
theorem dX0_init_43 : decode cX0_init 43 = .ok (.bipush 8, 2) := by decide +kernel
theorem dX0_init_45 : decode cX0_init 45 = .ok (.newarray .char, 2) := by decide +kernel
theorem dX0_init_47 : decode cX0_init 47 = .ok (.putfield 33, 3) := by decide +kernel
theorem dX0_init_50 : decode cX0_init 50 = .ok (.aload_n 0, 1) := by decide +kernel
theorem dX0_init_51 : decode cX0_init 51 = .ok (.bipush 8, 2) := by decide +kernel
theorem dX0_init_53 : decode cX0_init 53 = .ok (.newarray .int, 2) := by decide +kernel
theorem dX0_init_55 : decode cX0_init 55 = .ok (.putfield 36, 3) := by decide +kernel
theorem dX0_init_58 : decode cX0_init 58 = .ok (.aload_n 0, 1) := by decide +kernel
theorem dX0_init_59 : decode cX0_init 59 = .ok (.bipush 8, 2) := by decide +kernel
theorem dX0_init_61 : decode cX0_init 61 = .ok (.newarray .boolean, 2) := by decide +kernel
theorem dX0_init_63 : decode cX0_init 63 = .ok (.putfield 40, 3) := by decide +kernel
theorem dX0_init_66 : decode cX0_init 66 = .ok (.aload_n 0, 1) := by decide +kernel
theorem dX0_init_67 : decode cX0_init 67 = .ok (.bipush 8, 2) := by decide +kernel
theorem dX0_init_69 : decode cX0_init 69 = .ok (.newarray .int, 2) := by decide +kernel
theorem dX0_init_71 : decode cX0_init 71 = .ok (.putfield 44, 3) := by decide +kernel
theorem dX0_init_74 : decode cX0_init 74 = .ok (.aload_n 0, 1) := by decide +kernel
theorem dX0_init_75 : decode cX0_init 75 = .ok (.bipush 8, 2) := by decide +kernel
theorem dX0_init_77 : decode cX0_init 77 = .ok (.newarray .int, 2) := by decide +kernel
theorem dX0_init_79 : decode cX0_init 79 = .ok (.putfield 47, 3) := by decide +kernel
theorem dX0_init_82 : decode cX0_init 82 = .ok (.aload_n 0, 1) := by decide +kernel
theorem dX0_init_83 : decode cX0_init 83 = .ok (.iconst 3, 1) := by decide +kernel
theorem dX0_init_84 : decode cX0_init 84 = .ok (.newarray .int, 2) := by decide +kernel
theorem dX0_init_86 : decode cX0_init 86 = .ok (.putfield 50, 3) := by decide +kernel
theorem dX0_init_89 : decode cX0_init 89 = .ok (.aload_n 0, 1) := by decide +kernel
theorem dX0_init_90 : decode cX0_init 90 = .ok (.aload_n 1, 1) := by decide +kernel
theorem dX0_init_91 : decode cX0_init 91 = .ok (.putfield 53, 3) := by decide +kernel
theorem dX0_init_94 : decode cX0_init 94 = .ok (.aload_n 0, 1) := by decide +kernel
theorem dX0_init_95 : decode cX0_init 95 = .ok (.aload_n 2, 1) := by decide +kernel
theorem dX0_init_96 : decode cX0_init 96 = .ok (.putfield 57, 3) := by decide +kernel
theorem dX0_init_99 : decode cX0_init 99 = .ok (.return_, 1) := by decide +kernel
theorem dX10_init_0 : decode cX10_init 0 = .ok (.aload_n 0, 1) := by decide +kernel
theorem dX10_init_1 : decode cX10_init 1 = .ok (.invokespecial 3, 3) := by decide +kernel
theorem dX10_init_4 : decode cX10_init 4 = .ok (.aload_n 0, 1) := by decide +kernel
theorem dX10_init_5 : decode cX10_init 5 = .ok (.iconst 4, 1) := by decide +kernel
theorem dX10_init_6 : decode cX10_init 6 = .ok (.anewarray 9, 3) := by decide +kernel
theorem dX10_init_9 : decode cX10_init 9 = .ok (.putfield 11, 3) := by decide +kernel
theorem dX10_init_12 : decode cX10_init 12 = .ok (.aload_n 0, 1) := by decide +kernel
theorem dX10_init_13 : decode cX10_init 13 = .ok (.iconst 4, 1) := by decide +kernel
theorem dX10_init_14 : decode cX10_init 14 = .ok (.newarray .int, 2) := by decide +kernel
theorem dX10_init_16 : decode cX10_init 16 = .ok (.putfield 17, 3) := by decide +kernel
theorem dX10_init_19 : decode cX10_init 19 = .ok (.aload_n 0, 1) := by decide +kernel
theorem dX10_init_20 : decode cX10_init 20 = .ok (.iconst 4, 1) := by decide +kernel
theorem dX10_init_21 : decode cX10_init 21 = .ok (.newarray .boolean, 2) := by decide +kernel
theorem dX10_init_23 : decode cX10_init 23 = .ok (.putfield 21, 3) := by decide +kernel
theorem dX10_init_26 : decode cX10_init 26 = .ok (.iconst 0, 1) := by decide +kernel
theorem dX10_init_27 : decode cX10_init 27 = .ok (.istore_n 1, 1) := by decide +kernel
theorem dX10_init_28 : decode cX10_init 28 = .ok (.iload_n 1, 1) := by decide +kernel
theorem dX10_init_29 : decode cX10_init 29 = .ok (.iconst 4, 1) := by decide +kernel
theorem dX10_init_30 : decode cX10_init 30 = .ok (.if_icmp .ge 22, 3) := by decide +kernel
theorem dX10_init_33 : decode cX10_init 33 = .ok (.aload_n 0, 1) := by decide +kernel
theorem dX10_init_34 : decode cX10_init 34 = .ok (.getfield 11, 3) := by decide +kernel
theorem dX10_init_37 : decode cX10_init 37 = .ok (.iload_n 1, 1) := by decide +kernel
theorem dX10_init_38 : decode cX10_init 38 = .ok (.new 9, 3) := by decide +kernel
theorem dX10_init_41 : decode cX10_init 41 = .ok (.dup, 1) := by decide +kernel
theorem dX10_init_42 : decode cX10_init 42 = .ok (.invokespecial 25, 3) := by decide +kernel
theorem dX10_init_45 : decode cX10_init 45 = .ok (.aastore, 1) := by decide +kernel
theorem dX10_init_46 : decode cX10_init 46 = .ok (.iinc 1 1, 3) := by decide +kernel
theorem dX10_init_49 : decode cX10_init 49 = .ok (.goto (-21), 3) := by decide +kernel
theorem dX10_init_52 : decode cX10_init 52 = .ok (.return_, 1) := by decide +kernel
theorem dX7_init_0 : decode cX7_init 0 = .ok (.aload_n 0, 1) := by decide +kernel
theorem dX7_init_1 : decode cX7_init 1 = .ok (.invokespecial 3, 3) := by decide +kernel
theorem dX7_init_4 : decode cX7_init 4 = .ok (.aload_n 0, 1) := by decide +kernel
theorem dX7_init_5 : decode cX7_init 5 = .ok (.iconst 4, 1) := by decide +kernel
theorem dX7_init_6 : decode cX7_init 6 = .ok (.newarray .int, 2) := by decide +kernel
theorem dX7_init_8 : decode cX7_init 8 = .ok (.putfield 9, 3) := by decide +kernel
theorem dX7_init_11 : decode cX7_init 11 = .ok (.aload_n 0, 1) := by decide +kernel
theorem dX7_init_12 : decode cX7_init 12 = .ok (.bipush 40, 2) := by decide +kernel
theorem dX7_init_14 : decode cX7_init 14 = .ok (.newarray .int, 2) := by decide +kernel
theorem dX7_init_16 : decode cX7_init 16 = .ok (.putfield 15, 3) := by decide +kernel
theorem dX7_init_19 : decode cX7_init 19 = .ok (.aload_n 0, 1) := by decide +kernel
theorem dX7_init_20 : decode cX7_init 20 = .ok (.bipush 114, 2) := by decide +kernel
theorem dX7_init_22 : decode cX7_init 22 = .ok (.putfield 18, 3) := by decide +kernel
theorem dX7_init_25 : decode cX7_init 25 = .ok (.aload_n 0, 1) := by decide +kernel
theorem dX7_init_26 : decode cX7_init 26 = .ok (.bipush 45, 2) := by decide +kernel
theorem dX7_init_28 : decode cX7_init 28 = .ok (.putfield 22, 3) := by decide +kernel
theorem dX7_init_31 : decode cX7_init 31 = .ok (.return_, 1) := by decide +kernel
theorem dX6_init_0 : decode cX6_init 0 = .ok (.aload_n 0, 1) := by decide +kernel
theorem dX6_init_1 : decode cX6_init 1 = .ok (.invokespecial 3, 3) := by decide +kernel
theorem dX6_init_4 : decode cX6_init 4 = .ok (.aload_n 0, 1) := by decide +kernel
theorem dX6_init_5 : decode cX6_init 5 = .ok (.bipush 16, 2) := by decide +kernel
theorem dX6_init_7 : decode cX6_init 7 = .ok (.newarray .int, 2) := by decide +kernel
theorem dX6_init_9 : decode cX6_init 9 = .ok (.putfield 9, 3) := by decide +kernel
theorem dX6_init_12 : decode cX6_init 12 = .ok (.aload_n 0, 1) := by decide +kernel
theorem dX6_init_13 : decode cX6_init 13 = .ok (.iconst 3, 1) := by decide +kernel
theorem dX6_init_14 : decode cX6_init 14 = .ok (.anewarray 15, 3) := by decide +kernel
theorem dX6_init_17 : decode cX6_init 17 = .ok (.putfield 17, 3) := by decide +kernel
theorem dX6_init_20 : decode cX6_init 20 = .ok (.aload_n 0, 1) := by decide +kernel
theorem dX6_init_21 : decode cX6_init 21 = .ok (.iconst (-1), 1) := by decide +kernel
theorem dX6_init_22 : decode cX6_init 22 = .ok (.putfield 21, 3) := by decide +kernel
theorem dX6_init_25 : decode cX6_init 25 = .ok (.iconst 0, 1) := by decide +kernel
theorem dX6_init_26 : decode cX6_init 26 = .ok (.istore_n 1, 1) := by decide +kernel
theorem dX6_init_27 : decode cX6_init 27 = .ok (.iload_n 1, 1) := by decide +kernel
theorem dX6_init_28 : decode cX6_init 28 = .ok (.iconst 3, 1) := by decide +kernel
theorem dX6_init_29 : decode cX6_init 29 = .ok (.if_icmp .ge 22, 3) := by decide +kernel
theorem dX6_init_32 : decode cX6_init 32 = .ok (.aload_n 0, 1) := by decide +kernel
theorem dX6_init_33 : decode cX6_init 33 = .ok (.getfield 17, 3) := by decide +kernel
theorem dX6_init_36 : decode cX6_init 36 = .ok (.iload_n 1, 1) := by decide +kernel
theorem dX6_init_37 : decode cX6_init 37 = .ok (.new 15, 3) := by decide +kernel
theorem dX6_init_40 : decode cX6_init 40 = .ok (.dup, 1) := by decide +kernel
theorem dX6_init_41 : decode cX6_init 41 = .ok (.invokespecial 25, 3) := by decide +kernel
theorem dX6_init_44 : decode cX6_init 44 = .ok (.aastore, 1) := by decide +kernel
theorem dX6_init_45 : decode cX6_init 45 = .ok (.iinc 1 1, 3) := by decide +kernel
theorem dX6_init_48 : decode cX6_init 48 = .ok (.goto (-21), 3) := by decide +kernel
theorem dX6_init_51 : decode cX6_init 51 = .ok (.return_, 1) := by decide +kernel
theorem dX1_init_0 : decode cX1_init 0 = .ok (.aload_n 0, 1) := by decide +kernel
theorem dX1_init_1 : decode cX1_init 1 = .ok (.invokespecial 3, 3) := by decide +kernel
theorem dX1_init_4 : decode cX1_init 4 = .ok (.aload_n 0, 1) := by decide +kernel
theorem dX1_init_5 : decode cX1_init 5 = .ok (.new 9, 3) := by decide +kernel
theorem dX1_init_8 : decode cX1_init 8 = .ok (.dup, 1) := by decide +kernel
theorem dX1_init_9 : decode cX1_init 9 = .ok (.invokespecial 11, 3) := by decide +kernel
theorem dX1_init_12 : decode cX1_init 12 = .ok (.putfield 12, 3) := by decide +kernel
theorem dX1_init_15 : decode cX1_init 15 = .ok (.aload_n 0, 1) := by decide +kernel
theorem dX1_init_16 : decode cX1_init 16 = .ok (.sipush 1000, 3) := by decide +kernel
theorem dX1_init_19 : decode cX1_init 19 = .ok (.newarray .int, 2) := by decide +kernel
theorem dX1_init_21 : decode cX1_init 21 = .ok (.putfield 18, 3) := by decide +kernel
theorem dX1_init_24 : decode cX1_init 24 = .ok (.aload_n 0, 1) := by decide +kernel
theorem dX1_init_25 : decode cX1_init 25 = .ok (.aload_n 1, 1) := by decide +kernel
theorem dX1_init_26 : decode cX1_init 26 = .ok (.putfield 22, 3) := by decide +kernel
theorem dX1_init_29 : decode cX1_init 29 = .ok (.return_, 1) := by decide +kernel
theorem dX8_init_0 : decode cX8_init 0 = .ok (.aload_n 0, 1) := by decide +kernel
theorem dX8_init_1 : decode cX8_init 1 = .ok (.invokespecial 3, 3) := by decide +kernel
theorem dX8_init_4 : decode cX8_init 4 = .ok (.aload_n 0, 1) := by decide +kernel
theorem dX8_init_5 : decode cX8_init 5 = .ok (.bipush 12, 2) := by decide +kernel
theorem dX8_init_7 : decode cX8_init 7 = .ok (.newarray .int, 2) := by decide +kernel
theorem dX8_init_9 : decode cX8_init 9 = .ok (.putfield 9, 3) := by decide +kernel
theorem dX8_init_12 : decode cX8_init 12 = .ok (.aload_n 0, 1) := by decide +kernel
theorem dX8_init_13 : decode cX8_init 13 = .ok (.bipush 12, 2) := by decide +kernel
theorem dX8_init_15 : decode cX8_init 15 = .ok (.newarray .int, 2) := by decide +kernel
theorem dX8_init_17 : decode cX8_init 17 = .ok (.putfield 15, 3) := by decide +kernel
theorem dX8_init_20 : decode cX8_init 20 = .ok (.aload_n 0, 1) := by decide +kernel
theorem dX8_init_21 : decode cX8_init 21 = .ok (.bipush 12, 2) := by decide +kernel
theorem dX8_init_23 : decode cX8_init 23 = .ok (.newarray .int, 2) := by decide +kernel
theorem dX8_init_25 : decode cX8_init 25 = .ok (.putfield 18, 3) := by decide +kernel
theorem dX8_init_28 : decode cX8_init 28 = .ok (.aload_n 0, 1) := by decide +kernel
theorem dX8_init_29 : decode cX8_init 29 = .ok (.aload_n 1, 1) := by decide +kernel
theorem dX8_init_30 : decode cX8_init 30 = .ok (.putfield 21, 3) := by decide +kernel
theorem dX8_init_33 : decode cX8_init 33 = .ok (.return_, 1) := by decide +kernel
theorem dJ5_init_d00df_0 : decode cJ5_init_d00df 0 = .ok (.aload_n 0, 1) := by decide +kernel
theorem dJ5_init_d00df_1 : decode cJ5_init_d00df 1 = .ok (.invokespecial 3, 3) := by decide +kernel
theorem dJ5_init_d00df_4 : decode cJ5_init_d00df 4 = .ok (.getstatic 18, 3) := by decide +kernel
theorem dJ5_init_d00df_7 : decode cJ5_init_d00df 7 = .ok (.ifCond .eq 18, 3) := by decide +kernel
theorem dJ5_init_d00df_10 : decode cJ5_init_d00df 10 = .ok (.aload_n 0, 1) := by decide +kernel
theorem dJ5_init_d00df_11 : decode cJ5_init_d00df 11 = .ok (.iload_n 1, 1) := by decide +kernel
theorem dJ5_init_d00df_12 : decode cJ5_init_d00df 12 = .ok (.newarray .byte, 2) := by decide +kernel
theorem dJ5_init_d00df_14 : decode cJ5_init_d00df 14 = .ok (.putfield 15, 3) := by decide +kernel
theorem dJ5_init_d00df_17 : decode cJ5_init_d00df 17 = .ok (.aload_n 0, 1) := by decide +kernel
theorem dJ5_init_d00df_18 : decode cJ5_init_d00df 18 = .ok (.iconst 0, 1) := by decide +kernel
theorem dJ5_init_d00df_19 : decode cJ5_init_d00df 19 = .ok (.putfield 22, 3) := by decide +kernel
theorem dJ5_init_d00df_22 : decode cJ5_init_d00df 22 = .ok (.goto 16, 3) := by decide +kernel
theorem dJ5_init_d00df_25 : decode cJ5_init_d00df 25 = .ok (.aload_n 0, 1) := by decide +kernel
theorem dJ5_init_d00df_26 : decode cJ5_init_d00df 26 = .ok (.iload_n 1, 1) := by decide +kernel
theorem dJ5_init_d00df_27 : decode cJ5_init_d00df 27 = .ok (.invokestatic 26, 3) := by decide +kernel
theorem dJ5_init_d00df_30 : decode cJ5_init_d00df 30 = .ok (.putfield 15, 3) := by decide +kernel
theorem dJ5_init_d00df_33 : decode cJ5_init_d00df 33 = .ok (.aload_n 0, 1) := by decide +kernel
theorem dJ5_init_d00df_34 : decode cJ5_init_d00df 34 = .ok (.iconst 1, 1) := by decide +kernel
theorem dJ5_init_d00df_35 : decode cJ5_init_d00df 35 = .ok (.putfield 22, 3) := by decide +kernel
theorem dJ5_init_d00df_38 : decode cJ5_init_d00df 38 = .ok (.return_, 1) := by decide +kernel
theorem dJ4_init_da8c8_0 : decode cJ4_init_da8c8 0 = .ok (.aload_n 0, 1) := by decide +kernel
theorem dJ4_init_da8c8_1 : decode cJ4_init_da8c8 1 = .ok (.bipush 16, 2) := by decide +kernel
theorem dJ4_init_da8c8_3 : decode cJ4_init_da8c8 3 = .ok (.invokespecial 1, 3) := by decide +kernel
theorem dJ4_init_da8c8_6 : decode cJ4_init_da8c8 6 = .ok (.return_, 1) := by decide +kernel
theorem dX11_init_0 : decode cX11_init 0 = .ok (.aload_n 0, 1) := by decide +kernel
theorem dX11_init_1 : decode cX11_init 1 = .ok (.invokespecial 1, 3) := by decide +kernel
theorem dX11_init_4 : decode cX11_init 4 = .ok (.aload_n 0, 1) := by decide +kernel
theorem dX11_init_5 : decode cX11_init 5 = .ok (.new 7, 3) := by decide +kernel
theorem dX11_init_8 : decode cX11_init 8 = .ok (.dup, 1) := by decide +kernel
theorem dX11_init_9 : decode cX11_init 9 = .ok (.invokespecial 9, 3) := by decide +kernel
theorem dX11_init_12 : decode cX11_init 12 = .ok (.putfield 10, 3) := by decide +kernel
theorem dX11_init_15 : decode cX11_init 15 = .ok (.aload_n 0, 1) := by decide +kernel
theorem dX11_init_16 : decode cX11_init 16 = .ok (.new 16, 3) := by decide +kernel
theorem dX11_init_19 : decode cX11_init 19 = .ok (.dup, 1) := by decide +kernel
theorem dX11_init_20 : decode cX11_init 20 = .ok (.aload_n 0, 1) := by decide +kernel
theorem dX11_init_21 : decode cX11_init 21 = .ok (.getfield 10, 3) := by decide +kernel
theorem dX11_init_24 : decode cX11_init 24 = .ok (.invokespecial 18, 3) := by decide +kernel
theorem dX11_init_27 : decode cX11_init 27 = .ok (.putfield 21, 3) := by decide +kernel
theorem dX11_init_30 : decode cX11_init 30 = .ok (.aload_n 0, 1) := by decide +kernel
theorem dX11_init_31 : decode cX11_init 31 = .ok (.new 25, 3) := by decide +kernel
theorem dX11_init_34 : decode cX11_init 34 = .ok (.dup, 1) := by decide +kernel
theorem dX11_init_35 : decode cX11_init 35 = .ok (.aload_n 0, 1) := by decide +kernel
theorem dX11_init_36 : decode cX11_init 36 = .ok (.getfield 10, 3) := by decide +kernel
theorem dX11_init_39 : decode cX11_init 39 = .ok (.aload_n 0, 1) := by decide +kernel
theorem dX11_init_40 : decode cX11_init 40 = .ok (.getfield 21, 3) := by decide +kernel
theorem dX11_init_43 : decode cX11_init 43 = .ok (.invokespecial 27, 3) := by decide +kernel
theorem dX11_init_46 : decode cX11_init 46 = .ok (.putfield 30, 3) := by decide +kernel
theorem dX11_init_49 : decode cX11_init 49 = .ok (.aload_n 0, 1) := by decide +kernel
theorem dX11_init_50 : decode cX11_init 50 = .ok (.new 34, 3) := by decide +kernel
theorem dX11_init_53 : decode cX11_init 53 = .ok (.dup, 1) := by decide +kernel
theorem dX11_init_54 : decode cX11_init 54 = .ok (.invokespecial 36, 3) := by decide +kernel
theorem dX11_init_57 : decode cX11_init 57 = .ok (.putfield 37, 3) := by decide +kernel
theorem dX11_init_60 : decode cX11_init 60 = .ok (.aload_n 0, 1) := by decide +kernel
theorem dX11_init_61 : decode cX11_init 61 = .ok (.new 41, 3) := by decide +kernel
theorem dX11_init_64 : decode cX11_init 64 = .ok (.dup, 1) := by decide +kernel
theorem dX11_init_65 : decode cX11_init 65 = .ok (.invokespecial 43, 3) := by decide +kernel
theorem dX11_init_68 : decode cX11_init 68 = .ok (.putfield 44, 3) := by decide +kernel
theorem dX11_init_71 : decode cX11_init 71 = .ok (.aload_n 0, 1) := by decide +kernel
theorem dX11_init_72 : decode cX11_init 72 = .ok (.new 41, 3) := by decide +kernel
theorem dX11_init_75 : decode cX11_init 75 = .ok (.dup, 1) := by decide +kernel
theorem dX11_init_76 : decode cX11_init 76 = .ok (.invokespecial 43, 3) := by decide +kernel
theorem dX11_init_79 : decode cX11_init 79 = .ok (.putfield 48, 3) := by decide +kernel
theorem dX11_init_82 : decode cX11_init 82 = .ok (.aload_n 0, 1) := by decide +kernel
theorem dX11_init_83 : decode cX11_init 83 = .ok (.new 51, 3) := by decide +kernel
theorem dX11_init_86 : decode cX11_init 86 = .ok (.dup, 1) := by decide +kernel
theorem dX11_init_87 : decode cX11_init 87 = .ok (.aload_n 0, 1) := by decide +kernel
theorem dX11_init_88 : decode cX11_init 88 = .ok (.getfield 10, 3) := by decide +kernel
theorem dX11_init_91 : decode cX11_init 91 = .ok (.invokespecial 53, 3) := by decide +kernel
theorem dX11_init_94 : decode cX11_init 94 = .ok (.putfield 54, 3) := by decide +kernel
theorem dX11_init_97 : decode cX11_init 97 = .ok (.aload_n 0, 1) := by decide +kernel
theorem dX11_init_98 : decode cX11_init 98 = .ok (.iconst 3, 1) := by decide +kernel
theorem dX11_init_99 : decode cX11_init 99 = .ok (.newarray .boolean, 2) := by decide +kernel
theorem dX11_init_101 : decode cX11_init 101 = .ok (.putfield 58, 3) := by decide +kernel
theorem dX11_init_104 : decode cX11_init 104 = .ok (.aload_n 0, 1) := by decide +kernel
theorem dX11_init_105 : decode cX11_init 105 = .ok (.new 62, 3) := by decide +kernel
theorem dX11_init_108 : decode cX11_init 108 = .ok (.dup, 1) := by decide +kernel
theorem dX11_init_109 : decode cX11_init 109 = .ok (.aload_n 0, 1) := by decide +kernel
theorem dX11_init_110 : decode cX11_init 110 = .ok (.getfield 10, 3) := by decide +kernel
theorem dX11_init_113 : decode cX11_init 113 = .ok (.invokespecial 64, 3) := by decide +kernel
theorem dX11_init_116 : decode cX11_init 116 = .ok (.putfield 65, 3) := by decide +kernel
theorem dX11_init_119 : decode cX11_init 119 = .ok (.aload_n 0, 1) := by decide +kernel
theorem dX11_init_120 : decode cX11_init 120 = .ok (.new 69, 3) := by decide +kernel
theorem dX11_init_123 : decode cX11_init 123 = .ok (.dup, 1) := by decide +kernel
theorem dX11_init_124 : decode cX11_init 124 = .ok (.invokespecial 71, 3) := by decide +kernel
theorem dX11_init_127 : decode cX11_init 127 = .ok (.putfield 72, 3) := by decide +kernel
theorem dX11_init_130 : decode cX11_init 130 = .ok (.aload_n 0, 1) := by decide +kernel
theorem dX11_init_131 : decode cX11_init 131 = .ok (.new 76, 3) := by decide +kernel
theorem dX11_init_134 : decode cX11_init 134 = .ok (.dup, 1) := by decide +kernel
theorem dX11_init_135 : decode cX11_init 135 = .ok (.invokespecial 78, 3) := by decide +kernel
theorem dX11_init_138 : decode cX11_init 138 = .ok (.putfield 79, 3) := by decide +kernel
theorem dX11_init_141 : decode cX11_init 141 = .ok (.aload_n 0, 1) := by decide +kernel
theorem dX11_init_142 : decode cX11_init 142 = .ok (.new 83, 3) := by decide +kernel
theorem dX11_init_145 : decode cX11_init 145 = .ok (.dup, 1) := by decide +kernel
theorem dX11_init_146 : decode cX11_init 146 = .ok (.invokespecial 85, 3) := by decide +kernel
theorem dX11_init_149 : decode cX11_init 149 = .ok (.putfield 86, 3) := by decide +kernel
theorem dX11_init_152 : decode cX11_init 152 = .ok (.aload_n 0, 1) := by decide +kernel
theorem dX11_init_153 : decode cX11_init 153 = .ok (.bipush 45, 2) := by decide +kernel
theorem dX11_init_155 : decode cX11_init 155 = .ok (.putfield 90, 3) := by decide +kernel
theorem dX11_init_158 : decode cX11_init 158 = .ok (.aload_n 0, 1) := by decide +kernel
theorem dX11_init_159 : decode cX11_init 159 = .ok (.iconst (-1), 1) := by decide +kernel
theorem dX11_init_160 : decode cX11_init 160 = .ok (.putfield 94, 3) := by decide +kernel
theorem dX11_init_163 : decode cX11_init 163 = .ok (.return_, 1) := by decide +kernel
