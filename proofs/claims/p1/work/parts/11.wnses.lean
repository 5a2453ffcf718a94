theorem K1155 : (Cond.classLink RX11 287 "java/util/NoSuchElementException") ∈ ALL := mAC ch_t5 (i := 119) (by decide +kernel) rfl
theorem K114 : (Cond.initialized "java/util/NoSuchElementException") ∈ ALL := mAC ch_t1 (i := 38) (by decide +kernel) rfl
theorem HD_yX3_placesBeginning : yX3_placesBeginning.cls ≠ "java/lang/invoke/MethodHandle" ∧ yX3_placesBeginning.cls ≠ "java/lang/invoke/VarHandle" ∧ (parseMethodDescriptor yX3_placesBeginning.desc).map (fun d => d.parameters.length) = some 1 := by decide +kernel
theorem K1687 : (Cond.code yX3_placesBeginning cX3_placesBeginning 5 (some .long)) ∈ ALL := mAC ch_t7 (i := 171) (by decide +kernel) rfl
theorem K1684 : (Cond.methodLink RX11 383 yX3_placesBeginning) ∈ ALL := mAC ch_t7 (i := 168) (by decide +kernel) rfl
theorem K1685 : (Cond.instanceMethod yX3_placesBeginning) ∈ ALL := mAC ch_t7 (i := 169) (by decide +kernel) rfl
theorem K1686 : (Cond.selects RX3 yX3_placesBeginning yX3_placesBeginning) ∈ ALL := mAC ch_t7 (i := 170) (by decide +kernel) rfl
theorem GV_RX11_383 : GoodIn ALL (wsV RX11 383 RX3 yX3_placesBeginning (Cond.code yX3_placesBeginning cX3_placesBeginning 5 (some .long) :: ALL)) := gV K1684 K1685 K1686 K78 K1687
theorem HD_yX11_stepsBackToBreakpoint : yX11_stepsBackToBreakpoint.cls ≠ "java/lang/invoke/MethodHandle" ∧ yX11_stepsBackToBreakpoint.cls ≠ "java/lang/invoke/VarHandle" ∧ (parseMethodDescriptor yX11_stepsBackToBreakpoint.desc).map (fun d => d.parameters.length) = some 0 := by decide +kernel
theorem K1924 : (Cond.code yX11_stepsBackToBreakpoint cX11_stepsBackToBreakpoint 4 (some .int)) ∈ ALL := mAC ch_t8 (i := 168) (by decide +kernel) rfl
theorem K1921 : (Cond.methodLink RX11 472 yX11_stepsBackToBreakpoint) ∈ ALL := mAC ch_t8 (i := 165) (by decide +kernel) rfl
theorem K1923 : (Cond.instanceMethod yX11_stepsBackToBreakpoint) ∈ ALL := mAC ch_t8 (i := 167) (by decide +kernel) rfl
theorem K35 : (Cond.selects RX11 yX11_stepsBackToBreakpoint yX11_stepsBackToBreakpoint) ∈ ALL := mAC ch_sel (i := 35) (by decide +kernel) rfl
theorem GV_RX11_472 : GoodIn ALL (wsV RX11 472 RX11 yX11_stepsBackToBreakpoint (Cond.code yX11_stepsBackToBreakpoint cX11_stepsBackToBreakpoint 4 (some .int) :: ALL)) := gV K1921 K1923 K35 K77 K1924
theorem HD_yX11_patch : yX11_patch.cls ≠ "java/lang/invoke/MethodHandle" ∧ yX11_patch.cls ≠ "java/lang/invoke/VarHandle" ∧ (parseMethodDescriptor yX11_patch.desc).map (fun d => d.parameters.length) = some 4 := by decide +kernel
theorem K884 : (Cond.code yX11_patch cX11_patch 6 (some .char)) ∈ ALL := mAC ch_t4 (i := 88) (by decide +kernel) rfl
theorem K881 : (Cond.methodLink RL 17 yX11_patch) ∈ ALL := mAC ch_t4 (i := 85) (by decide +kernel) rfl
theorem K882 : (Cond.instanceMethod yX11_patch) ∈ ALL := mAC ch_t4 (i := 86) (by decide +kernel) rfl
theorem K883 : (Cond.selects RX11 yX11_patch yX11_patch) ∈ ALL := mAC ch_t4 (i := 87) (by decide +kernel) rfl
theorem GV_RL_17 : GoodIn ALL (wsV RL 17 RX11 yX11_patch (Cond.code yX11_patch cX11_patch 6 (some .char) :: ALL)) := gV K881 K882 K883 K77 K884
theorem K857 : (Cond.classLink RL 21 "java/lang/IndexOutOfBoundsException") ∈ ALL := mAC ch_t4 (i := 61) (by decide +kernel) rfl
theorem K892 : (Cond.castable "java/lang/IndexOutOfBoundsException" "java/lang/IndexOutOfBoundsException") ∈ NGS := mNC ch_t4 (i := 96) (by decide +kernel) rfl
theorem PN_RL : plainName RL = true := by decide +kernel
theorem HD_yX11_function : yX11_function.cls ≠ "java/lang/invoke/MethodHandle" ∧ yX11_function.cls ≠ "java/lang/invoke/VarHandle" ∧ (parseMethodDescriptor yX11_function.desc).map (fun d => d.parameters.length) = some 2 := by decide +kernel
theorem K949 : (Cond.code yX11_function cX11_function 4 (some .int)) ∈ ALL := mAC ch_t4 (i := 153) (by decide +kernel) rfl
theorem K946 : (Cond.methodLink RL 23 yX11_function) ∈ ALL := mAC ch_t4 (i := 150) (by decide +kernel) rfl
theorem K947 : (Cond.instanceMethod yX11_function) ∈ ALL := mAC ch_t4 (i := 151) (by decide +kernel) rfl
theorem K948 : (Cond.selects RX11 yX11_function yX11_function) ∈ ALL := mAC ch_t4 (i := 152) (by decide +kernel) rfl
theorem GV_RL_23 : GoodIn ALL (wsV RL 23 RX11 yX11_function (Cond.code yX11_function cX11_function 4 (some .int) :: ALL)) := gV K946 K947 K948 K77 K949
theorem HD_yX11_line : yX11_line.cls ≠ "java/lang/invoke/MethodHandle" ∧ yX11_line.cls ≠ "java/lang/invoke/VarHandle" ∧ (parseMethodDescriptor yX11_line.desc).map (fun d => d.parameters.length) = some 2 := by decide +kernel
theorem K1002 : (Cond.code yX11_line cX11_line 4 (some .int)) ∈ ALL := mAC ch_t4 (i := 206) (by decide +kernel) rfl
theorem K999 : (Cond.methodLink RL 29 yX11_line) ∈ ALL := mAC ch_t4 (i := 203) (by decide +kernel) rfl
theorem K1000 : (Cond.instanceMethod yX11_line) ∈ ALL := mAC ch_t4 (i := 204) (by decide +kernel) rfl
theorem K1001 : (Cond.selects RX11 yX11_line yX11_line) ∈ ALL := mAC ch_t4 (i := 205) (by decide +kernel) rfl
theorem GV_RL_29 : GoodIn ALL (wsV RL 29 RX11 yX11_line (Cond.code yX11_line cX11_line 4 (some .int) :: ALL)) := gV K999 K1000 K1001 K77 K1002
theorem HD_yX11_rule : yX11_rule.cls ≠ "java/lang/invoke/MethodHandle" ∧ yX11_rule.cls ≠ "java/lang/invoke/VarHandle" ∧ (parseMethodDescriptor yX11_rule.desc).map (fun d => d.parameters.length) = some 2 := by decide +kernel
theorem K1019 : (Cond.code yX11_rule cX11_rule 4 (some .char)) ∈ ALL := mAC ch_t4 (i := 223) (by decide +kernel) rfl
theorem K1016 : (Cond.methodLink RL 32 yX11_rule) ∈ ALL := mAC ch_t4 (i := 220) (by decide +kernel) rfl
theorem K1017 : (Cond.instanceMethod yX11_rule) ∈ ALL := mAC ch_t4 (i := 221) (by decide +kernel) rfl
theorem K1018 : (Cond.selects RX11 yX11_rule yX11_rule) ∈ ALL := mAC ch_t4 (i := 222) (by decide +kernel) rfl
theorem GV_RL_32 : GoodIn ALL (wsV RL 32 RX11 yX11_rule (Cond.code yX11_rule cX11_rule 4 (some .char) :: ALL)) := gV K1016 K1017 K1018 K77 K1019
theorem HD_yX11_inlined : yX11_inlined.cls ≠ "java/lang/invoke/MethodHandle" ∧ yX11_inlined.cls ≠ "java/lang/invoke/VarHandle" ∧ (parseMethodDescriptor yX11_inlined.desc).map (fun d => d.parameters.length) = some 4 := by decide +kernel
theorem K1032 : (Cond.code yX11_inlined cX11_inlined 5 (some .int)) ∈ ALL := mAC ch_t4 (i := 236) (by decide +kernel) rfl
theorem K1029 : (Cond.methodLink RL 36 yX11_inlined) ∈ ALL := mAC ch_t4 (i := 233) (by decide +kernel) rfl
theorem K1030 : (Cond.instanceMethod yX11_inlined) ∈ ALL := mAC ch_t4 (i := 234) (by decide +kernel) rfl
theorem K1031 : (Cond.selects RX11 yX11_inlined yX11_inlined) ∈ ALL := mAC ch_t4 (i := 235) (by decide +kernel) rfl
theorem GV_RL_36 : GoodIn ALL (wsV RL 36 RX11 yX11_inlined (Cond.code yX11_inlined cX11_inlined 5 (some .int) :: ALL)) := gV K1029 K1030 K1031 K77 K1032
theorem HD_yX11_scope : yX11_scope.cls ≠ "java/lang/invoke/MethodHandle" ∧ yX11_scope.cls ≠ "java/lang/invoke/VarHandle" ∧ (parseMethodDescriptor yX11_scope.desc).map (fun d => d.parameters.length) = some 2 := by decide +kernel
theorem K1065 : (Cond.code yX11_scope cX11_scope 3 (some .int)) ∈ ALL := mAC ch_t5 (i := 29) (by decide +kernel) rfl
theorem K1062 : (Cond.methodLink RL 40 yX11_scope) ∈ ALL := mAC ch_t5 (i := 26) (by decide +kernel) rfl
theorem K1063 : (Cond.instanceMethod yX11_scope) ∈ ALL := mAC ch_t5 (i := 27) (by decide +kernel) rfl
theorem K1064 : (Cond.selects RX11 yX11_scope yX11_scope) ∈ ALL := mAC ch_t5 (i := 28) (by decide +kernel) rfl
theorem GV_RL_40 : GoodIn ALL (wsV RL 40 RX11 yX11_scope (Cond.code yX11_scope cX11_scope 3 (some .int) :: ALL)) := gV K1062 K1063 K1064 K77 K1065
theorem HD_yX11_variable : yX11_variable.cls ≠ "java/lang/invoke/MethodHandle" ∧ yX11_variable.cls ≠ "java/lang/invoke/VarHandle" ∧ (parseMethodDescriptor yX11_variable.desc).map (fun d => d.parameters.length) = some 4 := by decide +kernel
theorem K1074 : (Cond.code yX11_variable cX11_variable 5 (some .int)) ∈ ALL := mAC ch_t5 (i := 38) (by decide +kernel) rfl
theorem K1071 : (Cond.methodLink RL 43 yX11_variable) ∈ ALL := mAC ch_t5 (i := 35) (by decide +kernel) rfl
theorem K1072 : (Cond.instanceMethod yX11_variable) ∈ ALL := mAC ch_t5 (i := 36) (by decide +kernel) rfl
theorem K1073 : (Cond.selects RX11 yX11_variable yX11_variable) ∈ ALL := mAC ch_t5 (i := 37) (by decide +kernel) rfl
theorem GV_RL_43 : GoodIn ALL (wsV RL 43 RX11 yX11_variable (Cond.code yX11_variable cX11_variable 5 (some .int) :: ALL)) := gV K1071 K1072 K1073 K77 K1074
theorem HD_yX11_where : yX11_where.cls ≠ "java/lang/invoke/MethodHandle" ∧ yX11_where.cls ≠ "java/lang/invoke/VarHandle" ∧ (parseMethodDescriptor yX11_where.desc).map (fun d => d.parameters.length) = some 5 := by decide +kernel
theorem K1101 : (Cond.code yX11_where cX11_where 6 (some .int)) ∈ ALL := mAC ch_t5 (i := 65) (by decide +kernel) rfl
theorem K1098 : (Cond.methodLink RL 47 yX11_where) ∈ ALL := mAC ch_t5 (i := 62) (by decide +kernel) rfl
theorem K1099 : (Cond.instanceMethod yX11_where) ∈ ALL := mAC ch_t5 (i := 63) (by decide +kernel) rfl
theorem K1100 : (Cond.selects RX11 yX11_where yX11_where) ∈ ALL := mAC ch_t5 (i := 64) (by decide +kernel) rfl
theorem GV_RL_47 : GoodIn ALL (wsV RL 47 RX11 yX11_where (Cond.code yX11_where cX11_where 6 (some .int) :: ALL)) := gV K1098 K1099 K1100 K77 K1101
theorem HD_yX11_thread : yX11_thread.cls ≠ "java/lang/invoke/MethodHandle" ∧ yX11_thread.cls ≠ "java/lang/invoke/VarHandle" ∧ (parseMethodDescriptor yX11_thread.desc).map (fun d => d.parameters.length) = some 1 := by decide +kernel
theorem K1124 : (Cond.code yX11_thread cX11_thread 3 (some .int)) ∈ ALL := mAC ch_t5 (i := 88) (by decide +kernel) rfl
theorem K1121 : (Cond.methodLink RL 51 yX11_thread) ∈ ALL := mAC ch_t5 (i := 85) (by decide +kernel) rfl
theorem K1122 : (Cond.instanceMethod yX11_thread) ∈ ALL := mAC ch_t5 (i := 86) (by decide +kernel) rfl
theorem K1123 : (Cond.selects RX11 yX11_thread yX11_thread) ∈ ALL := mAC ch_t5 (i := 87) (by decide +kernel) rfl
theorem GV_RL_51 : GoodIn ALL (wsV RL 51 RX11 yX11_thread (Cond.code yX11_thread cX11_thread 3 (some .int) :: ALL)) := gV K1121 K1122 K1123 K77 K1124
theorem HD_yX11_state : yX11_state.cls ≠ "java/lang/invoke/MethodHandle" ∧ yX11_state.cls ≠ "java/lang/invoke/VarHandle" ∧ (parseMethodDescriptor yX11_state.desc).map (fun d => d.parameters.length) = some 1 := by decide +kernel
theorem K1141 : (Cond.code yX11_state cX11_state 2 (some .char)) ∈ ALL := mAC ch_t5 (i := 105) (by decide +kernel) rfl
theorem K1138 : (Cond.methodLink RL 55 yX11_state) ∈ ALL := mAC ch_t5 (i := 102) (by decide +kernel) rfl
theorem K1139 : (Cond.instanceMethod yX11_state) ∈ ALL := mAC ch_t5 (i := 103) (by decide +kernel) rfl
theorem K1140 : (Cond.selects RX11 yX11_state yX11_state) ∈ ALL := mAC ch_t5 (i := 104) (by decide +kernel) rfl
theorem GV_RL_55 : GoodIn ALL (wsV RL 55 RX11 yX11_state (Cond.code yX11_state cX11_state 2 (some .char) :: ALL)) := gV K1138 K1139 K1140 K77 K1141
theorem HD_yX11_fault : yX11_fault.cls ≠ "java/lang/invoke/MethodHandle" ∧ yX11_fault.cls ≠ "java/lang/invoke/VarHandle" ∧ (parseMethodDescriptor yX11_fault.desc).map (fun d => d.parameters.length) = some 1 := by decide +kernel
theorem K1154 : (Cond.code yX11_fault cX11_fault 3 (some .char)) ∈ ALL := mAC ch_t5 (i := 118) (by decide +kernel) rfl
theorem K1151 : (Cond.methodLink RL 59 yX11_fault) ∈ ALL := mAC ch_t5 (i := 115) (by decide +kernel) rfl
theorem K1152 : (Cond.instanceMethod yX11_fault) ∈ ALL := mAC ch_t5 (i := 116) (by decide +kernel) rfl
theorem K1153 : (Cond.selects RX11 yX11_fault yX11_fault) ∈ ALL := mAC ch_t5 (i := 117) (by decide +kernel) rfl
theorem GV_RL_59 : GoodIn ALL (wsV RL 59 RX11 yX11_fault (Cond.code yX11_fault cX11_fault 3 (some .char) :: ALL)) := gV K1151 K1152 K1153 K77 K1154
theorem HD_yX11_hold : yX11_hold.cls ≠ "java/lang/invoke/MethodHandle" ∧ yX11_hold.cls ≠ "java/lang/invoke/VarHandle" ∧ (parseMethodDescriptor yX11_hold.desc).map (fun d => d.parameters.length) = some 2 := by decide +kernel
theorem K1177 : (Cond.code yX11_hold cX11_hold 4 (some .boolean)) ∈ ALL := mAC ch_t5 (i := 141) (by decide +kernel) rfl
theorem K1174 : (Cond.methodLink RL 64 yX11_hold) ∈ ALL := mAC ch_t5 (i := 138) (by decide +kernel) rfl
theorem K1175 : (Cond.instanceMethod yX11_hold) ∈ ALL := mAC ch_t5 (i := 139) (by decide +kernel) rfl
theorem K1176 : (Cond.selects RX11 yX11_hold yX11_hold) ∈ ALL := mAC ch_t5 (i := 140) (by decide +kernel) rfl
theorem GV_RL_64 : GoodIn ALL (wsV RL 64 RX11 yX11_hold (Cond.code yX11_hold cX11_hold 4 (some .boolean) :: ALL)) := gV K1174 K1175 K1176 K77 K1177
theorem HD_yX11_register : yX11_register.cls ≠ "java/lang/invoke/MethodHandle" ∧ yX11_register.cls ≠ "java/lang/invoke/VarHandle" ∧ (parseMethodDescriptor yX11_register.desc).map (fun d => d.parameters.length) = some 2 := by decide +kernel
theorem K1188 : (Cond.code yX11_register cX11_register 3 (some .int)) ∈ ALL := mAC ch_t5 (i := 152) (by decide +kernel) rfl
theorem K1185 : (Cond.methodLink RL 68 yX11_register) ∈ ALL := mAC ch_t5 (i := 149) (by decide +kernel) rfl
theorem K1186 : (Cond.instanceMethod yX11_register) ∈ ALL := mAC ch_t5 (i := 150) (by decide +kernel) rfl
theorem K1187 : (Cond.selects RX11 yX11_register yX11_register) ∈ ALL := mAC ch_t5 (i := 151) (by decide +kernel) rfl
theorem GV_RL_68 : GoodIn ALL (wsV RL 68 RX11 yX11_register (Cond.code yX11_register cX11_register 3 (some .int) :: ALL)) := gV K1185 K1186 K1187 K77 K1188
theorem HD_yX11_frames : yX11_frames.cls ≠ "java/lang/invoke/MethodHandle" ∧ yX11_frames.cls ≠ "java/lang/invoke/VarHandle" ∧ (parseMethodDescriptor yX11_frames.desc).map (fun d => d.parameters.length) = some 1 := by decide +kernel
theorem K1209 : (Cond.code yX11_frames cX11_frames 2 (some .int)) ∈ ALL := mAC ch_t5 (i := 173) (by decide +kernel) rfl
theorem K1206 : (Cond.methodLink RL 74 yX11_frames) ∈ ALL := mAC ch_t5 (i := 170) (by decide +kernel) rfl
theorem K1207 : (Cond.instanceMethod yX11_frames) ∈ ALL := mAC ch_t5 (i := 171) (by decide +kernel) rfl
theorem K1208 : (Cond.selects RX11 yX11_frames yX11_frames) ∈ ALL := mAC ch_t5 (i := 172) (by decide +kernel) rfl
theorem GV_RL_74 : GoodIn ALL (wsV RL 74 RX11 yX11_frames (Cond.code yX11_frames cX11_frames 2 (some .int) :: ALL)) := gV K1206 K1207 K1208 K77 K1209
theorem HD_yX11_frame : yX11_frame.cls ≠ "java/lang/invoke/MethodHandle" ∧ yX11_frame.cls ≠ "java/lang/invoke/VarHandle" ∧ (parseMethodDescriptor yX11_frame.desc).map (fun d => d.parameters.length) = some 3 := by decide +kernel
theorem K1234 : (Cond.code yX11_frame cX11_frame 4 (some .int)) ∈ ALL := mAC ch_t5 (i := 198) (by decide +kernel) rfl
theorem K1231 : (Cond.methodLink RL 77 yX11_frame) ∈ ALL := mAC ch_t5 (i := 195) (by decide +kernel) rfl
theorem K1232 : (Cond.instanceMethod yX11_frame) ∈ ALL := mAC ch_t5 (i := 196) (by decide +kernel) rfl
theorem K1233 : (Cond.selects RX11 yX11_frame yX11_frame) ∈ ALL := mAC ch_t5 (i := 197) (by decide +kernel) rfl
theorem GV_RL_77 : GoodIn ALL (wsV RL 77 RX11 yX11_frame (Cond.code yX11_frame cX11_frame 4 (some .int) :: ALL)) := gV K1231 K1232 K1233 K77 K1234
theorem HD_yX11_see : yX11_see.cls ≠ "java/lang/invoke/MethodHandle" ∧ yX11_see.cls ≠ "java/lang/invoke/VarHandle" ∧ (parseMethodDescriptor yX11_see.desc).map (fun d => d.parameters.length) = some 3 := by decide +kernel
theorem K1273 : (Cond.code yX11_see cX11_see 5 (some .char)) ∈ ALL := mAC ch_t5 (i := 237) (by decide +kernel) rfl
theorem K1270 : (Cond.methodLink RL 81 yX11_see) ∈ ALL := mAC ch_t5 (i := 234) (by decide +kernel) rfl
theorem K1271 : (Cond.instanceMethod yX11_see) ∈ ALL := mAC ch_t5 (i := 235) (by decide +kernel) rfl
theorem K1272 : (Cond.selects RX11 yX11_see yX11_see) ∈ ALL := mAC ch_t5 (i := 236) (by decide +kernel) rfl
theorem GV_RL_81 : GoodIn ALL (wsV RL 81 RX11 yX11_see (Cond.code yX11_see cX11_see 5 (some .char) :: ALL)) := gV K1270 K1271 K1272 K77 K1273
theorem HD_yX11_value : yX11_value.cls ≠ "java/lang/invoke/MethodHandle" ∧ yX11_value.cls ≠ "java/lang/invoke/VarHandle" ∧ (parseMethodDescriptor yX11_value.desc).map (fun d => d.parameters.length) = some 4 := by decide +kernel
theorem K1324 : (Cond.code yX11_value cX11_value 5 (some .int)) ∈ ALL := mAC ch_t6 (i := 48) (by decide +kernel) rfl
theorem K1321 : (Cond.methodLink RL 85 yX11_value) ∈ ALL := mAC ch_t6 (i := 45) (by decide +kernel) rfl
theorem K1322 : (Cond.instanceMethod yX11_value) ∈ ALL := mAC ch_t6 (i := 46) (by decide +kernel) rfl
theorem K1323 : (Cond.selects RX11 yX11_value yX11_value) ∈ ALL := mAC ch_t6 (i := 47) (by decide +kernel) rfl
theorem GV_RL_85 : GoodIn ALL (wsV RL 85 RX11 yX11_value (Cond.code yX11_value cX11_value 5 (some .int) :: ALL)) := gV K1321 K1322 K1323 K77 K1324
theorem HD_yX11_show : yX11_show.cls ≠ "java/lang/invoke/MethodHandle" ∧ yX11_show.cls ≠ "java/lang/invoke/VarHandle" ∧ (parseMethodDescriptor yX11_show.desc).map (fun d => d.parameters.length) = some 3 := by decide +kernel
theorem K1343 : (Cond.code yX11_show cX11_show 5 (some .int)) ∈ ALL := mAC ch_t6 (i := 67) (by decide +kernel) rfl
theorem K1340 : (Cond.methodLink RL 89 yX11_show) ∈ ALL := mAC ch_t6 (i := 64) (by decide +kernel) rfl
theorem K1341 : (Cond.instanceMethod yX11_show) ∈ ALL := mAC ch_t6 (i := 65) (by decide +kernel) rfl
theorem K1342 : (Cond.selects RX11 yX11_show yX11_show) ∈ ALL := mAC ch_t6 (i := 66) (by decide +kernel) rfl
theorem GV_RL_89 : GoodIn ALL (wsV RL 89 RX11 yX11_show (Cond.code yX11_show cX11_show 5 (some .int) :: ALL)) := gV K1340 K1341 K1342 K77 K1343
theorem HD_yX11_stop : yX11_stop.cls ≠ "java/lang/invoke/MethodHandle" ∧ yX11_stop.cls ≠ "java/lang/invoke/VarHandle" ∧ (parseMethodDescriptor yX11_stop.desc).map (fun d => d.parameters.length) = some 1 := by decide +kernel
theorem K1662 : (Cond.code yX11_stop cX11_stop 2 (some .int)) ∈ ALL := mAC ch_t7 (i := 146) (by decide +kernel) rfl
theorem K1659 : (Cond.methodLink RL 95 yX11_stop) ∈ ALL := mAC ch_t7 (i := 143) (by decide +kernel) rfl
theorem K1660 : (Cond.instanceMethod yX11_stop) ∈ ALL := mAC ch_t7 (i := 144) (by decide +kernel) rfl
theorem K1661 : (Cond.selects RX11 yX11_stop yX11_stop) ∈ ALL := mAC ch_t7 (i := 145) (by decide +kernel) rfl
theorem GV_RL_95 : GoodIn ALL (wsV RL 95 RX11 yX11_stop (Cond.code yX11_stop cX11_stop 2 (some .int) :: ALL)) := gV K1659 K1660 K1661 K77 K1662
theorem HD_yX11_stopIn : yX11_stopIn.cls ≠ "java/lang/invoke/MethodHandle" ∧ yX11_stopIn.cls ≠ "java/lang/invoke/VarHandle" ∧ (parseMethodDescriptor yX11_stopIn.desc).map (fun d => d.parameters.length) = some 1 := by decide +kernel
theorem K1704 : (Cond.code yX11_stopIn cX11_stopIn 2 (some .int)) ∈ ALL := mAC ch_t7 (i := 188) (by decide +kernel) rfl
theorem K1701 : (Cond.methodLink RL 101 yX11_stopIn) ∈ ALL := mAC ch_t7 (i := 185) (by decide +kernel) rfl
theorem K1702 : (Cond.instanceMethod yX11_stopIn) ∈ ALL := mAC ch_t7 (i := 186) (by decide +kernel) rfl
theorem K1703 : (Cond.selects RX11 yX11_stopIn yX11_stopIn) ∈ ALL := mAC ch_t7 (i := 187) (by decide +kernel) rfl
theorem GV_RL_101 : GoodIn ALL (wsV RL 101 RX11 yX11_stopIn (Cond.code yX11_stopIn cX11_stopIn 2 (some .int) :: ALL)) := gV K1701 K1702 K1703 K77 K1704
theorem HD_yX11_when : yX11_when.cls ≠ "java/lang/invoke/MethodHandle" ∧ yX11_when.cls ≠ "java/lang/invoke/VarHandle" ∧ (parseMethodDescriptor yX11_when.desc).map (fun d => d.parameters.length) = some 4 := by decide +kernel
theorem K1717 : (Cond.code yX11_when cX11_when 5 (some .int)) ∈ ALL := mAC ch_t7 (i := 201) (by decide +kernel) rfl
theorem K1714 : (Cond.methodLink RL 104 yX11_when) ∈ ALL := mAC ch_t7 (i := 198) (by decide +kernel) rfl
theorem K1715 : (Cond.instanceMethod yX11_when) ∈ ALL := mAC ch_t7 (i := 199) (by decide +kernel) rfl
theorem K1716 : (Cond.selects RX11 yX11_when yX11_when) ∈ ALL := mAC ch_t7 (i := 200) (by decide +kernel) rfl
theorem GV_RL_104 : GoodIn ALL (wsV RL 104 RX11 yX11_when (Cond.code yX11_when cX11_when 5 (some .int) :: ALL)) := gV K1714 K1715 K1716 K77 K1717
theorem HD_yX11_hits : yX11_hits.cls ≠ "java/lang/invoke/MethodHandle" ∧ yX11_hits.cls ≠ "java/lang/invoke/VarHandle" ∧ (parseMethodDescriptor yX11_hits.desc).map (fun d => d.parameters.length) = some 1 := by decide +kernel
theorem K1756 : (Cond.code yX11_hits cX11_hits 2 (some .int)) ∈ ALL := mAC ch_t8 (i := 0) (by decide +kernel) rfl
theorem K1753 : (Cond.methodLink RL 110 yX11_hits) ∈ ALL := mAC ch_t7 (i := 237) (by decide +kernel) rfl
theorem K1754 : (Cond.instanceMethod yX11_hits) ∈ ALL := mAC ch_t7 (i := 238) (by decide +kernel) rfl
theorem K1755 : (Cond.selects RX11 yX11_hits yX11_hits) ∈ ALL := mAC ch_t7 (i := 239) (by decide +kernel) rfl
theorem GV_RL_110 : GoodIn ALL (wsV RL 110 RX11 yX11_hits (Cond.code yX11_hits cX11_hits 2 (some .int) :: ALL)) := gV K1753 K1754 K1755 K77 K1756
theorem HD_yX11_watchName : yX11_watchName.cls ≠ "java/lang/invoke/MethodHandle" ∧ yX11_watchName.cls ≠ "java/lang/invoke/VarHandle" ∧ (parseMethodDescriptor yX11_watchName.desc).map (fun d => d.parameters.length) = some 3 := by decide +kernel
theorem K1790 : (Cond.code yX11_watchName cX11_watchName 4 (some .int)) ∈ ALL := mAC ch_t8 (i := 34) (by decide +kernel) rfl
theorem K1787 : (Cond.methodLink RL 116 yX11_watchName) ∈ ALL := mAC ch_t8 (i := 31) (by decide +kernel) rfl
theorem K1788 : (Cond.instanceMethod yX11_watchName) ∈ ALL := mAC ch_t8 (i := 32) (by decide +kernel) rfl
theorem K1789 : (Cond.selects RX11 yX11_watchName yX11_watchName) ∈ ALL := mAC ch_t8 (i := 33) (by decide +kernel) rfl
theorem GV_RL_116 : GoodIn ALL (wsV RL 116 RX11 yX11_watchName (Cond.code yX11_watchName cX11_watchName 4 (some .int) :: ALL)) := gV K1787 K1788 K1789 K77 K1790
theorem HD_yX11_stepLine : yX11_stepLine.cls ≠ "java/lang/invoke/MethodHandle" ∧ yX11_stepLine.cls ≠ "java/lang/invoke/VarHandle" ∧ (parseMethodDescriptor yX11_stepLine.desc).map (fun d => d.parameters.length) = some 2 := by decide +kernel
theorem K1880 : (Cond.code yX11_stepLine cX11_stepLine 8 (some .int)) ∈ ALL := mAC ch_t8 (i := 124) (by decide +kernel) rfl
theorem K1877 : (Cond.methodLink RL 122 yX11_stepLine) ∈ ALL := mAC ch_t8 (i := 121) (by decide +kernel) rfl
theorem K1878 : (Cond.instanceMethod yX11_stepLine) ∈ ALL := mAC ch_t8 (i := 122) (by decide +kernel) rfl
theorem K1879 : (Cond.selects RX11 yX11_stepLine yX11_stepLine) ∈ ALL := mAC ch_t8 (i := 123) (by decide +kernel) rfl
theorem GV_RL_122 : GoodIn ALL (wsV RL 122 RX11 yX11_stepLine (Cond.code yX11_stepLine cX11_stepLine 8 (some .int) :: ALL)) := gV K1877 K1878 K1879 K77 K1880
theorem HD_yX11_set : yX11_set.cls ≠ "java/lang/invoke/MethodHandle" ∧ yX11_set.cls ≠ "java/lang/invoke/VarHandle" ∧ (parseMethodDescriptor yX11_set.desc).map (fun d => d.parameters.length) = some 5 := by decide +kernel
theorem K1937 : (Cond.code yX11_set cX11_set 7 (some .int)) ∈ ALL := mAC ch_t8 (i := 181) (by decide +kernel) rfl
theorem K1934 : (Cond.methodLink RL 136 yX11_set) ∈ ALL := mAC ch_t8 (i := 178) (by decide +kernel) rfl
theorem K1935 : (Cond.instanceMethod yX11_set) ∈ ALL := mAC ch_t8 (i := 179) (by decide +kernel) rfl
theorem K1936 : (Cond.selects RX11 yX11_set yX11_set) ∈ ALL := mAC ch_t8 (i := 180) (by decide +kernel) rfl
theorem GV_RL_136 : GoodIn ALL (wsV RL 136 RX11 yX11_set (Cond.code yX11_set cX11_set 7 (some .int) :: ALL)) := gV K1934 K1935 K1936 K77 K1937
theorem HD_yX11_jump : yX11_jump.cls ≠ "java/lang/invoke/MethodHandle" ∧ yX11_jump.cls ≠ "java/lang/invoke/VarHandle" ∧ (parseMethodDescriptor yX11_jump.desc).map (fun d => d.parameters.length) = some 2 := by decide +kernel
theorem K1955 : (Cond.code yX11_jump cX11_jump 5 (some .int)) ∈ ALL := mAC ch_t8 (i := 199) (by decide +kernel) rfl
theorem K1952 : (Cond.methodLink RL 140 yX11_jump) ∈ ALL := mAC ch_t8 (i := 196) (by decide +kernel) rfl
theorem K1953 : (Cond.instanceMethod yX11_jump) ∈ ALL := mAC ch_t8 (i := 197) (by decide +kernel) rfl
theorem K1954 : (Cond.selects RX11 yX11_jump yX11_jump) ∈ ALL := mAC ch_t8 (i := 198) (by decide +kernel) rfl
theorem GV_RL_140 : GoodIn ALL (wsV RL 140 RX11 yX11_jump (Cond.code yX11_jump cX11_jump 5 (some .int) :: ALL)) := gV K1952 K1953 K1954 K77 K1955
theorem HD_yX11_call : yX11_call.cls ≠ "java/lang/invoke/MethodHandle" ∧ yX11_call.cls ≠ "java/lang/invoke/VarHandle" ∧ (parseMethodDescriptor yX11_call.desc).map (fun d => d.parameters.length) = some 3 := by decide +kernel
theorem K1963 : (Cond.code yX11_call cX11_call 5 (some .int)) ∈ ALL := mAC ch_t8 (i := 207) (by decide +kernel) rfl
theorem K1960 : (Cond.methodLink RL 143 yX11_call) ∈ ALL := mAC ch_t8 (i := 204) (by decide +kernel) rfl
theorem K1961 : (Cond.instanceMethod yX11_call) ∈ ALL := mAC ch_t8 (i := 205) (by decide +kernel) rfl
theorem K1962 : (Cond.selects RX11 yX11_call yX11_call) ∈ ALL := mAC ch_t8 (i := 206) (by decide +kernel) rfl
theorem GV_RL_143 : GoodIn ALL (wsV RL 143 RX11 yX11_call (Cond.code yX11_call cX11_call 5 (some .int) :: ALL)) := gV K1960 K1961 K1962 K77 K1963
theorem HD_yX11_pass : yX11_pass.cls ≠ "java/lang/invoke/MethodHandle" ∧ yX11_pass.cls ≠ "java/lang/invoke/VarHandle" ∧ (parseMethodDescriptor yX11_pass.desc).map (fun d => d.parameters.length) = some 2 := by decide +kernel
theorem K1743 : (Cond.code yX11_pass cX11_pass 3 (some .int)) ∈ ALL := mAC ch_t7 (i := 227) (by decide +kernel) rfl
theorem K1740 : (Cond.methodLink RL 107 yX11_pass) ∈ ALL := mAC ch_t7 (i := 224) (by decide +kernel) rfl
theorem K1741 : (Cond.instanceMethod yX11_pass) ∈ ALL := mAC ch_t7 (i := 225) (by decide +kernel) rfl
theorem K1742 : (Cond.selects RX11 yX11_pass yX11_pass) ∈ ALL := mAC ch_t7 (i := 226) (by decide +kernel) rfl
theorem GV_RL_107 : GoodIn ALL (wsV RL 107 RX11 yX11_pass (Cond.code yX11_pass cX11_pass 3 (some .int) :: ALL)) := gV K1740 K1741 K1742 K77 K1743
theorem HD_yX11_shown : yX11_shown.cls ≠ "java/lang/invoke/MethodHandle" ∧ yX11_shown.cls ≠ "java/lang/invoke/VarHandle" ∧ (parseMethodDescriptor yX11_shown.desc).map (fun d => d.parameters.length) = some 1 := by decide +kernel
theorem K1644 : (Cond.code yX11_shown cX11_shown 2 (some .char)) ∈ ALL := mAC ch_t7 (i := 128) (by decide +kernel) rfl
theorem K1641 : (Cond.methodLink RL 92 yX11_shown) ∈ ALL := mAC ch_t7 (i := 125) (by decide +kernel) rfl
theorem K1642 : (Cond.instanceMethod yX11_shown) ∈ ALL := mAC ch_t7 (i := 126) (by decide +kernel) rfl
theorem K1643 : (Cond.selects RX11 yX11_shown yX11_shown) ∈ ALL := mAC ch_t7 (i := 127) (by decide +kernel) rfl
theorem GV_RL_92 : GoodIn ALL (wsV RL 92 RX11 yX11_shown (Cond.code yX11_shown cX11_shown 2 (some .char) :: ALL)) := gV K1641 K1642 K1643 K77 K1644
theorem HD_yX11_stopLine : yX11_stopLine.cls ≠ "java/lang/invoke/MethodHandle" ∧ yX11_stopLine.cls ≠ "java/lang/invoke/VarHandle" ∧ (parseMethodDescriptor yX11_stopLine.desc).map (fun d => d.parameters.length) = some 1 := by decide +kernel
theorem K1683 : (Cond.code yX11_stopLine cX11_stopLine 4 (some .int)) ∈ ALL := mAC ch_t7 (i := 167) (by decide +kernel) rfl
theorem K1680 : (Cond.methodLink RL 98 yX11_stopLine) ∈ ALL := mAC ch_t7 (i := 164) (by decide +kernel) rfl
theorem K1681 : (Cond.instanceMethod yX11_stopLine) ∈ ALL := mAC ch_t7 (i := 165) (by decide +kernel) rfl
theorem K1682 : (Cond.selects RX11 yX11_stopLine yX11_stopLine) ∈ ALL := mAC ch_t7 (i := 166) (by decide +kernel) rfl
theorem GV_RL_98 : GoodIn ALL (wsV RL 98 RX11 yX11_stopLine (Cond.code yX11_stopLine cX11_stopLine 4 (some .int) :: ALL)) := gV K1680 K1681 K1682 K77 K1683
theorem K1150 : (Cond.classLink RL 62 "java/util/NoSuchElementException") ∈ ALL := mAC ch_t5 (i := 114) (by decide +kernel) rfl
theorem K1157 : (Cond.castable "java/util/NoSuchElementException" "java/util/NoSuchElementException") ∈ NGS := mNC ch_t5 (i := 121) (by decide +kernel) rfl
theorem HD_yX11_which : yX11_which.cls ≠ "java/lang/invoke/MethodHandle" ∧ yX11_which.cls ≠ "java/lang/invoke/VarHandle" ∧ (parseMethodDescriptor yX11_which.desc).map (fun d => d.parameters.length) = some 0 := by decide +kernel
theorem K1900 : (Cond.code yX11_which cX11_which 1 (some .int)) ∈ ALL := mAC ch_t8 (i := 144) (by decide +kernel) rfl
theorem K1897 : (Cond.methodLink RL 126 yX11_which) ∈ ALL := mAC ch_t8 (i := 141) (by decide +kernel) rfl
theorem K1898 : (Cond.instanceMethod yX11_which) ∈ ALL := mAC ch_t8 (i := 142) (by decide +kernel) rfl
theorem K1899 : (Cond.selects RX11 yX11_which yX11_which) ∈ ALL := mAC ch_t8 (i := 143) (by decide +kernel) rfl
theorem GV_RL_126 : GoodIn ALL (wsV RL 126 RX11 yX11_which (Cond.code yX11_which cX11_which 1 (some .int) :: ALL)) := gV K1897 K1898 K1899 K77 K1900
theorem HD_yX11_backTo : yX11_backTo.cls ≠ "java/lang/invoke/MethodHandle" ∧ yX11_backTo.cls ≠ "java/lang/invoke/VarHandle" ∧ (parseMethodDescriptor yX11_backTo.desc).map (fun d => d.parameters.length) = some 0 := by decide +kernel
theorem K1920 : (Cond.code yX11_backTo cX11_backTo 2 (some .int)) ∈ ALL := mAC ch_t8 (i := 164) (by decide +kernel) rfl
theorem K1917 : (Cond.methodLink RL 133 yX11_backTo) ∈ ALL := mAC ch_t8 (i := 161) (by decide +kernel) rfl
theorem K1918 : (Cond.instanceMethod yX11_backTo) ∈ ALL := mAC ch_t8 (i := 162) (by decide +kernel) rfl
theorem K1919 : (Cond.selects RX11 yX11_backTo yX11_backTo) ∈ ALL := mAC ch_t8 (i := 163) (by decide +kernel) rfl
theorem GV_RL_133 : GoodIn ALL (wsV RL 133 RX11 yX11_backTo (Cond.code yX11_backTo cX11_backTo 2 (some .int) :: ALL)) := gV K1917 K1918 K1919 K77 K1920
theorem HD_yX11_doneShare : yX11_doneShare.cls ≠ "java/lang/invoke/MethodHandle" ∧ yX11_doneShare.cls ≠ "java/lang/invoke/VarHandle" ∧ (parseMethodDescriptor yX11_doneShare.desc).map (fun d => d.parameters.length) = some 0 := by decide +kernel
theorem K1996 : (Cond.code yX11_doneShare cX11_doneShare 2 (some .float)) ∈ ALL := mAC ch_t9 (i := 0) (by decide +kernel) rfl
theorem K1993 : (Cond.methodLink RL 147 yX11_doneShare) ∈ ALL := mAC ch_t8 (i := 237) (by decide +kernel) rfl
theorem K1994 : (Cond.instanceMethod yX11_doneShare) ∈ ALL := mAC ch_t8 (i := 238) (by decide +kernel) rfl
theorem K1995 : (Cond.selects RX11 yX11_doneShare yX11_doneShare) ∈ ALL := mAC ch_t8 (i := 239) (by decide +kernel) rfl
theorem GV_RL_147 : GoodIn ALL (wsV RL 147 RX11 yX11_doneShare (Cond.code yX11_doneShare cX11_doneShare 2 (some .float) :: ALL)) := gV K1993 K1994 K1995 K77 K1996
theorem K1979 : (Cond.classLink RL 151 "java/lang/ArithmeticException") ∈ ALL := mAC ch_t8 (i := 223) (by decide +kernel) rfl
theorem K1991 : (Cond.castable "java/lang/ArithmeticException" "java/lang/ArithmeticException") ∈ NGS := mNC ch_t8 (i := 235) (by decide +kernel) rfl
theorem HD_yX11_meanStack : yX11_meanStack.cls ≠ "java/lang/invoke/MethodHandle" ∧ yX11_meanStack.cls ≠ "java/lang/invoke/VarHandle" ∧ (parseMethodDescriptor yX11_meanStack.desc).map (fun d => d.parameters.length) = some 0 := by decide +kernel
theorem K2010 : (Cond.code yX11_meanStack cX11_meanStack 3 (some .double)) ∈ ALL := mAC ch_t9 (i := 14) (by decide +kernel) rfl
theorem K2007 : (Cond.methodLink RL 153 yX11_meanStack) ∈ ALL := mAC ch_t9 (i := 11) (by decide +kernel) rfl
theorem K2008 : (Cond.instanceMethod yX11_meanStack) ∈ ALL := mAC ch_t9 (i := 12) (by decide +kernel) rfl
theorem K2009 : (Cond.selects RX11 yX11_meanStack yX11_meanStack) ∈ ALL := mAC ch_t9 (i := 13) (by decide +kernel) rfl
theorem GV_RL_153 : GoodIn ALL (wsV RL 153 RX11 yX11_meanStack (Cond.code yX11_meanStack cX11_meanStack 3 (some .double) :: ALL)) := gV K2007 K2008 K2009 K77 K2010
theorem HD_yX11_cell : yX11_cell.cls ≠ "java/lang/invoke/MethodHandle" ∧ yX11_cell.cls ≠ "java/lang/invoke/VarHandle" ∧ (parseMethodDescriptor yX11_cell.desc).map (fun d => d.parameters.length) = some 1 := by decide +kernel
theorem K1197 : (Cond.code yX11_cell cX11_cell 2 (some .int)) ∈ ALL := mAC ch_t5 (i := 161) (by decide +kernel) rfl
theorem K1194 : (Cond.methodLink RL 71 yX11_cell) ∈ ALL := mAC ch_t5 (i := 158) (by decide +kernel) rfl
theorem K1195 : (Cond.instanceMethod yX11_cell) ∈ ALL := mAC ch_t5 (i := 159) (by decide +kernel) rfl
theorem K1196 : (Cond.selects RX11 yX11_cell yX11_cell) ∈ ALL := mAC ch_t5 (i := 160) (by decide +kernel) rfl
theorem GV_RL_71 : GoodIn ALL (wsV RL 71 RX11 yX11_cell (Cond.code yX11_cell cX11_cell 2 (some .int) :: ALL)) := gV K1194 K1195 K1196 K77 K1197
theorem HD_yX11_watch : yX11_watch.cls ≠ "java/lang/invoke/MethodHandle" ∧ yX11_watch.cls ≠ "java/lang/invoke/VarHandle" ∧ (parseMethodDescriptor yX11_watch.desc).map (fun d => d.parameters.length) = some 1 := by decide +kernel
theorem K1763 : (Cond.code yX11_watch cX11_watch 2 (some .int)) ∈ ALL := mAC ch_t8 (i := 7) (by decide +kernel) rfl
theorem K1760 : (Cond.methodLink RL 113 yX11_watch) ∈ ALL := mAC ch_t8 (i := 4) (by decide +kernel) rfl
theorem K1761 : (Cond.instanceMethod yX11_watch) ∈ ALL := mAC ch_t8 (i := 5) (by decide +kernel) rfl
theorem K1762 : (Cond.selects RX11 yX11_watch yX11_watch) ∈ ALL := mAC ch_t8 (i := 6) (by decide +kernel) rfl
theorem GV_RL_113 : GoodIn ALL (wsV RL 113 RX11 yX11_watch (Cond.code yX11_watch cX11_watch 2 (some .int) :: ALL)) := gV K1760 K1761 K1762 K77 K1763
theorem HD_yX11_run : yX11_run.cls ≠ "java/lang/invoke/MethodHandle" ∧ yX11_run.cls ≠ "java/lang/invoke/VarHandle" ∧ (parseMethodDescriptor yX11_run.desc).map (fun d => d.parameters.length) = some 1 := by decide +kernel
theorem K1802 : (Cond.code yX11_run cX11_run 4 (some .int)) ∈ ALL := mAC ch_t8 (i := 46) (by decide +kernel) rfl
theorem K1799 : (Cond.methodLink RL 119 yX11_run) ∈ ALL := mAC ch_t8 (i := 43) (by decide +kernel) rfl
theorem K1800 : (Cond.instanceMethod yX11_run) ∈ ALL := mAC ch_t8 (i := 44) (by decide +kernel) rfl
theorem K1801 : (Cond.selects RX11 yX11_run yX11_run) ∈ ALL := mAC ch_t8 (i := 45) (by decide +kernel) rfl
theorem GV_RL_119 : GoodIn ALL (wsV RL 119 RX11 yX11_run (Cond.code yX11_run cX11_run 4 (some .int) :: ALL)) := gV K1799 K1800 K1801 K77 K1802
theorem K734 : (Cond.classLink RL 13 "java/lang/IllegalArgumentException") ∈ ALL := mAC ch_t3 (i := 178) (by decide +kernel) rfl
theorem K751 : (Cond.castable "java/lang/IllegalArgumentException" "java/lang/IllegalArgumentException") ∈ NGS := mNC ch_t3 (i := 195) (by decide +kernel) rfl
theorem HD_yX11_code : yX11_code.cls ≠ "java/lang/invoke/MethodHandle" ∧ yX11_code.cls ≠ "java/lang/invoke/VarHandle" ∧ (parseMethodDescriptor yX11_code.desc).map (fun d => d.parameters.length) = some 3 := by decide +kernel
theorem K739 : (Cond.code yX11_code cX11_code 5 (some .int)) ∈ ALL := mAC ch_t3 (i := 183) (by decide +kernel) rfl
theorem K736 : (Cond.methodLink RL 7 yX11_code) ∈ ALL := mAC ch_t3 (i := 180) (by decide +kernel) rfl
theorem K737 : (Cond.instanceMethod yX11_code) ∈ ALL := mAC ch_t3 (i := 181) (by decide +kernel) rfl
theorem K738 : (Cond.selects RX11 yX11_code yX11_code) ∈ ALL := mAC ch_t3 (i := 182) (by decide +kernel) rfl
theorem GV_RL_7 : GoodIn ALL (wsV RL 7 RX11 yX11_code (Cond.code yX11_code cX11_code 5 (some .int) :: ALL)) := gV K736 K737 K738 K77 K739
theorem HD_yX11_back : yX11_back.cls ≠ "java/lang/invoke/MethodHandle" ∧ yX11_back.cls ≠ "java/lang/invoke/VarHandle" ∧ (parseMethodDescriptor yX11_back.desc).map (fun d => d.parameters.length) = some 1 := by decide +kernel
theorem K1908 : (Cond.code yX11_back cX11_back 2 (some .int)) ∈ ALL := mAC ch_t8 (i := 152) (by decide +kernel) rfl
theorem K1905 : (Cond.methodLink RL 130 yX11_back) ∈ ALL := mAC ch_t8 (i := 149) (by decide +kernel) rfl
theorem K1906 : (Cond.instanceMethod yX11_back) ∈ ALL := mAC ch_t8 (i := 150) (by decide +kernel) rfl
theorem K1907 : (Cond.selects RX11 yX11_back yX11_back) ∈ ALL := mAC ch_t8 (i := 151) (by decide +kernel) rfl
theorem GV_RL_130 : GoodIn ALL (wsV RL 130 RX11 yX11_back (Cond.code yX11_back cX11_back 2 (some .int) :: ALL)) := gV K1905 K1906 K1907 K77 K1908
theorem dX11_which_0 : decode cX11_which 0 = .ok (.aload_n 0, 1) := by decide +kernel
theorem dX11_which_1 : decode cX11_which 1 = .ok (.getfield 94, 3) := by decide +kernel
theorem dX11_which_4 : decode cX11_which 4 = .ok (.iconst (-1), 1) := by decide +kernel
theorem dX11_which_5 : decode cX11_which 5 = .ok (.if_icmp .ne 14, 3) := by decide +kernel
theorem dX11_which_8 : decode cX11_which 8 = .ok (.new 287, 3) := by decide +kernel
theorem dX11_which_11 : decode cX11_which 11 = .ok (.dup, 1) := by decide +kernel
theorem dX11_which_12 : decode cX11_which 12 = .ok (.ldc_w 464, 3) := by decide +kernel
theorem dX11_which_15 : decode cX11_which 15 = .ok (.invokespecial 291, 3) := by decide +kernel
theorem dX11_which_18 : decode cX11_which 18 = .ok (.athrow, 1) := by decide +kernel
theorem dX11_which_19 : decode cX11_which 19 = .ok (.aload_n 0, 1) := by decide +kernel
theorem dX11_which_20 : decode cX11_which 20 = .ok (.getfield 94, 3) := by decide +kernel
theorem dX11_which_23 : decode cX11_which 23 = .ok (.ireturn, 1) := by decide +kernel
theorem dX11_stopLine_0 : decode cX11_stopLine 0 = .ok (.aload_n 0, 1) := by decide +kernel
theorem dX11_stopLine_1 : decode cX11_stopLine 1 = .ok (.getfield 10, 3) := by decide +kernel
theorem dX11_stopLine_4 : decode cX11_stopLine 4 = .ok (.iload_n 1, 1) := by decide +kernel
theorem dX11_stopLine_5 : decode cX11_stopLine 5 = .ok (.invokevirtual 383, 3) := by decide +kernel
theorem dX11_stopLine_8 : decode cX11_stopLine 8 = .ok (.lstore_n 2, 1) := by decide +kernel
theorem dX11_stopLine_9 : decode cX11_stopLine 9 = .ok (.lload_n 2, 1) := by decide +kernel
theorem dX11_stopLine_10 : decode cX11_stopLine 10 = .ok (.lconst 0, 1) := by decide +kernel
theorem dX11_stopLine_11 : decode cX11_stopLine 11 = .ok (.lcmp, 1) := by decide +kernel
theorem dX11_stopLine_12 : decode cX11_stopLine 12 = .ok (.ifCond .ne 14, 3) := by decide +kernel
theorem dX11_stopLine_15 : decode cX11_stopLine 15 = .ok (.new 287, 3) := by decide +kernel
theorem dX11_stopLine_18 : decode cX11_stopLine 18 = .ok (.dup, 1) := by decide +kernel
theorem dX11_stopLine_19 : decode cX11_stopLine 19 = .ok (.ldc_w 387, 3) := by decide +kernel
theorem dX11_stopLine_22 : decode cX11_stopLine 22 = .ok (.invokespecial 291, 3) := by decide +kernel
theorem dX11_stopLine_25 : decode cX11_stopLine 25 = .ok (.athrow, 1) := by decide +kernel
theorem dX11_stopLine_26 : decode cX11_stopLine 26 = .ok (.aload_n 0, 1) := by decide +kernel
theorem dX11_stopLine_27 : decode cX11_stopLine 27 = .ok (.invokevirtual 377, 3) := by decide +kernel
theorem dX11_stopLine_30 : decode cX11_stopLine 30 = .ok (.aload_n 0, 1) := by decide +kernel
theorem dX11_stopLine_31 : decode cX11_stopLine 31 = .ok (.getfield 30, 3) := by decide +kernel
theorem dX11_stopLine_34 : decode cX11_stopLine 34 = .ok (.lload_n 2, 1) := by decide +kernel
theorem dX11_stopLine_35 : decode cX11_stopLine 35 = .ok (.invokevirtual 380, 3) := by decide +kernel
theorem dX11_stopLine_38 : decode cX11_stopLine 38 = .ok (.ireturn, 1) := by decide +kernel
theorem dX11_backTo_0 : decode cX11_backTo 0 = .ok (.aload_n 0, 1) := by decide +kernel
theorem dX11_backTo_1 : decode cX11_backTo 1 = .ok (.invokevirtual 472, 3) := by decide +kernel
theorem dX11_backTo_4 : decode cX11_backTo 4 = .ok (.istore_n 1, 1) := by decide +kernel
theorem dX11_backTo_5 : decode cX11_backTo 5 = .ok (.iload_n 1, 1) := by decide +kernel
theorem dX11_backTo_6 : decode cX11_backTo 6 = .ok (.ifCond .ne 14, 3) := by decide +kernel
theorem dX11_backTo_9 : decode cX11_backTo 9 = .ok (.new 287, 3) := by decide +kernel
theorem dX11_backTo_12 : decode cX11_backTo 12 = .ok (.dup, 1) := by decide +kernel
theorem dX11_backTo_13 : decode cX11_backTo 13 = .ok (.ldc_w 475, 3) := by decide +kernel
theorem dX11_backTo_16 : decode cX11_backTo 16 = .ok (.invokespecial 291, 3) := by decide +kernel
theorem dX11_backTo_19 : decode cX11_backTo 19 = .ok (.athrow, 1) := by decide +kernel
theorem dX11_backTo_20 : decode cX11_backTo 20 = .ok (.aload_n 0, 1) := by decide +kernel
theorem dX11_backTo_21 : decode cX11_backTo 21 = .ok (.iload_n 1, 1) := by decide +kernel
theorem dX11_backTo_22 : decode cX11_backTo 22 = .ok (.invokevirtual 469, 3) := by decide +kernel
theorem dX11_backTo_25 : decode cX11_backTo 25 = .ok (.iload_n 1, 1) := by decide +kernel
theorem dX11_backTo_26 : decode cX11_backTo 26 = .ok (.ireturn, 1) := by decide +kernel
theorem dL_patch_0 : decode cL_patch 0 = .ok (.aload 5, 2) := by decide +kernel
theorem dL_patch_2 : decode cL_patch 2 = .ok (.iconst 0, 1) := by decide +kernel
theorem dL_patch_3 : decode cL_patch 3 = .ok (.aload_n 0, 1) := by decide +kernel
theorem dL_patch_4 : decode cL_patch 4 = .ok (.iload_n 1, 1) := by decide +kernel
theorem dL_patch_5 : decode cL_patch 5 = .ok (.iload_n 2, 1) := by decide +kernel
theorem dL_patch_6 : decode cL_patch 6 = .ok (.iload_n 3, 1) := by decide +kernel
theorem dL_patch_7 : decode cL_patch 7 = .ok (.iload 4, 2) := by decide +kernel
theorem dL_patch_9 : decode cL_patch 9 = .ok (.invokevirtual 17, 3) := by decide +kernel
theorem dL_patch_12 : decode cL_patch 12 = .ok (.i2l, 1) := by decide +kernel
theorem dL_patch_13 : decode cL_patch 13 = .ok (.lastore, 1) := by decide +kernel
theorem dL_patch_14 : decode cL_patch 14 = .ok (.goto 11, 3) := by decide +kernel
theorem dL_patch_17 : decode cL_patch 17 = .ok (.astore 6, 2) := by decide +kernel
theorem dL_patch_19 : decode cL_patch 19 = .ok (.iconst 1, 1) := by decide +kernel
theorem dL_patch_20 : decode cL_patch 20 = .ok (.ireturn, 1) := by decide +kernel
theorem dL_patch_21 : decode cL_patch 21 = .ok (.astore 6, 2) := by decide +kernel
theorem dL_patch_23 : decode cL_patch 23 = .ok (.iconst 2, 1) := by decide +kernel
theorem dL_patch_24 : decode cL_patch 24 = .ok (.ireturn, 1) := by decide +kernel
theorem dL_patch_25 : decode cL_patch 25 = .ok (.iconst 0, 1) := by decide +kernel
theorem dL_patch_26 : decode cL_patch 26 = .ok (.ireturn, 1) := by decide +kernel
theorem dL_function_0 : decode cL_function 0 = .ok (.aload_n 3, 1) := by decide +kernel
theorem dL_function_1 : decode cL_function 1 = .ok (.iconst 0, 1) := by decide +kernel
theorem dL_function_2 : decode cL_function 2 = .ok (.aload_n 0, 1) := by decide +kernel
theorem dL_function_3 : decode cL_function 3 = .ok (.iload_n 1, 1) := by decide +kernel
theorem dL_function_4 : decode cL_function 4 = .ok (.iload_n 2, 1) := by decide +kernel
theorem dL_function_5 : decode cL_function 5 = .ok (.invokevirtual 23, 3) := by decide +kernel
theorem dL_function_8 : decode cL_function 8 = .ok (.i2l, 1) := by decide +kernel
theorem dL_function_9 : decode cL_function 9 = .ok (.lastore, 1) := by decide +kernel
theorem dL_function_10 : decode cL_function 10 = .ok (.goto 19, 3) := by decide +kernel
theorem dL_function_13 : decode cL_function 13 = .ok (.astore 4, 2) := by decide +kernel
theorem dL_function_15 : decode cL_function 15 = .ok (.iconst 1, 1) := by decide +kernel
theorem dL_function_16 : decode cL_function 16 = .ok (.ireturn, 1) := by decide +kernel
theorem dL_function_17 : decode cL_function 17 = .ok (.astore 4, 2) := by decide +kernel
theorem dL_function_19 : decode cL_function 19 = .ok (.iconst 2, 1) := by decide +kernel
theorem dL_function_20 : decode cL_function 20 = .ok (.ireturn, 1) := by decide +kernel
theorem dL_function_21 : decode cL_function 21 = .ok (.astore 4, 2) := by decide +kernel
theorem dL_function_23 : decode cL_function 23 = .ok (.iconst 3, 1) := by decide +kernel
theorem dL_function_24 : decode cL_function 24 = .ok (.ireturn, 1) := by decide +kernel
theorem dL_function_25 : decode cL_function 25 = .ok (.astore 4, 2) := by decide +kernel
theorem dL_function_27 : decode cL_function 27 = .ok (.iconst 4, 1) := by decide +kernel
theorem dL_function_28 : decode cL_function 28 = .ok (.ireturn, 1) := by decide +kernel
theorem dL_function_29 : decode cL_function 29 = .ok (.iconst 0, 1) := by decide +kernel
theorem dL_function_30 : decode cL_function 30 = .ok (.ireturn, 1) := by decide +kernel
theorem dL_line_0 : decode cL_line 0 = .ok (.aload_n 3, 1) := by decide +kernel
theorem dL_line_1 : decode cL_line 1 = .ok (.iconst 0, 1) := by decide +kernel
theorem dL_line_2 : decode cL_line 2 = .ok (.aload_n 0, 1) := by decide +kernel
theorem dL_line_3 : decode cL_line 3 = .ok (.iload_n 1, 1) := by decide +kernel
theorem dL_line_4 : decode cL_line 4 = .ok (.iload_n 2, 1) := by decide +kernel
theorem dL_line_5 : decode cL_line 5 = .ok (.invokevirtual 29, 3) := by decide +kernel
theorem dL_line_8 : decode cL_line 8 = .ok (.i2l, 1) := by decide +kernel
theorem dL_line_9 : decode cL_line 9 = .ok (.lastore, 1) := by decide +kernel
theorem dL_line_10 : decode cL_line 10 = .ok (.goto 11, 3) := by decide +kernel
theorem dL_line_13 : decode cL_line 13 = .ok (.astore 4, 2) := by decide +kernel
theorem dL_line_15 : decode cL_line 15 = .ok (.iconst 1, 1) := by decide +kernel
theorem dL_line_16 : decode cL_line 16 = .ok (.ireturn, 1) := by decide +kernel
theorem dL_line_17 : decode cL_line 17 = .ok (.astore 4, 2) := by decide +kernel
theorem dL_line_19 : decode cL_line 19 = .ok (.iconst 2, 1) := by decide +kernel
theorem dL_line_20 : decode cL_line 20 = .ok (.ireturn, 1) := by decide +kernel
theorem dL_line_21 : decode cL_line 21 = .ok (.iconst 0, 1) := by decide +kernel
theorem dL_line_22 : decode cL_line 22 = .ok (.ireturn, 1) := by decide +kernel
theorem dL_rule_0 : decode cL_rule 0 = .ok (.aload_n 3, 1) := by decide +kernel
theorem dL_rule_1 : decode cL_rule 1 = .ok (.iconst 0, 1) := by decide +kernel
theorem dL_rule_2 : decode cL_rule 2 = .ok (.aload_n 0, 1) := by decide +kernel
theorem dL_rule_3 : decode cL_rule 3 = .ok (.iload_n 1, 1) := by decide +kernel
theorem dL_rule_4 : decode cL_rule 4 = .ok (.iload_n 2, 1) := by decide +kernel
theorem dL_rule_5 : decode cL_rule 5 = .ok (.invokevirtual 32, 3) := by decide +kernel
theorem dL_rule_8 : decode cL_rule 8 = .ok (.i2l, 1) := by decide +kernel
theorem dL_rule_9 : decode cL_rule 9 = .ok (.lastore, 1) := by decide +kernel
theorem dL_rule_10 : decode cL_rule 10 = .ok (.goto 11, 3) := by decide +kernel
theorem dL_rule_13 : decode cL_rule 13 = .ok (.astore 4, 2) := by decide +kernel
theorem dL_rule_15 : decode cL_rule 15 = .ok (.iconst 1, 1) := by decide +kernel
theorem dL_rule_16 : decode cL_rule 16 = .ok (.ireturn, 1) := by decide +kernel
theorem dL_rule_17 : decode cL_rule 17 = .ok (.astore 4, 2) := by decide +kernel
theorem dL_rule_19 : decode cL_rule 19 = .ok (.iconst 2, 1) := by decide +kernel
theorem dL_rule_20 : decode cL_rule 20 = .ok (.ireturn, 1) := by decide +kernel
theorem dL_rule_21 : decode cL_rule 21 = .ok (.iconst 0, 1) := by decide +kernel
theorem dL_rule_22 : decode cL_rule 22 = .ok (.ireturn, 1) := by decide +kernel
theorem dL_inlined_0 : decode cL_inlined 0 = .ok (.aload 5, 2) := by decide +kernel
theorem dL_inlined_2 : decode cL_inlined 2 = .ok (.iconst 0, 1) := by decide +kernel
theorem dL_inlined_3 : decode cL_inlined 3 = .ok (.aload_n 0, 1) := by decide +kernel
theorem dL_inlined_4 : decode cL_inlined 4 = .ok (.iload_n 1, 1) := by decide +kernel
theorem dL_inlined_5 : decode cL_inlined 5 = .ok (.iload_n 2, 1) := by decide +kernel
theorem dL_inlined_6 : decode cL_inlined 6 = .ok (.iload_n 3, 1) := by decide +kernel
theorem dL_inlined_7 : decode cL_inlined 7 = .ok (.iload 4, 2) := by decide +kernel
theorem dL_inlined_9 : decode cL_inlined 9 = .ok (.invokevirtual 36, 3) := by decide +kernel
theorem dL_inlined_12 : decode cL_inlined 12 = .ok (.i2l, 1) := by decide +kernel
theorem dL_inlined_13 : decode cL_inlined 13 = .ok (.lastore, 1) := by decide +kernel
theorem dL_inlined_14 : decode cL_inlined 14 = .ok (.goto 19, 3) := by decide +kernel
theorem dL_inlined_17 : decode cL_inlined 17 = .ok (.astore 6, 2) := by decide +kernel
theorem dL_inlined_19 : decode cL_inlined 19 = .ok (.iconst 1, 1) := by decide +kernel
theorem dL_inlined_20 : decode cL_inlined 20 = .ok (.ireturn, 1) := by decide +kernel
theorem dL_inlined_21 : decode cL_inlined 21 = .ok (.astore 6, 2) := by decide +kernel
theorem dL_inlined_23 : decode cL_inlined 23 = .ok (.iconst 2, 1) := by decide +kernel
theorem dL_inlined_24 : decode cL_inlined 24 = .ok (.ireturn, 1) := by decide +kernel
theorem dL_inlined_25 : decode cL_inlined 25 = .ok (.astore 6, 2) := by decide +kernel
theorem dL_inlined_27 : decode cL_inlined 27 = .ok (.iconst 3, 1) := by decide +kernel
theorem dL_inlined_28 : decode cL_inlined 28 = .ok (.ireturn, 1) := by decide +kernel
theorem dL_inlined_29 : decode cL_inlined 29 = .ok (.astore 6, 2) := by decide +kernel
theorem dL_inlined_31 : decode cL_inlined 31 = .ok (.iconst 4, 1) := by decide +kernel
theorem dL_inlined_32 : decode cL_inlined 32 = .ok (.ireturn, 1) := by decide +kernel
theorem dL_inlined_33 : decode cL_inlined 33 = .ok (.iconst 0, 1) := by decide +kernel
theorem dL_inlined_34 : decode cL_inlined 34 = .ok (.ireturn, 1) := by decide +kernel
theorem dL_scope_0 : decode cL_scope 0 = .ok (.aload_n 3, 1) := by decide +kernel
theorem dL_scope_1 : decode cL_scope 1 = .ok (.iconst 0, 1) := by decide +kernel
theorem dL_scope_2 : decode cL_scope 2 = .ok (.aload_n 0, 1) := by decide +kernel
theorem dL_scope_3 : decode cL_scope 3 = .ok (.iload_n 1, 1) := by decide +kernel
theorem dL_scope_4 : decode cL_scope 4 = .ok (.iload_n 2, 1) := by decide +kernel
theorem dL_scope_5 : decode cL_scope 5 = .ok (.invokevirtual 40, 3) := by decide +kernel
theorem dL_scope_8 : decode cL_scope 8 = .ok (.i2l, 1) := by decide +kernel
theorem dL_scope_9 : decode cL_scope 9 = .ok (.lastore, 1) := by decide +kernel
theorem dL_scope_10 : decode cL_scope 10 = .ok (.goto 19, 3) := by decide +kernel
theorem dL_scope_13 : decode cL_scope 13 = .ok (.astore 4, 2) := by decide +kernel
theorem dL_scope_15 : decode cL_scope 15 = .ok (.iconst 1, 1) := by decide +kernel
theorem dL_scope_16 : decode cL_scope 16 = .ok (.ireturn, 1) := by decide +kernel
theorem dL_scope_17 : decode cL_scope 17 = .ok (.astore 4, 2) := by decide +kernel
theorem dL_scope_19 : decode cL_scope 19 = .ok (.iconst 2, 1) := by decide +kernel
theorem dL_scope_20 : decode cL_scope 20 = .ok (.ireturn, 1) := by decide +kernel
theorem dL_scope_21 : decode cL_scope 21 = .ok (.astore 4, 2) := by decide +kernel
theorem dL_scope_23 : decode cL_scope 23 = .ok (.iconst 3, 1) := by decide +kernel
theorem dL_scope_24 : decode cL_scope 24 = .ok (.ireturn, 1) := by decide +kernel
theorem dL_scope_25 : decode cL_scope 25 = .ok (.astore 4, 2) := by decide +kernel
theorem dL_scope_27 : decode cL_scope 27 = .ok (.iconst 4, 1) := by decide +kernel
theorem dL_scope_28 : decode cL_scope 28 = .ok (.ireturn, 1) := by decide +kernel
theorem dL_scope_29 : decode cL_scope 29 = .ok (.iconst 0, 1) := by decide +kernel
theorem dL_scope_30 : decode cL_scope 30 = .ok (.ireturn, 1) := by decide +kernel
theorem dL_variable_0 : decode cL_variable 0 = .ok (.aload 5, 2) := by decide +kernel
theorem dL_variable_2 : decode cL_variable 2 = .ok (.iconst 0, 1) := by decide +kernel
theorem dL_variable_3 : decode cL_variable 3 = .ok (.aload_n 0, 1) := by decide +kernel
theorem dL_variable_4 : decode cL_variable 4 = .ok (.iload_n 1, 1) := by decide +kernel
theorem dL_variable_5 : decode cL_variable 5 = .ok (.iload_n 2, 1) := by decide +kernel
theorem dL_variable_6 : decode cL_variable 6 = .ok (.iload_n 3, 1) := by decide +kernel
theorem dL_variable_7 : decode cL_variable 7 = .ok (.iload 4, 2) := by decide +kernel
theorem dL_variable_9 : decode cL_variable 9 = .ok (.invokevirtual 43, 3) := by decide +kernel
theorem dL_variable_12 : decode cL_variable 12 = .ok (.i2l, 1) := by decide +kernel
theorem dL_variable_13 : decode cL_variable 13 = .ok (.lastore, 1) := by decide +kernel
theorem dL_variable_14 : decode cL_variable 14 = .ok (.goto 15, 3) := by decide +kernel
theorem dL_variable_17 : decode cL_variable 17 = .ok (.astore 6, 2) := by decide +kernel
theorem dL_variable_19 : decode cL_variable 19 = .ok (.iconst 1, 1) := by decide +kernel
theorem dL_variable_20 : decode cL_variable 20 = .ok (.ireturn, 1) := by decide +kernel
theorem dL_variable_21 : decode cL_variable 21 = .ok (.astore 6, 2) := by decide +kernel
theorem dL_variable_23 : decode cL_variable 23 = .ok (.iconst 2, 1) := by decide +kernel
theorem dL_variable_24 : decode cL_variable 24 = .ok (.ireturn, 1) := by decide +kernel
theorem dL_variable_25 : decode cL_variable 25 = .ok (.astore 6, 2) := by decide +kernel
theorem dL_variable_27 : decode cL_variable 27 = .ok (.iconst 3, 1) := by decide +kernel
theorem dL_variable_28 : decode cL_variable 28 = .ok (.ireturn, 1) := by decide +kernel
theorem dL_variable_29 : decode cL_variable 29 = .ok (.iconst 0, 1) := by decide +kernel
theorem dL_variable_30 : decode cL_variable 30 = .ok (.ireturn, 1) := by decide +kernel
theorem dL_where_0 : decode cL_where 0 = .ok (.aload 6, 2) := by decide +kernel
theorem dL_where_2 : decode cL_where 2 = .ok (.iconst 0, 1) := by decide +kernel
theorem dL_where_3 : decode cL_where 3 = .ok (.aload_n 0, 1) := by decide +kernel
theorem dL_where_4 : decode cL_where 4 = .ok (.iload_n 1, 1) := by decide +kernel
theorem dL_where_5 : decode cL_where 5 = .ok (.iload_n 2, 1) := by decide +kernel
theorem dL_where_6 : decode cL_where 6 = .ok (.iload_n 3, 1) := by decide +kernel
theorem dL_where_7 : decode cL_where 7 = .ok (.iload 4, 2) := by decide +kernel
theorem dL_where_9 : decode cL_where 9 = .ok (.iload 5, 2) := by decide +kernel
theorem dL_where_11 : decode cL_where 11 = .ok (.invokevirtual 47, 3) := by decide +kernel
theorem dL_where_14 : decode cL_where 14 = .ok (.i2l, 1) := by decide +kernel
theorem dL_where_15 : decode cL_where 15 = .ok (.lastore, 1) := by decide +kernel
theorem dL_where_16 : decode cL_where 16 = .ok (.goto 15, 3) := by decide +kernel
theorem dL_where_19 : decode cL_where 19 = .ok (.astore 7, 2) := by decide +kernel
theorem dL_where_21 : decode cL_where 21 = .ok (.iconst 1, 1) := by decide +kernel
theorem dL_where_22 : decode cL_where 22 = .ok (.ireturn, 1) := by decide +kernel
theorem dL_where_23 : decode cL_where 23 = .ok (.astore 7, 2) := by decide +kernel
theorem dL_where_25 : decode cL_where 25 = .ok (.iconst 2, 1) := by decide +kernel
theorem dL_where_26 : decode cL_where 26 = .ok (.ireturn, 1) := by decide +kernel
theorem dL_where_27 : decode cL_where 27 = .ok (.astore 7, 2) := by decide +kernel
theorem dL_where_29 : decode cL_where 29 = .ok (.iconst 3, 1) := by decide +kernel
theorem dL_where_30 : decode cL_where 30 = .ok (.ireturn, 1) := by decide +kernel
theorem dL_where_31 : decode cL_where 31 = .ok (.iconst 0, 1) := by decide +kernel
theorem dL_where_32 : decode cL_where 32 = .ok (.ireturn, 1) := by decide +kernel
theorem dL_thread_0 : decode cL_thread 0 = .ok (.aload_n 2, 1) := by decide +kernel
theorem dL_thread_1 : decode cL_thread 1 = .ok (.iconst 0, 1) := by decide +kernel
theorem dL_thread_2 : decode cL_thread 2 = .ok (.aload_n 0, 1) := by decide +kernel
theorem dL_thread_3 : decode cL_thread 3 = .ok (.iload_n 1, 1) := by decide +kernel
theorem dL_thread_4 : decode cL_thread 4 = .ok (.invokevirtual 51, 3) := by decide +kernel
theorem dL_thread_7 : decode cL_thread 7 = .ok (.i2l, 1) := by decide +kernel
theorem dL_thread_8 : decode cL_thread 8 = .ok (.lastore, 1) := by decide +kernel
theorem dL_thread_9 : decode cL_thread 9 = .ok (.goto 9, 3) := by decide +kernel
theorem dL_thread_12 : decode cL_thread 12 = .ok (.astore_n 3, 1) := by decide +kernel
theorem dL_thread_13 : decode cL_thread 13 = .ok (.iconst 1, 1) := by decide +kernel
theorem dL_thread_14 : decode cL_thread 14 = .ok (.ireturn, 1) := by decide +kernel
theorem dL_thread_15 : decode cL_thread 15 = .ok (.astore_n 3, 1) := by decide +kernel
theorem dL_thread_16 : decode cL_thread 16 = .ok (.iconst 2, 1) := by decide +kernel
theorem dL_thread_17 : decode cL_thread 17 = .ok (.ireturn, 1) := by decide +kernel
theorem dL_thread_18 : decode cL_thread 18 = .ok (.iconst 0, 1) := by decide +kernel
theorem dL_thread_19 : decode cL_thread 19 = .ok (.ireturn, 1) := by decide +kernel
theorem dL_state_0 : decode cL_state 0 = .ok (.aload_n 2, 1) := by decide +kernel
theorem dL_state_1 : decode cL_state 1 = .ok (.iconst 0, 1) := by decide +kernel
theorem dL_state_2 : decode cL_state 2 = .ok (.aload_n 0, 1) := by decide +kernel
theorem dL_state_3 : decode cL_state 3 = .ok (.iload_n 1, 1) := by decide +kernel
theorem dL_state_4 : decode cL_state 4 = .ok (.invokevirtual 55, 3) := by decide +kernel
theorem dL_state_7 : decode cL_state 7 = .ok (.i2l, 1) := by decide +kernel
theorem dL_state_8 : decode cL_state 8 = .ok (.lastore, 1) := by decide +kernel
theorem dL_state_9 : decode cL_state 9 = .ok (.goto 6, 3) := by decide +kernel
theorem dL_state_12 : decode cL_state 12 = .ok (.astore_n 3, 1) := by decide +kernel
theorem dL_state_13 : decode cL_state 13 = .ok (.iconst 1, 1) := by decide +kernel
theorem dL_state_14 : decode cL_state 14 = .ok (.ireturn, 1) := by decide +kernel
theorem dL_state_15 : decode cL_state 15 = .ok (.iconst 0, 1) := by decide +kernel
theorem dL_state_16 : decode cL_state 16 = .ok (.ireturn, 1) := by decide +kernel
theorem dL_fault_0 : decode cL_fault 0 = .ok (.aload_n 2, 1) := by decide +kernel
theorem dL_fault_1 : decode cL_fault 1 = .ok (.iconst 0, 1) := by decide +kernel
theorem dL_fault_2 : decode cL_fault 2 = .ok (.aload_n 0, 1) := by decide +kernel
theorem dL_fault_3 : decode cL_fault 3 = .ok (.iload_n 1, 1) := by decide +kernel
theorem dL_fault_4 : decode cL_fault 4 = .ok (.invokevirtual 59, 3) := by decide +kernel
theorem dL_fault_7 : decode cL_fault 7 = .ok (.i2l, 1) := by decide +kernel
theorem dL_fault_8 : decode cL_fault 8 = .ok (.lastore, 1) := by decide +kernel
theorem dL_fault_9 : decode cL_fault 9 = .ok (.goto 9, 3) := by decide +kernel
theorem dL_fault_12 : decode cL_fault 12 = .ok (.astore_n 3, 1) := by decide +kernel
theorem dL_fault_13 : decode cL_fault 13 = .ok (.iconst 1, 1) := by decide +kernel
theorem dL_fault_14 : decode cL_fault 14 = .ok (.ireturn, 1) := by decide +kernel
theorem dL_fault_15 : decode cL_fault 15 = .ok (.astore_n 3, 1) := by decide +kernel
theorem dL_fault_16 : decode cL_fault 16 = .ok (.iconst 2, 1) := by decide +kernel
theorem dL_fault_17 : decode cL_fault 17 = .ok (.ireturn, 1) := by decide +kernel
theorem dL_fault_18 : decode cL_fault 18 = .ok (.iconst 0, 1) := by decide +kernel
theorem dL_fault_19 : decode cL_fault 19 = .ok (.ireturn, 1) := by decide +kernel
theorem dL_hold_0 : decode cL_hold 0 = .ok (.aload_n 3, 1) := by decide +kernel
theorem dL_hold_1 : decode cL_hold 1 = .ok (.iconst 0, 1) := by decide +kernel
theorem dL_hold_2 : decode cL_hold 2 = .ok (.aload_n 0, 1) := by decide +kernel
theorem dL_hold_3 : decode cL_hold 3 = .ok (.iload_n 1, 1) := by decide +kernel
theorem dL_hold_4 : decode cL_hold 4 = .ok (.iload_n 2, 1) := by decide +kernel
theorem dL_hold_5 : decode cL_hold 5 = .ok (.invokevirtual 64, 3) := by decide +kernel
theorem dL_hold_8 : decode cL_hold 8 = .ok (.ifCond .eq 7, 3) := by decide +kernel
theorem dL_hold_11 : decode cL_hold 11 = .ok (.lconst 1, 1) := by decide +kernel
theorem dL_hold_12 : decode cL_hold 12 = .ok (.goto 4, 3) := by decide +kernel
theorem dL_hold_15 : decode cL_hold 15 = .ok (.lconst 0, 1) := by decide +kernel
theorem dL_hold_16 : decode cL_hold 16 = .ok (.lastore, 1) := by decide +kernel
theorem dL_hold_17 : decode cL_hold 17 = .ok (.goto 7, 3) := by decide +kernel
theorem dL_hold_20 : decode cL_hold 20 = .ok (.astore 4, 2) := by decide +kernel
theorem dL_hold_22 : decode cL_hold 22 = .ok (.iconst 1, 1) := by decide +kernel
theorem dL_hold_23 : decode cL_hold 23 = .ok (.ireturn, 1) := by decide +kernel
theorem dL_hold_24 : decode cL_hold 24 = .ok (.iconst 0, 1) := by decide +kernel
theorem dL_hold_25 : decode cL_hold 25 = .ok (.ireturn, 1) := by decide +kernel
theorem dL_register_0 : decode cL_register 0 = .ok (.aload_n 3, 1) := by decide +kernel
theorem dL_register_1 : decode cL_register 1 = .ok (.iconst 0, 1) := by decide +kernel
theorem dL_register_2 : decode cL_register 2 = .ok (.aload_n 0, 1) := by decide +kernel
theorem dL_register_3 : decode cL_register 3 = .ok (.iload_n 1, 1) := by decide +kernel
theorem dL_register_4 : decode cL_register 4 = .ok (.iload_n 2, 1) := by decide +kernel
theorem dL_register_5 : decode cL_register 5 = .ok (.invokevirtual 68, 3) := by decide +kernel
theorem dL_register_8 : decode cL_register 8 = .ok (.i2l, 1) := by decide +kernel
theorem dL_register_9 : decode cL_register 9 = .ok (.lastore, 1) := by decide +kernel
theorem dL_register_10 : decode cL_register 10 = .ok (.goto 7, 3) := by decide +kernel
theorem dL_register_13 : decode cL_register 13 = .ok (.astore 4, 2) := by decide +kernel
theorem dL_register_15 : decode cL_register 15 = .ok (.iconst 1, 1) := by decide +kernel
theorem dL_register_16 : decode cL_register 16 = .ok (.ireturn, 1) := by decide +kernel
theorem dL_register_17 : decode cL_register 17 = .ok (.iconst 0, 1) := by decide +kernel
theorem dL_register_18 : decode cL_register 18 = .ok (.ireturn, 1) := by decide +kernel
theorem dL_frames_0 : decode cL_frames 0 = .ok (.aload_n 2, 1) := by decide +kernel
theorem dL_frames_1 : decode cL_frames 1 = .ok (.iconst 0, 1) := by decide +kernel
theorem dL_frames_2 : decode cL_frames 2 = .ok (.aload_n 0, 1) := by decide +kernel
theorem dL_frames_3 : decode cL_frames 3 = .ok (.iload_n 1, 1) := by decide +kernel
theorem dL_frames_4 : decode cL_frames 4 = .ok (.invokevirtual 74, 3) := by decide +kernel
theorem dL_frames_7 : decode cL_frames 7 = .ok (.i2l, 1) := by decide +kernel
theorem dL_frames_8 : decode cL_frames 8 = .ok (.lastore, 1) := by decide +kernel
theorem dL_frames_9 : decode cL_frames 9 = .ok (.goto 6, 3) := by decide +kernel
theorem dL_frames_12 : decode cL_frames 12 = .ok (.astore_n 3, 1) := by decide +kernel
theorem dL_frames_13 : decode cL_frames 13 = .ok (.iconst 1, 1) := by decide +kernel
theorem dL_frames_14 : decode cL_frames 14 = .ok (.ireturn, 1) := by decide +kernel
theorem dL_frames_15 : decode cL_frames 15 = .ok (.iconst 0, 1) := by decide +kernel
theorem dL_frames_16 : decode cL_frames 16 = .ok (.ireturn, 1) := by decide +kernel
theorem dL_frame_0 : decode cL_frame 0 = .ok (.aload 4, 2) := by decide +kernel
theorem dL_frame_2 : decode cL_frame 2 = .ok (.iconst 0, 1) := by decide +kernel
theorem dL_frame_3 : decode cL_frame 3 = .ok (.aload_n 0, 1) := by decide +kernel
theorem dL_frame_4 : decode cL_frame 4 = .ok (.iload_n 1, 1) := by decide +kernel
theorem dL_frame_5 : decode cL_frame 5 = .ok (.iload_n 2, 1) := by decide +kernel
theorem dL_frame_6 : decode cL_frame 6 = .ok (.iload_n 3, 1) := by decide +kernel
theorem dL_frame_7 : decode cL_frame 7 = .ok (.invokevirtual 77, 3) := by decide +kernel
theorem dL_frame_10 : decode cL_frame 10 = .ok (.i2l, 1) := by decide +kernel
theorem dL_frame_11 : decode cL_frame 11 = .ok (.lastore, 1) := by decide +kernel
theorem dL_frame_12 : decode cL_frame 12 = .ok (.goto 11, 3) := by decide +kernel
theorem dL_frame_15 : decode cL_frame 15 = .ok (.astore 5, 2) := by decide +kernel
theorem dL_frame_17 : decode cL_frame 17 = .ok (.iconst 1, 1) := by decide +kernel
theorem dL_frame_18 : decode cL_frame 18 = .ok (.ireturn, 1) := by decide +kernel
theorem dL_frame_19 : decode cL_frame 19 = .ok (.astore 5, 2) := by decide +kernel
theorem dL_frame_21 : decode cL_frame 21 = .ok (.iconst 2, 1) := by decide +kernel
theorem dL_frame_22 : decode cL_frame 22 = .ok (.ireturn, 1) := by decide +kernel
theorem dL_frame_23 : decode cL_frame 23 = .ok (.iconst 0, 1) := by decide +kernel
theorem dL_frame_24 : decode cL_frame 24 = .ok (.ireturn, 1) := by decide +kernel
theorem dL_see_0 : decode cL_see 0 = .ok (.aload 4, 2) := by decide +kernel
theorem dL_see_2 : decode cL_see 2 = .ok (.iconst 0, 1) := by decide +kernel
theorem dL_see_3 : decode cL_see 3 = .ok (.aload_n 0, 1) := by decide +kernel
theorem dL_see_4 : decode cL_see 4 = .ok (.iload_n 1, 1) := by decide +kernel
theorem dL_see_5 : decode cL_see 5 = .ok (.iload_n 2, 1) := by decide +kernel
theorem dL_see_6 : decode cL_see 6 = .ok (.iload_n 3, 1) := by decide +kernel
theorem dL_see_7 : decode cL_see 7 = .ok (.invokevirtual 81, 3) := by decide +kernel
theorem dL_see_10 : decode cL_see 10 = .ok (.i2l, 1) := by decide +kernel
theorem dL_see_11 : decode cL_see 11 = .ok (.lastore, 1) := by decide +kernel
theorem dL_see_12 : decode cL_see 12 = .ok (.goto 11, 3) := by decide +kernel
theorem dL_see_15 : decode cL_see 15 = .ok (.astore 5, 2) := by decide +kernel
theorem dL_see_17 : decode cL_see 17 = .ok (.iconst 1, 1) := by decide +kernel
theorem dL_see_18 : decode cL_see 18 = .ok (.ireturn, 1) := by decide +kernel
theorem dL_see_19 : decode cL_see 19 = .ok (.astore 5, 2) := by decide +kernel
theorem dL_see_21 : decode cL_see 21 = .ok (.iconst 2, 1) := by decide +kernel
theorem dL_see_22 : decode cL_see 22 = .ok (.ireturn, 1) := by decide +kernel
theorem dL_see_23 : decode cL_see 23 = .ok (.iconst 0, 1) := by decide +kernel
theorem dL_see_24 : decode cL_see 24 = .ok (.ireturn, 1) := by decide +kernel
theorem dL_value_0 : decode cL_value 0 = .ok (.aload 5, 2) := by decide +kernel
theorem dL_value_2 : decode cL_value 2 = .ok (.iconst 0, 1) := by decide +kernel
theorem dL_value_3 : decode cL_value 3 = .ok (.aload_n 0, 1) := by decide +kernel
theorem dL_value_4 : decode cL_value 4 = .ok (.iload_n 1, 1) := by decide +kernel
theorem dL_value_5 : decode cL_value 5 = .ok (.iload_n 2, 1) := by decide +kernel
theorem dL_value_6 : decode cL_value 6 = .ok (.iload_n 3, 1) := by decide +kernel
theorem dL_value_7 : decode cL_value 7 = .ok (.iload 4, 2) := by decide +kernel
theorem dL_value_9 : decode cL_value 9 = .ok (.invokevirtual 85, 3) := by decide +kernel
theorem dL_value_12 : decode cL_value 12 = .ok (.i2l, 1) := by decide +kernel
theorem dL_value_13 : decode cL_value 13 = .ok (.lastore, 1) := by decide +kernel
theorem dL_value_14 : decode cL_value 14 = .ok (.goto 15, 3) := by decide +kernel
theorem dL_value_17 : decode cL_value 17 = .ok (.astore 6, 2) := by decide +kernel
theorem dL_value_19 : decode cL_value 19 = .ok (.iconst 1, 1) := by decide +kernel
theorem dL_value_20 : decode cL_value 20 = .ok (.ireturn, 1) := by decide +kernel
theorem dL_value_21 : decode cL_value 21 = .ok (.astore 6, 2) := by decide +kernel
theorem dL_value_23 : decode cL_value 23 = .ok (.iconst 2, 1) := by decide +kernel
theorem dL_value_24 : decode cL_value 24 = .ok (.ireturn, 1) := by decide +kernel
theorem dL_value_25 : decode cL_value 25 = .ok (.astore 6, 2) := by decide +kernel
theorem dL_value_27 : decode cL_value 27 = .ok (.iconst 3, 1) := by decide +kernel
theorem dL_value_28 : decode cL_value 28 = .ok (.ireturn, 1) := by decide +kernel
theorem dL_value_29 : decode cL_value 29 = .ok (.iconst 0, 1) := by decide +kernel
theorem dL_value_30 : decode cL_value 30 = .ok (.ireturn, 1) := by decide +kernel
theorem dL_show_0 : decode cL_show 0 = .ok (.aload 4, 2) := by decide +kernel
theorem dL_show_2 : decode cL_show 2 = .ok (.iconst 0, 1) := by decide +kernel
theorem dL_show_3 : decode cL_show 3 = .ok (.aload_n 0, 1) := by decide +kernel
theorem dL_show_4 : decode cL_show 4 = .ok (.iload_n 1, 1) := by decide +kernel
theorem dL_show_5 : decode cL_show 5 = .ok (.iload_n 2, 1) := by decide +kernel
theorem dL_show_6 : decode cL_show 6 = .ok (.iload_n 3, 1) := by decide +kernel
theorem dL_show_7 : decode cL_show 7 = .ok (.invokevirtual 89, 3) := by decide +kernel
theorem dL_show_10 : decode cL_show 10 = .ok (.i2l, 1) := by decide +kernel
theorem dL_show_11 : decode cL_show 11 = .ok (.lastore, 1) := by decide +kernel
theorem dL_show_12 : decode cL_show 12 = .ok (.goto 15, 3) := by decide +kernel
theorem dL_show_15 : decode cL_show 15 = .ok (.astore 5, 2) := by decide +kernel
theorem dL_show_17 : decode cL_show 17 = .ok (.iconst 1, 1) := by decide +kernel
theorem dL_show_18 : decode cL_show 18 = .ok (.ireturn, 1) := by decide +kernel
theorem dL_show_19 : decode cL_show 19 = .ok (.astore 5, 2) := by decide +kernel
theorem dL_show_21 : decode cL_show 21 = .ok (.iconst 2, 1) := by decide +kernel
theorem dL_show_22 : decode cL_show 22 = .ok (.ireturn, 1) := by decide +kernel
theorem dL_show_23 : decode cL_show 23 = .ok (.astore 5, 2) := by decide +kernel
theorem dL_show_25 : decode cL_show 25 = .ok (.iconst 3, 1) := by decide +kernel
theorem dL_show_26 : decode cL_show 26 = .ok (.ireturn, 1) := by decide +kernel
theorem dL_show_27 : decode cL_show 27 = .ok (.iconst 0, 1) := by decide +kernel
theorem dL_show_28 : decode cL_show 28 = .ok (.ireturn, 1) := by decide +kernel
theorem dL_stop_0 : decode cL_stop 0 = .ok (.aload_n 2, 1) := by decide +kernel
theorem dL_stop_1 : decode cL_stop 1 = .ok (.iconst 0, 1) := by decide +kernel
theorem dL_stop_2 : decode cL_stop 2 = .ok (.aload_n 0, 1) := by decide +kernel
theorem dL_stop_3 : decode cL_stop 3 = .ok (.iload_n 1, 1) := by decide +kernel
theorem dL_stop_4 : decode cL_stop 4 = .ok (.invokevirtual 95, 3) := by decide +kernel
theorem dL_stop_7 : decode cL_stop 7 = .ok (.i2l, 1) := by decide +kernel
theorem dL_stop_8 : decode cL_stop 8 = .ok (.lastore, 1) := by decide +kernel
theorem dL_stop_9 : decode cL_stop 9 = .ok (.goto 9, 3) := by decide +kernel
theorem dL_stop_12 : decode cL_stop 12 = .ok (.astore_n 3, 1) := by decide +kernel
theorem dL_stop_13 : decode cL_stop 13 = .ok (.iconst 1, 1) := by decide +kernel
theorem dL_stop_14 : decode cL_stop 14 = .ok (.ireturn, 1) := by decide +kernel
theorem dL_stop_15 : decode cL_stop 15 = .ok (.astore_n 3, 1) := by decide +kernel
theorem dL_stop_16 : decode cL_stop 16 = .ok (.iconst 2, 1) := by decide +kernel
theorem dL_stop_17 : decode cL_stop 17 = .ok (.ireturn, 1) := by decide +kernel
theorem dL_stop_18 : decode cL_stop 18 = .ok (.iconst 0, 1) := by decide +kernel
theorem dL_stop_19 : decode cL_stop 19 = .ok (.ireturn, 1) := by decide +kernel
theorem dL_stopIn_0 : decode cL_stopIn 0 = .ok (.aload_n 2, 1) := by decide +kernel
theorem dL_stopIn_1 : decode cL_stopIn 1 = .ok (.iconst 0, 1) := by decide +kernel
theorem dL_stopIn_2 : decode cL_stopIn 2 = .ok (.aload_n 0, 1) := by decide +kernel
theorem dL_stopIn_3 : decode cL_stopIn 3 = .ok (.iload_n 1, 1) := by decide +kernel
theorem dL_stopIn_4 : decode cL_stopIn 4 = .ok (.invokevirtual 101, 3) := by decide +kernel
theorem dL_stopIn_7 : decode cL_stopIn 7 = .ok (.i2l, 1) := by decide +kernel
theorem dL_stopIn_8 : decode cL_stopIn 8 = .ok (.lastore, 1) := by decide +kernel
theorem dL_stopIn_9 : decode cL_stopIn 9 = .ok (.goto 9, 3) := by decide +kernel
theorem dL_stopIn_12 : decode cL_stopIn 12 = .ok (.astore_n 3, 1) := by decide +kernel
theorem dL_stopIn_13 : decode cL_stopIn 13 = .ok (.iconst 1, 1) := by decide +kernel
theorem dL_stopIn_14 : decode cL_stopIn 14 = .ok (.ireturn, 1) := by decide +kernel
theorem dL_stopIn_15 : decode cL_stopIn 15 = .ok (.astore_n 3, 1) := by decide +kernel
theorem dL_stopIn_16 : decode cL_stopIn 16 = .ok (.iconst 2, 1) := by decide +kernel
theorem dL_stopIn_17 : decode cL_stopIn 17 = .ok (.ireturn, 1) := by decide +kernel
theorem dL_stopIn_18 : decode cL_stopIn 18 = .ok (.iconst 0, 1) := by decide +kernel
theorem dL_stopIn_19 : decode cL_stopIn 19 = .ok (.ireturn, 1) := by decide +kernel
theorem dL_when_0 : decode cL_when 0 = .ok (.aload 5, 2) := by decide +kernel
theorem dL_when_2 : decode cL_when 2 = .ok (.iconst 0, 1) := by decide +kernel
theorem dL_when_3 : decode cL_when 3 = .ok (.aload_n 0, 1) := by decide +kernel
theorem dL_when_4 : decode cL_when 4 = .ok (.iload_n 1, 1) := by decide +kernel
theorem dL_when_5 : decode cL_when 5 = .ok (.iload_n 2, 1) := by decide +kernel
theorem dL_when_6 : decode cL_when 6 = .ok (.iload_n 3, 1) := by decide +kernel
theorem dL_when_7 : decode cL_when 7 = .ok (.iload 4, 2) := by decide +kernel
theorem dL_when_9 : decode cL_when 9 = .ok (.invokevirtual 104, 3) := by decide +kernel
theorem dL_when_12 : decode cL_when 12 = .ok (.i2l, 1) := by decide +kernel
theorem dL_when_13 : decode cL_when 13 = .ok (.lastore, 1) := by decide +kernel
theorem dL_when_14 : decode cL_when 14 = .ok (.goto 11, 3) := by decide +kernel
theorem dL_when_17 : decode cL_when 17 = .ok (.astore 6, 2) := by decide +kernel
theorem dL_when_19 : decode cL_when 19 = .ok (.iconst 1, 1) := by decide +kernel
theorem dL_when_20 : decode cL_when 20 = .ok (.ireturn, 1) := by decide +kernel
theorem dL_when_21 : decode cL_when 21 = .ok (.astore 6, 2) := by decide +kernel
theorem dL_when_23 : decode cL_when 23 = .ok (.iconst 2, 1) := by decide +kernel
theorem dL_when_24 : decode cL_when 24 = .ok (.ireturn, 1) := by decide +kernel
theorem dL_when_25 : decode cL_when 25 = .ok (.iconst 0, 1) := by decide +kernel
theorem dL_when_26 : decode cL_when 26 = .ok (.ireturn, 1) := by decide +kernel
theorem dL_hits_0 : decode cL_hits 0 = .ok (.aload_n 2, 1) := by decide +kernel
theorem dL_hits_1 : decode cL_hits 1 = .ok (.iconst 0, 1) := by decide +kernel
theorem dL_hits_2 : decode cL_hits 2 = .ok (.aload_n 0, 1) := by decide +kernel
theorem dL_hits_3 : decode cL_hits 3 = .ok (.iload_n 1, 1) := by decide +kernel
theorem dL_hits_4 : decode cL_hits 4 = .ok (.invokevirtual 110, 3) := by decide +kernel
theorem dL_hits_7 : decode cL_hits 7 = .ok (.i2l, 1) := by decide +kernel
theorem dL_hits_8 : decode cL_hits 8 = .ok (.lastore, 1) := by decide +kernel
theorem dL_hits_9 : decode cL_hits 9 = .ok (.goto 6, 3) := by decide +kernel
theorem dL_hits_12 : decode cL_hits 12 = .ok (.astore_n 3, 1) := by decide +kernel
theorem dL_hits_13 : decode cL_hits 13 = .ok (.iconst 1, 1) := by decide +kernel
theorem dL_hits_14 : decode cL_hits 14 = .ok (.ireturn, 1) := by decide +kernel
theorem dL_hits_15 : decode cL_hits 15 = .ok (.iconst 0, 1) := by decide +kernel
theorem dL_hits_16 : decode cL_hits 16 = .ok (.ireturn, 1) := by decide +kernel
theorem dL_watchName_0 : decode cL_watchName 0 = .ok (.aload 4, 2) := by decide +kernel
theorem dL_watchName_2 : decode cL_watchName 2 = .ok (.iconst 0, 1) := by decide +kernel
theorem dL_watchName_3 : decode cL_watchName 3 = .ok (.aload_n 0, 1) := by decide +kernel
theorem dL_watchName_4 : decode cL_watchName 4 = .ok (.iload_n 1, 1) := by decide +kernel
theorem dL_watchName_5 : decode cL_watchName 5 = .ok (.iload_n 2, 1) := by decide +kernel
theorem dL_watchName_6 : decode cL_watchName 6 = .ok (.iload_n 3, 1) := by decide +kernel
theorem dL_watchName_7 : decode cL_watchName 7 = .ok (.invokevirtual 116, 3) := by decide +kernel
theorem dL_watchName_10 : decode cL_watchName 10 = .ok (.i2l, 1) := by decide +kernel
theorem dL_watchName_11 : decode cL_watchName 11 = .ok (.lastore, 1) := by decide +kernel
theorem dL_watchName_12 : decode cL_watchName 12 = .ok (.goto 23, 3) := by decide +kernel
theorem dL_watchName_15 : decode cL_watchName 15 = .ok (.astore 5, 2) := by decide +kernel
theorem dL_watchName_17 : decode cL_watchName 17 = .ok (.iconst 1, 1) := by decide +kernel
theorem dL_watchName_18 : decode cL_watchName 18 = .ok (.ireturn, 1) := by decide +kernel
theorem dL_watchName_19 : decode cL_watchName 19 = .ok (.astore 5, 2) := by decide +kernel
theorem dL_watchName_21 : decode cL_watchName 21 = .ok (.iconst 2, 1) := by decide +kernel
theorem dL_watchName_22 : decode cL_watchName 22 = .ok (.ireturn, 1) := by decide +kernel
theorem dL_watchName_23 : decode cL_watchName 23 = .ok (.astore 5, 2) := by decide +kernel
theorem dL_watchName_25 : decode cL_watchName 25 = .ok (.iconst 3, 1) := by decide +kernel
theorem dL_watchName_26 : decode cL_watchName 26 = .ok (.ireturn, 1) := by decide +kernel
theorem dL_watchName_27 : decode cL_watchName 27 = .ok (.astore 5, 2) := by decide +kernel
theorem dL_watchName_29 : decode cL_watchName 29 = .ok (.iconst 4, 1) := by decide +kernel
theorem dL_watchName_30 : decode cL_watchName 30 = .ok (.ireturn, 1) := by decide +kernel
theorem dL_watchName_31 : decode cL_watchName 31 = .ok (.astore 5, 2) := by decide +kernel
theorem dL_watchName_33 : decode cL_watchName 33 = .ok (.iconst 5, 1) := by decide +kernel
theorem dL_watchName_34 : decode cL_watchName 34 = .ok (.ireturn, 1) := by decide +kernel
theorem dL_watchName_35 : decode cL_watchName 35 = .ok (.iconst 0, 1) := by decide +kernel
theorem dL_watchName_36 : decode cL_watchName 36 = .ok (.ireturn, 1) := by decide +kernel
theorem dL_stepLine_0 : decode cL_stepLine 0 = .ok (.aload_n 3, 1) := by decide +kernel
theorem dL_stepLine_1 : decode cL_stepLine 1 = .ok (.iconst 0, 1) := by decide +kernel
theorem dL_stepLine_2 : decode cL_stepLine 2 = .ok (.aload_n 0, 1) := by decide +kernel
theorem dL_stepLine_3 : decode cL_stepLine 3 = .ok (.iload_n 1, 1) := by decide +kernel
theorem dL_stepLine_4 : decode cL_stepLine 4 = .ok (.iload_n 2, 1) := by decide +kernel
theorem dL_stepLine_5 : decode cL_stepLine 5 = .ok (.invokevirtual 122, 3) := by decide +kernel
theorem dL_stepLine_8 : decode cL_stepLine 8 = .ok (.i2l, 1) := by decide +kernel
theorem dL_stepLine_9 : decode cL_stepLine 9 = .ok (.lastore, 1) := by decide +kernel
theorem dL_stepLine_10 : decode cL_stepLine 10 = .ok (.goto 15, 3) := by decide +kernel
theorem dL_stepLine_13 : decode cL_stepLine 13 = .ok (.astore 4, 2) := by decide +kernel
theorem dL_stepLine_15 : decode cL_stepLine 15 = .ok (.iconst 1, 1) := by decide +kernel
theorem dL_stepLine_16 : decode cL_stepLine 16 = .ok (.ireturn, 1) := by decide +kernel
theorem dL_stepLine_17 : decode cL_stepLine 17 = .ok (.astore 4, 2) := by decide +kernel
theorem dL_stepLine_19 : decode cL_stepLine 19 = .ok (.iconst 2, 1) := by decide +kernel
theorem dL_stepLine_20 : decode cL_stepLine 20 = .ok (.ireturn, 1) := by decide +kernel
theorem dL_stepLine_21 : decode cL_stepLine 21 = .ok (.astore 4, 2) := by decide +kernel
theorem dL_stepLine_23 : decode cL_stepLine 23 = .ok (.iconst 3, 1) := by decide +kernel
theorem dL_stepLine_24 : decode cL_stepLine 24 = .ok (.ireturn, 1) := by decide +kernel
theorem dL_stepLine_25 : decode cL_stepLine 25 = .ok (.iconst 0, 1) := by decide +kernel
theorem dL_stepLine_26 : decode cL_stepLine 26 = .ok (.ireturn, 1) := by decide +kernel
theorem dL_set_0 : decode cL_set 0 = .ok (.aload 6, 2) := by decide +kernel
theorem dL_set_2 : decode cL_set 2 = .ok (.iconst 0, 1) := by decide +kernel
theorem dL_set_3 : decode cL_set 3 = .ok (.aload_n 0, 1) := by decide +kernel
theorem dL_set_4 : decode cL_set 4 = .ok (.iload_n 1, 1) := by decide +kernel
theorem dL_set_5 : decode cL_set 5 = .ok (.iload_n 2, 1) := by decide +kernel
theorem dL_set_6 : decode cL_set 6 = .ok (.iload_n 3, 1) := by decide +kernel
theorem dL_set_7 : decode cL_set 7 = .ok (.iload 4, 2) := by decide +kernel
theorem dL_set_9 : decode cL_set 9 = .ok (.iload 5, 2) := by decide +kernel
theorem dL_set_11 : decode cL_set 11 = .ok (.invokevirtual 136, 3) := by decide +kernel
theorem dL_set_14 : decode cL_set 14 = .ok (.i2l, 1) := by decide +kernel
theorem dL_set_15 : decode cL_set 15 = .ok (.lastore, 1) := by decide +kernel
theorem dL_set_16 : decode cL_set 16 = .ok (.goto 19, 3) := by decide +kernel
theorem dL_set_19 : decode cL_set 19 = .ok (.astore 7, 2) := by decide +kernel
theorem dL_set_21 : decode cL_set 21 = .ok (.iconst 1, 1) := by decide +kernel
theorem dL_set_22 : decode cL_set 22 = .ok (.ireturn, 1) := by decide +kernel
theorem dL_set_23 : decode cL_set 23 = .ok (.astore 7, 2) := by decide +kernel
theorem dL_set_25 : decode cL_set 25 = .ok (.iconst 2, 1) := by decide +kernel
theorem dL_set_26 : decode cL_set 26 = .ok (.ireturn, 1) := by decide +kernel
theorem dL_set_27 : decode cL_set 27 = .ok (.astore 7, 2) := by decide +kernel
theorem dL_set_29 : decode cL_set 29 = .ok (.iconst 3, 1) := by decide +kernel
theorem dL_set_30 : decode cL_set 30 = .ok (.ireturn, 1) := by decide +kernel
theorem dL_set_31 : decode cL_set 31 = .ok (.astore 7, 2) := by decide +kernel
theorem dL_set_33 : decode cL_set 33 = .ok (.iconst 4, 1) := by decide +kernel
theorem dL_set_34 : decode cL_set 34 = .ok (.ireturn, 1) := by decide +kernel
theorem dL_set_35 : decode cL_set 35 = .ok (.iconst 0, 1) := by decide +kernel
theorem dL_set_36 : decode cL_set 36 = .ok (.ireturn, 1) := by decide +kernel
theorem dL_jump_0 : decode cL_jump 0 = .ok (.aload_n 3, 1) := by decide +kernel
theorem dL_jump_1 : decode cL_jump 1 = .ok (.iconst 0, 1) := by decide +kernel
theorem dL_jump_2 : decode cL_jump 2 = .ok (.aload_n 0, 1) := by decide +kernel
theorem dL_jump_3 : decode cL_jump 3 = .ok (.iload_n 1, 1) := by decide +kernel
theorem dL_jump_4 : decode cL_jump 4 = .ok (.iload_n 2, 1) := by decide +kernel
theorem dL_jump_5 : decode cL_jump 5 = .ok (.invokevirtual 140, 3) := by decide +kernel
theorem dL_jump_8 : decode cL_jump 8 = .ok (.i2l, 1) := by decide +kernel
theorem dL_jump_9 : decode cL_jump 9 = .ok (.lastore, 1) := by decide +kernel
theorem dL_jump_10 : decode cL_jump 10 = .ok (.goto 11, 3) := by decide +kernel
theorem dL_jump_13 : decode cL_jump 13 = .ok (.astore 4, 2) := by decide +kernel
theorem dL_jump_15 : decode cL_jump 15 = .ok (.iconst 1, 1) := by decide +kernel
theorem dL_jump_16 : decode cL_jump 16 = .ok (.ireturn, 1) := by decide +kernel
theorem dL_jump_17 : decode cL_jump 17 = .ok (.astore 4, 2) := by decide +kernel
theorem dL_jump_19 : decode cL_jump 19 = .ok (.iconst 2, 1) := by decide +kernel
theorem dL_jump_20 : decode cL_jump 20 = .ok (.ireturn, 1) := by decide +kernel
theorem dL_jump_21 : decode cL_jump 21 = .ok (.iconst 0, 1) := by decide +kernel
theorem dL_jump_22 : decode cL_jump 22 = .ok (.ireturn, 1) := by decide +kernel
theorem dL_call_0 : decode cL_call 0 = .ok (.aload 4, 2) := by decide +kernel
theorem dL_call_2 : decode cL_call 2 = .ok (.iconst 0, 1) := by decide +kernel
theorem dL_call_3 : decode cL_call 3 = .ok (.aload_n 0, 1) := by decide +kernel
theorem dL_call_4 : decode cL_call 4 = .ok (.iload_n 1, 1) := by decide +kernel
theorem dL_call_5 : decode cL_call 5 = .ok (.iload_n 2, 1) := by decide +kernel
theorem dL_call_6 : decode cL_call 6 = .ok (.iload_n 3, 1) := by decide +kernel
theorem dL_call_7 : decode cL_call 7 = .ok (.invokevirtual 143, 3) := by decide +kernel
theorem dL_call_10 : decode cL_call 10 = .ok (.i2l, 1) := by decide +kernel
theorem dL_call_11 : decode cL_call 11 = .ok (.lastore, 1) := by decide +kernel
theorem dL_call_12 : decode cL_call 12 = .ok (.goto 11, 3) := by decide +kernel
theorem dL_call_15 : decode cL_call 15 = .ok (.astore 5, 2) := by decide +kernel
theorem dL_call_17 : decode cL_call 17 = .ok (.iconst 1, 1) := by decide +kernel
theorem dL_call_18 : decode cL_call 18 = .ok (.ireturn, 1) := by decide +kernel
theorem dL_call_19 : decode cL_call 19 = .ok (.astore 5, 2) := by decide +kernel
theorem dL_call_21 : decode cL_call 21 = .ok (.iconst 2, 1) := by decide +kernel
theorem dL_call_22 : decode cL_call 22 = .ok (.ireturn, 1) := by decide +kernel
theorem dL_call_23 : decode cL_call 23 = .ok (.iconst 0, 1) := by decide +kernel
theorem dL_call_24 : decode cL_call 24 = .ok (.ireturn, 1) := by decide +kernel
theorem dL_pass_0 : decode cL_pass 0 = .ok (.aload_n 3, 1) := by decide +kernel
theorem dL_pass_1 : decode cL_pass 1 = .ok (.iconst 0, 1) := by decide +kernel
theorem dL_pass_2 : decode cL_pass 2 = .ok (.aload_n 0, 1) := by decide +kernel
theorem dL_pass_3 : decode cL_pass 3 = .ok (.iload_n 1, 1) := by decide +kernel
theorem dL_pass_4 : decode cL_pass 4 = .ok (.iload_n 2, 1) := by decide +kernel
theorem dL_pass_5 : decode cL_pass 5 = .ok (.invokevirtual 107, 3) := by decide +kernel
theorem dL_pass_8 : decode cL_pass 8 = .ok (.i2l, 1) := by decide +kernel
theorem dL_pass_9 : decode cL_pass 9 = .ok (.lastore, 1) := by decide +kernel
theorem dL_pass_10 : decode cL_pass 10 = .ok (.goto 11, 3) := by decide +kernel
theorem dL_pass_13 : decode cL_pass 13 = .ok (.astore 4, 2) := by decide +kernel
theorem dL_pass_15 : decode cL_pass 15 = .ok (.iconst 1, 1) := by decide +kernel
theorem dL_pass_16 : decode cL_pass 16 = .ok (.ireturn, 1) := by decide +kernel
theorem dL_pass_17 : decode cL_pass 17 = .ok (.astore 4, 2) := by decide +kernel
theorem dL_pass_19 : decode cL_pass 19 = .ok (.iconst 2, 1) := by decide +kernel
theorem dL_pass_20 : decode cL_pass 20 = .ok (.ireturn, 1) := by decide +kernel
theorem dL_pass_21 : decode cL_pass 21 = .ok (.iconst 0, 1) := by decide +kernel
theorem dL_pass_22 : decode cL_pass 22 = .ok (.ireturn, 1) := by decide +kernel
theorem dL_shown_0 : decode cL_shown 0 = .ok (.aload_n 2, 1) := by decide +kernel
theorem dL_shown_1 : decode cL_shown 1 = .ok (.iconst 0, 1) := by decide +kernel
theorem dL_shown_2 : decode cL_shown 2 = .ok (.aload_n 0, 1) := by decide +kernel
theorem dL_shown_3 : decode cL_shown 3 = .ok (.iload_n 1, 1) := by decide +kernel
theorem dL_shown_4 : decode cL_shown 4 = .ok (.invokevirtual 92, 3) := by decide +kernel
theorem dL_shown_7 : decode cL_shown 7 = .ok (.i2l, 1) := by decide +kernel
theorem dL_shown_8 : decode cL_shown 8 = .ok (.lastore, 1) := by decide +kernel
theorem dL_shown_9 : decode cL_shown 9 = .ok (.goto 6, 3) := by decide +kernel
theorem dL_shown_12 : decode cL_shown 12 = .ok (.astore_n 3, 1) := by decide +kernel
theorem dL_shown_13 : decode cL_shown 13 = .ok (.iconst 1, 1) := by decide +kernel
theorem dL_shown_14 : decode cL_shown 14 = .ok (.ireturn, 1) := by decide +kernel
theorem dL_shown_15 : decode cL_shown 15 = .ok (.iconst 0, 1) := by decide +kernel
theorem dL_shown_16 : decode cL_shown 16 = .ok (.ireturn, 1) := by decide +kernel
theorem dL_stopLine_0 : decode cL_stopLine 0 = .ok (.aload_n 2, 1) := by decide +kernel
theorem dL_stopLine_1 : decode cL_stopLine 1 = .ok (.iconst 0, 1) := by decide +kernel
theorem dL_stopLine_2 : decode cL_stopLine 2 = .ok (.aload_n 0, 1) := by decide +kernel
theorem dL_stopLine_3 : decode cL_stopLine 3 = .ok (.iload_n 1, 1) := by decide +kernel
theorem dL_stopLine_4 : decode cL_stopLine 4 = .ok (.invokevirtual 98, 3) := by decide +kernel
theorem dL_stopLine_7 : decode cL_stopLine 7 = .ok (.i2l, 1) := by decide +kernel
theorem dL_stopLine_8 : decode cL_stopLine 8 = .ok (.lastore, 1) := by decide +kernel
theorem dL_stopLine_9 : decode cL_stopLine 9 = .ok (.goto 9, 3) := by decide +kernel
theorem dL_stopLine_12 : decode cL_stopLine 12 = .ok (.astore_n 3, 1) := by decide +kernel
theorem dL_stopLine_13 : decode cL_stopLine 13 = .ok (.iconst 1, 1) := by decide +kernel
theorem dL_stopLine_14 : decode cL_stopLine 14 = .ok (.ireturn, 1) := by decide +kernel
theorem dL_stopLine_15 : decode cL_stopLine 15 = .ok (.astore_n 3, 1) := by decide +kernel
theorem dL_stopLine_16 : decode cL_stopLine 16 = .ok (.iconst 2, 1) := by decide +kernel
theorem dL_stopLine_17 : decode cL_stopLine 17 = .ok (.ireturn, 1) := by decide +kernel
theorem dL_stopLine_18 : decode cL_stopLine 18 = .ok (.iconst 0, 1) := by decide +kernel
theorem dL_stopLine_19 : decode cL_stopLine 19 = .ok (.ireturn, 1) := by decide +kernel
theorem dL_which_0 : decode cL_which 0 = .ok (.aload_n 1, 1) := by decide +kernel
theorem dL_which_1 : decode cL_which 1 = .ok (.iconst 0, 1) := by decide +kernel
theorem dL_which_2 : decode cL_which 2 = .ok (.aload_n 0, 1) := by decide +kernel
theorem dL_which_3 : decode cL_which 3 = .ok (.invokevirtual 126, 3) := by decide +kernel
theorem dL_which_6 : decode cL_which 6 = .ok (.i2l, 1) := by decide +kernel
theorem dL_which_7 : decode cL_which 7 = .ok (.lastore, 1) := by decide +kernel
theorem dL_which_8 : decode cL_which 8 = .ok (.goto 6, 3) := by decide +kernel
theorem dL_which_11 : decode cL_which 11 = .ok (.astore_n 2, 1) := by decide +kernel
theorem dL_which_12 : decode cL_which 12 = .ok (.iconst 1, 1) := by decide +kernel
theorem dL_which_13 : decode cL_which 13 = .ok (.ireturn, 1) := by decide +kernel
theorem dL_which_14 : decode cL_which 14 = .ok (.iconst 0, 1) := by decide +kernel
theorem dL_which_15 : decode cL_which 15 = .ok (.ireturn, 1) := by decide +kernel
theorem dL_backTo_0 : decode cL_backTo 0 = .ok (.aload_n 1, 1) := by decide +kernel
theorem dL_backTo_1 : decode cL_backTo 1 = .ok (.iconst 0, 1) := by decide +kernel
theorem dL_backTo_2 : decode cL_backTo 2 = .ok (.aload_n 0, 1) := by decide +kernel
theorem dL_backTo_3 : decode cL_backTo 3 = .ok (.invokevirtual 133, 3) := by decide +kernel
theorem dL_backTo_6 : decode cL_backTo 6 = .ok (.i2l, 1) := by decide +kernel
theorem dL_backTo_7 : decode cL_backTo 7 = .ok (.lastore, 1) := by decide +kernel
theorem dL_backTo_8 : decode cL_backTo 8 = .ok (.goto 6, 3) := by decide +kernel
theorem dL_backTo_11 : decode cL_backTo 11 = .ok (.astore_n 2, 1) := by decide +kernel
theorem dL_backTo_12 : decode cL_backTo 12 = .ok (.iconst 1, 1) := by decide +kernel
theorem dL_backTo_13 : decode cL_backTo 13 = .ok (.ireturn, 1) := by decide +kernel
theorem dL_backTo_14 : decode cL_backTo 14 = .ok (.iconst 0, 1) := by decide +kernel
theorem dL_backTo_15 : decode cL_backTo 15 = .ok (.ireturn, 1) := by decide +kernel
theorem dL_doneShare_0 : decode cL_doneShare 0 = .ok (.aload_n 1, 1) := by decide +kernel
theorem dL_doneShare_1 : decode cL_doneShare 1 = .ok (.iconst 0, 1) := by decide +kernel
theorem dL_doneShare_2 : decode cL_doneShare 2 = .ok (.aload_n 0, 1) := by decide +kernel
theorem dL_doneShare_3 : decode cL_doneShare 3 = .ok (.invokevirtual 147, 3) := by decide +kernel
theorem dL_doneShare_6 : decode cL_doneShare 6 = .ok (.f2d, 1) := by decide +kernel
theorem dL_doneShare_7 : decode cL_doneShare 7 = .ok (.dastore, 1) := by decide +kernel
theorem dL_doneShare_8 : decode cL_doneShare 8 = .ok (.goto 6, 3) := by decide +kernel
theorem dL_doneShare_11 : decode cL_doneShare 11 = .ok (.astore_n 2, 1) := by decide +kernel
theorem dL_doneShare_12 : decode cL_doneShare 12 = .ok (.iconst 1, 1) := by decide +kernel
theorem dL_doneShare_13 : decode cL_doneShare 13 = .ok (.ireturn, 1) := by decide +kernel
theorem dL_doneShare_14 : decode cL_doneShare 14 = .ok (.iconst 0, 1) := by decide +kernel
theorem dL_doneShare_15 : decode cL_doneShare 15 = .ok (.ireturn, 1) := by decide +kernel
theorem dL_meanStack_0 : decode cL_meanStack 0 = .ok (.aload_n 1, 1) := by decide +kernel
theorem dL_meanStack_1 : decode cL_meanStack 1 = .ok (.iconst 0, 1) := by decide +kernel
theorem dL_meanStack_2 : decode cL_meanStack 2 = .ok (.aload_n 0, 1) := by decide +kernel
theorem dL_meanStack_3 : decode cL_meanStack 3 = .ok (.invokevirtual 153, 3) := by decide +kernel
theorem dL_meanStack_6 : decode cL_meanStack 6 = .ok (.dastore, 1) := by decide +kernel
theorem dL_meanStack_7 : decode cL_meanStack 7 = .ok (.goto 6, 3) := by decide +kernel
theorem dL_meanStack_10 : decode cL_meanStack 10 = .ok (.astore_n 2, 1) := by decide +kernel
theorem dL_meanStack_11 : decode cL_meanStack 11 = .ok (.iconst 1, 1) := by decide +kernel
theorem dL_meanStack_12 : decode cL_meanStack 12 = .ok (.ireturn, 1) := by decide +kernel
theorem dL_meanStack_13 : decode cL_meanStack 13 = .ok (.iconst 0, 1) := by decide +kernel
theorem dL_meanStack_14 : decode cL_meanStack 14 = .ok (.ireturn, 1) := by decide +kernel
theorem dL_cell_0 : decode cL_cell 0 = .ok (.aload_n 2, 1) := by decide +kernel
theorem dL_cell_1 : decode cL_cell 1 = .ok (.iconst 0, 1) := by decide +kernel
theorem dL_cell_2 : decode cL_cell 2 = .ok (.aload_n 0, 1) := by decide +kernel
theorem dL_cell_3 : decode cL_cell 3 = .ok (.iload_n 1, 1) := by decide +kernel
theorem dL_cell_4 : decode cL_cell 4 = .ok (.invokevirtual 71, 3) := by decide +kernel
theorem dL_cell_7 : decode cL_cell 7 = .ok (.i2l, 1) := by decide +kernel
theorem dL_cell_8 : decode cL_cell 8 = .ok (.lastore, 1) := by decide +kernel
theorem dL_cell_9 : decode cL_cell 9 = .ok (.goto 6, 3) := by decide +kernel
theorem dL_cell_12 : decode cL_cell 12 = .ok (.astore_n 3, 1) := by decide +kernel
theorem dL_cell_13 : decode cL_cell 13 = .ok (.iconst 1, 1) := by decide +kernel
theorem dL_cell_14 : decode cL_cell 14 = .ok (.ireturn, 1) := by decide +kernel
theorem dL_cell_15 : decode cL_cell 15 = .ok (.iconst 0, 1) := by decide +kernel
theorem dL_cell_16 : decode cL_cell 16 = .ok (.ireturn, 1) := by decide +kernel
theorem dL_watch_0 : decode cL_watch 0 = .ok (.aload_n 2, 1) := by decide +kernel
theorem dL_watch_1 : decode cL_watch 1 = .ok (.iconst 0, 1) := by decide +kernel
theorem dL_watch_2 : decode cL_watch 2 = .ok (.aload_n 0, 1) := by decide +kernel
theorem dL_watch_3 : decode cL_watch 3 = .ok (.iload_n 1, 1) := by decide +kernel
theorem dL_watch_4 : decode cL_watch 4 = .ok (.invokevirtual 113, 3) := by decide +kernel
theorem dL_watch_7 : decode cL_watch 7 = .ok (.i2l, 1) := by decide +kernel
theorem dL_watch_8 : decode cL_watch 8 = .ok (.lastore, 1) := by decide +kernel
theorem dL_watch_9 : decode cL_watch 9 = .ok (.goto 9, 3) := by decide +kernel
theorem dL_watch_12 : decode cL_watch 12 = .ok (.astore_n 3, 1) := by decide +kernel
theorem dL_watch_13 : decode cL_watch 13 = .ok (.iconst 1, 1) := by decide +kernel
theorem dL_watch_14 : decode cL_watch 14 = .ok (.ireturn, 1) := by decide +kernel
theorem dL_watch_15 : decode cL_watch 15 = .ok (.astore_n 3, 1) := by decide +kernel
theorem dL_watch_16 : decode cL_watch 16 = .ok (.iconst 2, 1) := by decide +kernel
theorem dL_watch_17 : decode cL_watch 17 = .ok (.ireturn, 1) := by decide +kernel
theorem dL_watch_18 : decode cL_watch 18 = .ok (.iconst 0, 1) := by decide +kernel
theorem dL_watch_19 : decode cL_watch 19 = .ok (.ireturn, 1) := by decide +kernel
theorem dL_run_0 : decode cL_run 0 = .ok (.aload_n 2, 1) := by decide +kernel
theorem dL_run_1 : decode cL_run 1 = .ok (.iconst 0, 1) := by decide +kernel
theorem dL_run_2 : decode cL_run 2 = .ok (.aload_n 0, 1) := by decide +kernel
theorem dL_run_3 : decode cL_run 3 = .ok (.iload_n 1, 1) := by decide +kernel
theorem dL_run_4 : decode cL_run 4 = .ok (.invokevirtual 119, 3) := by decide +kernel
theorem dL_run_7 : decode cL_run 7 = .ok (.i2l, 1) := by decide +kernel
theorem dL_run_8 : decode cL_run 8 = .ok (.lastore, 1) := by decide +kernel
theorem dL_run_9 : decode cL_run 9 = .ok (.goto 6, 3) := by decide +kernel
theorem dL_run_12 : decode cL_run 12 = .ok (.astore_n 3, 1) := by decide +kernel
theorem dL_run_13 : decode cL_run 13 = .ok (.iconst 1, 1) := by decide +kernel
theorem dL_run_14 : decode cL_run 14 = .ok (.ireturn, 1) := by decide +kernel
theorem dL_run_15 : decode cL_run 15 = .ok (.iconst 0, 1) := by decide +kernel
theorem dL_run_16 : decode cL_run 16 = .ok (.ireturn, 1) := by decide +kernel
theorem dL_code_0 : decode cL_code 0 = .ok (.aload 4, 2) := by decide +kernel
theorem dL_code_2 : decode cL_code 2 = .ok (.iconst 0, 1) := by decide +kernel
theorem dL_code_3 : decode cL_code 3 = .ok (.aload_n 0, 1) := by decide +kernel
theorem dL_code_4 : decode cL_code 4 = .ok (.iload_n 1, 1) := by decide +kernel
theorem dL_code_5 : decode cL_code 5 = .ok (.iload_n 2, 1) := by decide +kernel
theorem dL_code_6 : decode cL_code 6 = .ok (.iload_n 3, 1) := by decide +kernel
theorem dL_code_7 : decode cL_code 7 = .ok (.invokevirtual 7, 3) := by decide +kernel
theorem dL_code_10 : decode cL_code 10 = .ok (.i2l, 1) := by decide +kernel
theorem dL_code_11 : decode cL_code 11 = .ok (.lastore, 1) := by decide +kernel
theorem dL_code_12 : decode cL_code 12 = .ok (.goto 11, 3) := by decide +kernel
theorem dL_code_15 : decode cL_code 15 = .ok (.astore 5, 2) := by decide +kernel
theorem dL_code_17 : decode cL_code 17 = .ok (.iconst 1, 1) := by decide +kernel
theorem dL_code_18 : decode cL_code 18 = .ok (.ireturn, 1) := by decide +kernel
theorem dL_code_19 : decode cL_code 19 = .ok (.astore 5, 2) := by decide +kernel
theorem dL_code_21 : decode cL_code 21 = .ok (.iconst 2, 1) := by decide +kernel
theorem dL_code_22 : decode cL_code 22 = .ok (.ireturn, 1) := by decide +kernel
theorem dL_code_23 : decode cL_code 23 = .ok (.iconst 0, 1) := by decide +kernel
theorem dL_code_24 : decode cL_code 24 = .ok (.ireturn, 1) := by decide +kernel
theorem dL_back_0 : decode cL_back 0 = .ok (.aload_n 2, 1) := by decide +kernel
theorem dL_back_1 : decode cL_back 1 = .ok (.iconst 0, 1) := by decide +kernel
theorem dL_back_2 : decode cL_back 2 = .ok (.aload_n 0, 1) := by decide +kernel
theorem dL_back_3 : decode cL_back 3 = .ok (.iload_n 1, 1) := by decide +kernel
theorem dL_back_4 : decode cL_back 4 = .ok (.invokevirtual 130, 3) := by decide +kernel
theorem dL_back_7 : decode cL_back 7 = .ok (.i2l, 1) := by decide +kernel
theorem dL_back_8 : decode cL_back 8 = .ok (.lastore, 1) := by decide +kernel
theorem dL_back_9 : decode cL_back 9 = .ok (.goto 9, 3) := by decide +kernel
theorem dL_back_12 : decode cL_back 12 = .ok (.astore_n 3, 1) := by decide +kernel
theorem dL_back_13 : decode cL_back 13 = .ok (.iconst 1, 1) := by decide +kernel
theorem dL_back_14 : decode cL_back 14 = .ok (.ireturn, 1) := by decide +kernel
theorem dL_back_15 : decode cL_back 15 = .ok (.astore_n 3, 1) := by decide +kernel
theorem dL_back_16 : decode cL_back 16 = .ok (.iconst 2, 1) := by decide +kernel
theorem dL_back_17 : decode cL_back 17 = .ok (.ireturn, 1) := by decide +kernel
theorem dL_back_18 : decode cL_back 18 = .ok (.iconst 0, 1) := by decide +kernel
theorem dL_back_19 : decode cL_back 19 = .ok (.ireturn, 1) := by decide +kernel
