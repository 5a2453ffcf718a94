theorem HD_yL_run : yL_run.cls ≠ "java/lang/invoke/MethodHandle" ∧ yL_run.cls ≠ "java/lang/invoke/VarHandle" ∧ (parseMethodDescriptor yL_run.desc).map (fun d => d.parameters.length) = some 3 := by decide +kernel
theorem K1798 : (Cond.codeWith yL_run cL_run 4 (some .int) [(0, 9, 12, 13)]) ∈ ALL := mAC ch_t8 (i := 42) (by decide +kernel) rfl
theorem K1796 : (Cond.methodLink RL 268 yL_run) ∈ ALL := mAC ch_t8 (i := 40) (by decide +kernel) rfl
theorem K1797 : (Cond.static yL_run) ∈ ALL := mAC ch_t8 (i := 41) (by decide +kernel) rfl
theorem GS_RL_268 : GoodIn ALL (va_wsS RL 268 yL_run (Cond.codeWith yL_run cL_run 4 (some .int) [(0, 9, 12, 13)] :: ALL)) := gS K1796 K1797 K76 K1798
theorem HD_yX15_run : yX15_run.cls ≠ "java/lang/invoke/MethodHandle" ∧ yX15_run.cls ≠ "java/lang/invoke/VarHandle" ∧ (parseMethodDescriptor yX15_run.desc).map (fun d => d.parameters.length) = some 1 := by decide +kernel
theorem K2717 : (Cond.code yX15_run cX15_run 4 (some .int)) ∈ ALL := mAC ch_t12 (i := 1) (by decide +kernel) rfl
theorem K2714 : (Cond.methodLink RL 270 yX15_run) ∈ ALL := mAC ch_t11 (i := 238) (by decide +kernel) rfl
theorem K2715 : (Cond.instanceMethod yX15_run) ∈ ALL := mAC ch_t11 (i := 239) (by decide +kernel) rfl
theorem K2716 : (Cond.selects RX15 yX15_run yX15_run) ∈ ALL := mAC ch_t12 (i := 0) (by decide +kernel) rfl
theorem GV_RL_270 : GoodIn ALL (wsV RL 270 RX15 yX15_run (Cond.code yX15_run cX15_run 4 (some .int) :: ALL)) := gV K2714 K2715 K2716 K94 K2717
theorem HD_yL_stepLine : yL_stepLine.cls ≠ "java/lang/invoke/MethodHandle" ∧ yL_stepLine.cls ≠ "java/lang/invoke/VarHandle" ∧ (parseMethodDescriptor yL_stepLine.desc).map (fun d => d.parameters.length) = some 4 := by decide +kernel
theorem K1876 : (Cond.codeWith yL_stepLine cL_stepLine 5 (some .int) [(0, 10, 13, 21), (0, 10, 17, 13), (0, 10, 21, 27)]) ∈ ALL := mAC ch_t8 (i := 120) (by decide +kernel) rfl
theorem K1874 : (Cond.methodLink RL 271 yL_stepLine) ∈ ALL := mAC ch_t8 (i := 118) (by decide +kernel) rfl
theorem K1875 : (Cond.static yL_stepLine) ∈ ALL := mAC ch_t8 (i := 119) (by decide +kernel) rfl
theorem GS_RL_271 : GoodIn ALL (va_wsS RL 271 yL_stepLine (Cond.codeWith yL_stepLine cL_stepLine 5 (some .int) [(0, 10, 13, 21), (0, 10, 17, 13), (0, 10, 21, 27)] :: ALL)) := gS K1874 K1875 K76 K1876
theorem HD_yX15_stepLine : yX15_stepLine.cls ≠ "java/lang/invoke/MethodHandle" ∧ yX15_stepLine.cls ≠ "java/lang/invoke/VarHandle" ∧ (parseMethodDescriptor yX15_stepLine.desc).map (fun d => d.parameters.length) = some 2 := by decide +kernel
theorem K2789 : (Cond.code yX15_stepLine cX15_stepLine 8 (some .int)) ∈ ALL := mAC ch_t12 (i := 73) (by decide +kernel) rfl
theorem K2786 : (Cond.methodLink RL 273 yX15_stepLine) ∈ ALL := mAC ch_t12 (i := 70) (by decide +kernel) rfl
theorem K2787 : (Cond.instanceMethod yX15_stepLine) ∈ ALL := mAC ch_t12 (i := 71) (by decide +kernel) rfl
theorem K2788 : (Cond.selects RX15 yX15_stepLine yX15_stepLine) ∈ ALL := mAC ch_t12 (i := 72) (by decide +kernel) rfl
theorem GV_RL_273 : GoodIn ALL (wsV RL 273 RX15 yX15_stepLine (Cond.code yX15_stepLine cX15_stepLine 8 (some .int) :: ALL)) := gV K2786 K2787 K2788 K94 K2789
theorem HD_yX11_reason : yX11_reason.cls ≠ "java/lang/invoke/MethodHandle" ∧ yX11_reason.cls ≠ "java/lang/invoke/VarHandle" ∧ (parseMethodDescriptor yX11_reason.desc).map (fun d => d.parameters.length) = some 0 := by decide +kernel
theorem K571 : (Cond.code yX11_reason cX11_reason 1 (some .char)) ∈ ALL := mAC ch_t3 (i := 15) (by decide +kernel) rfl
theorem K568 : (Cond.methodLink RL 274 yX11_reason) ∈ ALL := mAC ch_t3 (i := 12) (by decide +kernel) rfl
theorem K569 : (Cond.instanceMethod yX11_reason) ∈ ALL := mAC ch_t3 (i := 13) (by decide +kernel) rfl
theorem K570 : (Cond.selects RX11 yX11_reason yX11_reason) ∈ ALL := mAC ch_t3 (i := 14) (by decide +kernel) rfl
theorem GV_RL_274 : GoodIn ALL (wsV RL 274 RX11 yX11_reason (Cond.code yX11_reason cX11_reason 1 (some .char) :: ALL)) := gV K568 K569 K570 K77 K571
theorem HD_yX15_reason : yX15_reason.cls ≠ "java/lang/invoke/MethodHandle" ∧ yX15_reason.cls ≠ "java/lang/invoke/VarHandle" ∧ (parseMethodDescriptor yX15_reason.desc).map (fun d => d.parameters.length) = some 0 := by decide +kernel
theorem K2802 : (Cond.code yX15_reason cX15_reason 1 (some .char)) ∈ ALL := mAC ch_t12 (i := 86) (by decide +kernel) rfl
theorem K2799 : (Cond.methodLink RL 278 yX15_reason) ∈ ALL := mAC ch_t12 (i := 83) (by decide +kernel) rfl
theorem K2800 : (Cond.instanceMethod yX15_reason) ∈ ALL := mAC ch_t12 (i := 84) (by decide +kernel) rfl
theorem K2801 : (Cond.selects RX15 yX15_reason yX15_reason) ∈ ALL := mAC ch_t12 (i := 85) (by decide +kernel) rfl
theorem GV_RL_278 : GoodIn ALL (wsV RL 278 RX15 yX15_reason (Cond.code yX15_reason cX15_reason 1 (some .char) :: ALL)) := gV K2799 K2800 K2801 K94 K2802
theorem HD_yL_which : yL_which.cls ≠ "java/lang/invoke/MethodHandle" ∧ yL_which.cls ≠ "java/lang/invoke/VarHandle" ∧ (parseMethodDescriptor yL_which.desc).map (fun d => d.parameters.length) = some 2 := by decide +kernel
theorem K1896 : (Cond.codeWith yL_which cL_which 3 (some .int) [(0, 8, 11, 62)]) ∈ ALL := mAC ch_t8 (i := 140) (by decide +kernel) rfl
theorem K1894 : (Cond.methodLink RL 279 yL_which) ∈ ALL := mAC ch_t8 (i := 138) (by decide +kernel) rfl
theorem K1895 : (Cond.static yL_which) ∈ ALL := mAC ch_t8 (i := 139) (by decide +kernel) rfl
theorem GS_RL_279 : GoodIn ALL (va_wsS RL 279 yL_which (Cond.codeWith yL_which cL_which 3 (some .int) [(0, 8, 11, 62)] :: ALL)) := gS K1894 K1895 K76 K1896
theorem HD_yX15_which : yX15_which.cls ≠ "java/lang/invoke/MethodHandle" ∧ yX15_which.cls ≠ "java/lang/invoke/VarHandle" ∧ (parseMethodDescriptor yX15_which.desc).map (fun d => d.parameters.length) = some 0 := by decide +kernel
theorem K2806 : (Cond.code yX15_which cX15_which 1 (some .int)) ∈ ALL := mAC ch_t12 (i := 90) (by decide +kernel) rfl
theorem K2803 : (Cond.methodLink RL 282 yX15_which) ∈ ALL := mAC ch_t12 (i := 87) (by decide +kernel) rfl
theorem K2804 : (Cond.instanceMethod yX15_which) ∈ ALL := mAC ch_t12 (i := 88) (by decide +kernel) rfl
theorem K2805 : (Cond.selects RX15 yX15_which yX15_which) ∈ ALL := mAC ch_t12 (i := 89) (by decide +kernel) rfl
theorem GV_RL_282 : GoodIn ALL (wsV RL 282 RX15 yX15_which (Cond.code yX15_which cX15_which 1 (some .int) :: ALL)) := gV K2803 K2804 K2805 K94 K2806
theorem HD_yL_back : yL_back.cls ≠ "java/lang/invoke/MethodHandle" ∧ yL_back.cls ≠ "java/lang/invoke/VarHandle" ∧ (parseMethodDescriptor yL_back.desc).map (fun d => d.parameters.length) = some 3 := by decide +kernel
theorem K1904 : (Cond.codeWith yL_back cL_back 4 (some .int) [(0, 9, 12, 13), (0, 9, 15, 27)]) ∈ ALL := mAC ch_t8 (i := 148) (by decide +kernel) rfl
theorem K1902 : (Cond.methodLink RL 283 yL_back) ∈ ALL := mAC ch_t8 (i := 146) (by decide +kernel) rfl
theorem K1903 : (Cond.static yL_back) ∈ ALL := mAC ch_t8 (i := 147) (by decide +kernel) rfl
theorem GS_RL_283 : GoodIn ALL (va_wsS RL 283 yL_back (Cond.codeWith yL_back cL_back 4 (some .int) [(0, 9, 12, 13), (0, 9, 15, 27)] :: ALL)) := gS K1902 K1903 K76 K1904
theorem HD_yX15_back : yX15_back.cls ≠ "java/lang/invoke/MethodHandle" ∧ yX15_back.cls ≠ "java/lang/invoke/VarHandle" ∧ (parseMethodDescriptor yX15_back.desc).map (fun d => d.parameters.length) = some 1 := by decide +kernel
theorem K2810 : (Cond.code yX15_back cX15_back 2 (some .int)) ∈ ALL := mAC ch_t12 (i := 94) (by decide +kernel) rfl
theorem K2807 : (Cond.methodLink RL 285 yX15_back) ∈ ALL := mAC ch_t12 (i := 91) (by decide +kernel) rfl
theorem K2808 : (Cond.instanceMethod yX15_back) ∈ ALL := mAC ch_t12 (i := 92) (by decide +kernel) rfl
theorem K2809 : (Cond.selects RX15 yX15_back yX15_back) ∈ ALL := mAC ch_t12 (i := 93) (by decide +kernel) rfl
theorem GV_RL_285 : GoodIn ALL (wsV RL 285 RX15 yX15_back (Cond.code yX15_back cX15_back 2 (some .int) :: ALL)) := gV K2807 K2808 K2809 K94 K2810
theorem HD_yL_backTo : yL_backTo.cls ≠ "java/lang/invoke/MethodHandle" ∧ yL_backTo.cls ≠ "java/lang/invoke/VarHandle" ∧ (parseMethodDescriptor yL_backTo.desc).map (fun d => d.parameters.length) = some 2 := by decide +kernel
theorem K1916 : (Cond.codeWith yL_backTo cL_backTo 3 (some .int) [(0, 8, 11, 62)]) ∈ ALL := mAC ch_t8 (i := 160) (by decide +kernel) rfl
theorem K1914 : (Cond.methodLink RL 286 yL_backTo) ∈ ALL := mAC ch_t8 (i := 158) (by decide +kernel) rfl
theorem K1915 : (Cond.static yL_backTo) ∈ ALL := mAC ch_t8 (i := 159) (by decide +kernel) rfl
theorem GS_RL_286 : GoodIn ALL (va_wsS RL 286 yL_backTo (Cond.codeWith yL_backTo cL_backTo 3 (some .int) [(0, 8, 11, 62)] :: ALL)) := gS K1914 K1915 K76 K1916
theorem HD_yX15_backTo : yX15_backTo.cls ≠ "java/lang/invoke/MethodHandle" ∧ yX15_backTo.cls ≠ "java/lang/invoke/VarHandle" ∧ (parseMethodDescriptor yX15_backTo.desc).map (fun d => d.parameters.length) = some 0 := by decide +kernel
theorem K2833 : (Cond.code yX15_backTo cX15_backTo 6 (some .int)) ∈ ALL := mAC ch_t12 (i := 117) (by decide +kernel) rfl
theorem K2830 : (Cond.methodLink RL 288 yX15_backTo) ∈ ALL := mAC ch_t12 (i := 114) (by decide +kernel) rfl
theorem K2831 : (Cond.instanceMethod yX15_backTo) ∈ ALL := mAC ch_t12 (i := 115) (by decide +kernel) rfl
theorem K2832 : (Cond.selects RX15 yX15_backTo yX15_backTo) ∈ ALL := mAC ch_t12 (i := 116) (by decide +kernel) rfl
theorem GV_RL_288 : GoodIn ALL (wsV RL 288 RX15 yX15_backTo (Cond.code yX15_backTo cX15_backTo 6 (some .int) :: ALL)) := gV K2830 K2831 K2832 K94 K2833
theorem HD_yL_set : yL_set.cls ≠ "java/lang/invoke/MethodHandle" ∧ yL_set.cls ≠ "java/lang/invoke/VarHandle" ∧ (parseMethodDescriptor yL_set.desc).map (fun d => d.parameters.length) = some 7 := by decide +kernel
theorem K1933 : (Cond.codeWith yL_set cL_set 8 (some .int) [(0, 16, 19, 21), (0, 16, 23, 13), (0, 16, 27, 62), (0, 16, 31, 27)]) ∈ ALL := mAC ch_t8 (i := 177) (by decide +kernel) rfl
theorem K1931 : (Cond.methodLink RL 289 yL_set) ∈ ALL := mAC ch_t8 (i := 175) (by decide +kernel) rfl
theorem K1932 : (Cond.static yL_set) ∈ ALL := mAC ch_t8 (i := 176) (by decide +kernel) rfl
theorem GS_RL_289 : GoodIn ALL (va_wsS RL 289 yL_set (Cond.codeWith yL_set cL_set 8 (some .int) [(0, 16, 19, 21), (0, 16, 23, 13), (0, 16, 27, 62), (0, 16, 31, 27)] :: ALL)) := gS K1931 K1932 K76 K1933
theorem HD_yX15_set : yX15_set.cls ≠ "java/lang/invoke/MethodHandle" ∧ yX15_set.cls ≠ "java/lang/invoke/VarHandle" ∧ (parseMethodDescriptor yX15_set.desc).map (fun d => d.parameters.length) = some 5 := by decide +kernel
theorem K2837 : (Cond.code yX15_set cX15_set 11 (some .int)) ∈ ALL := mAC ch_t12 (i := 121) (by decide +kernel) rfl
theorem K2834 : (Cond.methodLink RL 292 yX15_set) ∈ ALL := mAC ch_t12 (i := 118) (by decide +kernel) rfl
theorem K2835 : (Cond.instanceMethod yX15_set) ∈ ALL := mAC ch_t12 (i := 119) (by decide +kernel) rfl
theorem K2836 : (Cond.selects RX15 yX15_set yX15_set) ∈ ALL := mAC ch_t12 (i := 120) (by decide +kernel) rfl
theorem GV_RL_292 : GoodIn ALL (wsV RL 292 RX15 yX15_set (Cond.code yX15_set cX15_set 11 (some .int) :: ALL)) := gV K2834 K2835 K2836 K94 K2837
theorem HD_yL_jump : yL_jump.cls ≠ "java/lang/invoke/MethodHandle" ∧ yL_jump.cls ≠ "java/lang/invoke/VarHandle" ∧ (parseMethodDescriptor yL_jump.desc).map (fun d => d.parameters.length) = some 4 := by decide +kernel
theorem K1951 : (Cond.codeWith yL_jump cL_jump 5 (some .int) [(0, 10, 13, 21), (0, 10, 17, 27)]) ∈ ALL := mAC ch_t8 (i := 195) (by decide +kernel) rfl
theorem K1949 : (Cond.methodLink RL 293 yL_jump) ∈ ALL := mAC ch_t8 (i := 193) (by decide +kernel) rfl
theorem K1950 : (Cond.static yL_jump) ∈ ALL := mAC ch_t8 (i := 194) (by decide +kernel) rfl
theorem GS_RL_293 : GoodIn ALL (va_wsS RL 293 yL_jump (Cond.codeWith yL_jump cL_jump 5 (some .int) [(0, 10, 13, 21), (0, 10, 17, 27)] :: ALL)) := gS K1949 K1950 K76 K1951
theorem HD_yX15_jump : yX15_jump.cls ≠ "java/lang/invoke/MethodHandle" ∧ yX15_jump.cls ≠ "java/lang/invoke/VarHandle" ∧ (parseMethodDescriptor yX15_jump.desc).map (fun d => d.parameters.length) = some 2 := by decide +kernel
theorem K2841 : (Cond.code yX15_jump cX15_jump 4 (some .int)) ∈ ALL := mAC ch_t12 (i := 125) (by decide +kernel) rfl
theorem K2838 : (Cond.methodLink RL 295 yX15_jump) ∈ ALL := mAC ch_t12 (i := 122) (by decide +kernel) rfl
theorem K2839 : (Cond.instanceMethod yX15_jump) ∈ ALL := mAC ch_t12 (i := 123) (by decide +kernel) rfl
theorem K2840 : (Cond.selects RX15 yX15_jump yX15_jump) ∈ ALL := mAC ch_t12 (i := 124) (by decide +kernel) rfl
theorem GV_RL_295 : GoodIn ALL (wsV RL 295 RX15 yX15_jump (Cond.code yX15_jump cX15_jump 4 (some .int) :: ALL)) := gV K2838 K2839 K2840 K94 K2841
theorem HD_yL_call : yL_call.cls ≠ "java/lang/invoke/MethodHandle" ∧ yL_call.cls ≠ "java/lang/invoke/VarHandle" ∧ (parseMethodDescriptor yL_call.desc).map (fun d => d.parameters.length) = some 5 := by decide +kernel
theorem K1959 : (Cond.codeWith yL_call cL_call 6 (some .int) [(0, 12, 15, 21), (0, 12, 19, 27)]) ∈ ALL := mAC ch_t8 (i := 203) (by decide +kernel) rfl
theorem K1957 : (Cond.methodLink RL 296 yL_call) ∈ ALL := mAC ch_t8 (i := 201) (by decide +kernel) rfl
theorem K1958 : (Cond.static yL_call) ∈ ALL := mAC ch_t8 (i := 202) (by decide +kernel) rfl
theorem GS_RL_296 : GoodIn ALL (va_wsS RL 296 yL_call (Cond.codeWith yL_call cL_call 6 (some .int) [(0, 12, 15, 21), (0, 12, 19, 27)] :: ALL)) := gS K1957 K1958 K76 K1959
theorem HD_yX15_call : yX15_call.cls ≠ "java/lang/invoke/MethodHandle" ∧ yX15_call.cls ≠ "java/lang/invoke/VarHandle" ∧ (parseMethodDescriptor yX15_call.desc).map (fun d => d.parameters.length) = some 3 := by decide +kernel
theorem K2845 : (Cond.code yX15_call cX15_call 9 (some .int)) ∈ ALL := mAC ch_t12 (i := 129) (by decide +kernel) rfl
theorem K2842 : (Cond.methodLink RL 299 yX15_call) ∈ ALL := mAC ch_t12 (i := 126) (by decide +kernel) rfl
theorem K2843 : (Cond.instanceMethod yX15_call) ∈ ALL := mAC ch_t12 (i := 127) (by decide +kernel) rfl
theorem K2844 : (Cond.selects RX15 yX15_call yX15_call) ∈ ALL := mAC ch_t12 (i := 128) (by decide +kernel) rfl
theorem GV_RL_299 : GoodIn ALL (wsV RL 299 RX15 yX15_call (Cond.code yX15_call cX15_call 9 (some .int) :: ALL)) := gV K2842 K2843 K2844 K94 K2845
theorem HD_yL_doneShare : yL_doneShare.cls ≠ "java/lang/invoke/MethodHandle" ∧ yL_doneShare.cls ≠ "java/lang/invoke/VarHandle" ∧ (parseMethodDescriptor yL_doneShare.desc).map (fun d => d.parameters.length) = some 2 := by decide +kernel
theorem K1978 : (Cond.codeWith yL_doneShare cL_doneShare 3 (some .int) [(0, 8, 11, 151)]) ∈ ALL := mAC ch_t8 (i := 222) (by decide +kernel) rfl
theorem K1976 : (Cond.methodLink RL 300 yL_doneShare) ∈ ALL := mAC ch_t8 (i := 220) (by decide +kernel) rfl
theorem K1977 : (Cond.static yL_doneShare) ∈ ALL := mAC ch_t8 (i := 221) (by decide +kernel) rfl
theorem GS_RL_300 : GoodIn ALL (va_wsS RL 300 yL_doneShare (Cond.codeWith yL_doneShare cL_doneShare 3 (some .int) [(0, 8, 11, 151)] :: ALL)) := gS K1976 K1977 K76 K1978
theorem HD_yX15_doneShare : yX15_doneShare.cls ≠ "java/lang/invoke/MethodHandle" ∧ yX15_doneShare.cls ≠ "java/lang/invoke/VarHandle" ∧ (parseMethodDescriptor yX15_doneShare.desc).map (fun d => d.parameters.length) = some 0 := by decide +kernel
theorem K2850 : (Cond.code yX15_doneShare cX15_doneShare 4 (some .float)) ∈ ALL := mAC ch_t12 (i := 134) (by decide +kernel) rfl
theorem K2847 : (Cond.methodLink RL 303 yX15_doneShare) ∈ ALL := mAC ch_t12 (i := 131) (by decide +kernel) rfl
theorem K2848 : (Cond.instanceMethod yX15_doneShare) ∈ ALL := mAC ch_t12 (i := 132) (by decide +kernel) rfl
theorem K2849 : (Cond.selects RX15 yX15_doneShare yX15_doneShare) ∈ ALL := mAC ch_t12 (i := 133) (by decide +kernel) rfl
theorem GV_RL_303 : GoodIn ALL (wsV RL 303 RX15 yX15_doneShare (Cond.code yX15_doneShare cX15_doneShare 4 (some .float) :: ALL)) := gV K2847 K2848 K2849 K94 K2850
theorem HD_yL_meanStack : yL_meanStack.cls ≠ "java/lang/invoke/MethodHandle" ∧ yL_meanStack.cls ≠ "java/lang/invoke/VarHandle" ∧ (parseMethodDescriptor yL_meanStack.desc).map (fun d => d.parameters.length) = some 2 := by decide +kernel
theorem K2006 : (Cond.codeWith yL_meanStack cL_meanStack 3 (some .int) [(0, 7, 10, 151)]) ∈ ALL := mAC ch_t9 (i := 10) (by decide +kernel) rfl
theorem K2004 : (Cond.methodLink RL 304 yL_meanStack) ∈ ALL := mAC ch_t9 (i := 8) (by decide +kernel) rfl
theorem K2005 : (Cond.static yL_meanStack) ∈ ALL := mAC ch_t9 (i := 9) (by decide +kernel) rfl
theorem GS_RL_304 : GoodIn ALL (va_wsS RL 304 yL_meanStack (Cond.codeWith yL_meanStack cL_meanStack 3 (some .int) [(0, 7, 10, 151)] :: ALL)) := gS K2004 K2005 K76 K2006
theorem HD_yX15_meanStack : yX15_meanStack.cls ≠ "java/lang/invoke/MethodHandle" ∧ yX15_meanStack.cls ≠ "java/lang/invoke/VarHandle" ∧ (parseMethodDescriptor yX15_meanStack.desc).map (fun d => d.parameters.length) = some 0 := by decide +kernel
theorem K2863 : (Cond.code yX15_meanStack cX15_meanStack 4 (some .double)) ∈ ALL := mAC ch_t12 (i := 147) (by decide +kernel) rfl
theorem K2860 : (Cond.methodLink RL 306 yX15_meanStack) ∈ ALL := mAC ch_t12 (i := 144) (by decide +kernel) rfl
theorem K2861 : (Cond.instanceMethod yX15_meanStack) ∈ ALL := mAC ch_t12 (i := 145) (by decide +kernel) rfl
theorem K2862 : (Cond.selects RX15 yX15_meanStack yX15_meanStack) ∈ ALL := mAC ch_t12 (i := 146) (by decide +kernel) rfl
theorem GV_RL_306 : GoodIn ALL (wsV RL 306 RX15 yX15_meanStack (Cond.code yX15_meanStack cX15_meanStack 4 (some .double) :: ALL)) := gV K2860 K2861 K2862 K94 K2863
theorem HD_yX11_checksum : yX11_checksum.cls ≠ "java/lang/invoke/MethodHandle" ∧ yX11_checksum.cls ≠ "java/lang/invoke/VarHandle" ∧ (parseMethodDescriptor yX11_checksum.desc).map (fun d => d.parameters.length) = some 0 := by decide +kernel
theorem K575 : (Cond.code yX11_checksum cX11_checksum 1 (some .long)) ∈ ALL := mAC ch_t3 (i := 19) (by decide +kernel) rfl
theorem K572 : (Cond.methodLink RL 307 yX11_checksum) ∈ ALL := mAC ch_t3 (i := 16) (by decide +kernel) rfl
theorem K573 : (Cond.instanceMethod yX11_checksum) ∈ ALL := mAC ch_t3 (i := 17) (by decide +kernel) rfl
theorem K574 : (Cond.selects RX11 yX11_checksum yX11_checksum) ∈ ALL := mAC ch_t3 (i := 18) (by decide +kernel) rfl
theorem GV_RL_307 : GoodIn ALL (wsV RL 307 RX11 yX11_checksum (Cond.code yX11_checksum cX11_checksum 1 (some .long) :: ALL)) := gV K572 K573 K574 K77 K575
theorem HD_yX15_checksum : yX15_checksum.cls ≠ "java/lang/invoke/MethodHandle" ∧ yX15_checksum.cls ≠ "java/lang/invoke/VarHandle" ∧ (parseMethodDescriptor yX15_checksum.desc).map (fun d => d.parameters.length) = some 0 := by decide +kernel
theorem K2867 : (Cond.code yX15_checksum cX15_checksum 9 (some .long)) ∈ ALL := mAC ch_t12 (i := 151) (by decide +kernel) rfl
theorem K2864 : (Cond.methodLink RL 311 yX15_checksum) ∈ ALL := mAC ch_t12 (i := 148) (by decide +kernel) rfl
theorem K2865 : (Cond.instanceMethod yX15_checksum) ∈ ALL := mAC ch_t12 (i := 149) (by decide +kernel) rfl
theorem K2866 : (Cond.selects RX15 yX15_checksum yX15_checksum) ∈ ALL := mAC ch_t12 (i := 150) (by decide +kernel) rfl
theorem GV_RL_311 : GoodIn ALL (wsV RL 311 RX15 yX15_checksum (Cond.code yX15_checksum cX15_checksum 9 (some .long) :: ALL)) := gV K2864 K2865 K2866 K94 K2867
theorem HD_yX11_isTrue : yX11_isTrue.cls ≠ "java/lang/invoke/MethodHandle" ∧ yX11_isTrue.cls ≠ "java/lang/invoke/VarHandle" ∧ (parseMethodDescriptor yX11_isTrue.desc).map (fun d => d.parameters.length) = some 0 := by decide +kernel
theorem K604 : (Cond.code yX11_isTrue cX11_isTrue 2 (some .boolean)) ∈ ALL := mAC ch_t3 (i := 48) (by decide +kernel) rfl
theorem K601 : (Cond.methodLink RL 312 yX11_isTrue) ∈ ALL := mAC ch_t3 (i := 45) (by decide +kernel) rfl
theorem K602 : (Cond.instanceMethod yX11_isTrue) ∈ ALL := mAC ch_t3 (i := 46) (by decide +kernel) rfl
theorem K603 : (Cond.selects RX11 yX11_isTrue yX11_isTrue) ∈ ALL := mAC ch_t3 (i := 47) (by decide +kernel) rfl
theorem GV_RL_312 : GoodIn ALL (wsV RL 312 RX11 yX11_isTrue (Cond.code yX11_isTrue cX11_isTrue 2 (some .boolean) :: ALL)) := gV K601 K602 K603 K77 K604
theorem HD_yX15_isTrue : yX15_isTrue.cls ≠ "java/lang/invoke/MethodHandle" ∧ yX15_isTrue.cls ≠ "java/lang/invoke/VarHandle" ∧ (parseMethodDescriptor yX15_isTrue.desc).map (fun d => d.parameters.length) = some 0 := by decide +kernel
theorem K2873 : (Cond.code yX15_isTrue cX15_isTrue 1 (some .boolean)) ∈ ALL := mAC ch_t12 (i := 157) (by decide +kernel) rfl
theorem K2870 : (Cond.methodLink RL 316 yX15_isTrue) ∈ ALL := mAC ch_t12 (i := 154) (by decide +kernel) rfl
theorem K2871 : (Cond.instanceMethod yX15_isTrue) ∈ ALL := mAC ch_t12 (i := 155) (by decide +kernel) rfl
theorem K2872 : (Cond.selects RX15 yX15_isTrue yX15_isTrue) ∈ ALL := mAC ch_t12 (i := 156) (by decide +kernel) rfl
theorem GV_RL_316 : GoodIn ALL (wsV RL 316 RX15 yX15_isTrue (Cond.code yX15_isTrue cX15_isTrue 1 (some .boolean) :: ALL)) := gV K2870 K2871 K2872 K94 K2873
