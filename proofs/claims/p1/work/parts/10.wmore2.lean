theorem HD_yX3_isSecond : yX3_isSecond.cls ≠ "java/lang/invoke/MethodHandle" ∧ yX3_isSecond.cls ≠ "java/lang/invoke/VarHandle" ∧ (parseMethodDescriptor yX3_isSecond.desc).map (fun d => d.parameters.length) = some 2 := by decide +kernel
theorem K748 : (Cond.code yX3_isSecond cX3_isSecond 2 (some .boolean)) ∈ ALL := mAC ch_t3 (i := 192) (by decide +kernel) rfl
theorem K746 : (Cond.methodLink RX3 50 yX3_isSecond) ∈ ALL := mAC ch_t3 (i := 190) (by decide +kernel) rfl
theorem K747 : (Cond.static yX3_isSecond) ∈ ALL := mAC ch_t3 (i := 191) (by decide +kernel) rfl
theorem GS_RX3_50 : GoodIn ALL (va_wsS RX3 50 yX3_isSecond (Cond.code yX3_isSecond cX3_isSecond 2 (some .boolean) :: ALL)) := gS K746 K747 K78 K748
theorem HD_yX3_isInstruction : yX3_isInstruction.cls ≠ "java/lang/invoke/MethodHandle" ∧ yX3_isInstruction.cls ≠ "java/lang/invoke/VarHandle" ∧ (parseMethodDescriptor yX3_isInstruction.desc).map (fun d => d.parameters.length) = some 3 := by decide +kernel
theorem K745 : (Cond.code yX3_isInstruction cX3_isInstruction 3 (some .boolean)) ∈ ALL := mAC ch_t3 (i := 189) (by decide +kernel) rfl
theorem K743 : (Cond.methodLink RX11 522 yX3_isInstruction) ∈ ALL := mAC ch_t3 (i := 187) (by decide +kernel) rfl
theorem K744 : (Cond.static yX3_isInstruction) ∈ ALL := mAC ch_t3 (i := 188) (by decide +kernel) rfl
theorem GS_RX11_522 : GoodIn ALL (va_wsS RX11 522 yX3_isInstruction (Cond.code yX3_isInstruction cX3_isInstruction 3 (some .boolean) :: ALL)) := gS K743 K744 K78 K745
theorem HD_yX11_needInstruction : yX11_needInstruction.cls ≠ "java/lang/invoke/MethodHandle" ∧ yX11_needInstruction.cls ≠ "java/lang/invoke/VarHandle" ∧ (parseMethodDescriptor yX11_needInstruction.desc).map (fun d => d.parameters.length) = some 3 := by decide +kernel
theorem K742 : (Cond.code yX11_needInstruction cX11_needInstruction 3 none) ∈ ALL := mAC ch_t3 (i := 186) (by decide +kernel) rfl
theorem K740 : (Cond.methodLink RX11 98 yX11_needInstruction) ∈ ALL := mAC ch_t3 (i := 184) (by decide +kernel) rfl
theorem K741 : (Cond.static yX11_needInstruction) ∈ ALL := mAC ch_t3 (i := 185) (by decide +kernel) rfl
theorem GS_RX11_98 : GoodIn ALL (va_wsS RX11 98 yX11_needInstruction (Cond.code yX11_needInstruction cX11_needInstruction 3 none :: ALL)) := gS K740 K741 K77 K742
theorem K723 : (Cond.methodLink RX3 66 yX3_hasPlace) ∈ ALL := mAC ch_t3 (i := 167) (by decide +kernel) rfl
theorem GV_RX3_66 : GoodIn ALL (wsV RX3 66 RX3 yX3_hasPlace (Cond.code yX3_hasPlace cX3_hasPlace 2 (some .boolean) :: ALL)) := gV K723 K635 K636 K78 K637
theorem HD_yX3_isFull : yX3_isFull.cls ≠ "java/lang/invoke/MethodHandle" ∧ yX3_isFull.cls ≠ "java/lang/invoke/VarHandle" ∧ (parseMethodDescriptor yX3_isFull.desc).map (fun d => d.parameters.length) = some 0 := by decide +kernel
theorem K824 : (Cond.code yX3_isFull cX3_isFull 1 (some .boolean)) ∈ ALL := mAC ch_t4 (i := 28) (by decide +kernel) rfl
theorem K845 : (Cond.methodLink RX3 58 yX3_isFull) ∈ ALL := mAC ch_t4 (i := 49) (by decide +kernel) rfl
theorem K822 : (Cond.instanceMethod yX3_isFull) ∈ ALL := mAC ch_t4 (i := 26) (by decide +kernel) rfl
theorem K823 : (Cond.selects RX3 yX3_isFull yX3_isFull) ∈ ALL := mAC ch_t4 (i := 27) (by decide +kernel) rfl
theorem GV_RX3_58 : GoodIn ALL (wsV RX3 58 RX3 yX3_isFull (Cond.code yX3_isFull cX3_isFull 1 (some .boolean) :: ALL)) := gV K845 K822 K823 K78 K824
theorem HD_yX3_put : yX3_put.cls ≠ "java/lang/invoke/MethodHandle" ∧ yX3_put.cls ≠ "java/lang/invoke/VarHandle" ∧ (parseMethodDescriptor yX3_put.desc).map (fun d => d.parameters.length) = some 4 := by decide +kernel
theorem K849 : (Cond.code yX3_put cX3_put 5 none) ∈ ALL := mAC ch_t4 (i := 53) (by decide +kernel) rfl
theorem K846 : (Cond.methodLink RX3 62 yX3_put) ∈ ALL := mAC ch_t4 (i := 50) (by decide +kernel) rfl
theorem K847 : (Cond.instanceMethod yX3_put) ∈ ALL := mAC ch_t4 (i := 51) (by decide +kernel) rfl
theorem K848 : (Cond.selects RX3 yX3_put yX3_put) ∈ ALL := mAC ch_t4 (i := 52) (by decide +kernel) rfl
theorem GV_RX3_62 : GoodIn ALL (wsV RX3 62 RX3 yX3_put (Cond.code yX3_put cX3_put 5 none :: ALL)) := gV K846 K847 K848 K78 K849
theorem K821 : (Cond.methodLink RX11 102 yX3_isFull) ∈ ALL := mAC ch_t4 (i := 25) (by decide +kernel) rfl
theorem GV_RX11_102 : GoodIn ALL (wsV RX11 102 RX3 yX3_isFull (Cond.code yX3_isFull cX3_isFull 1 (some .boolean) :: ALL)) := gV K821 K822 K823 K78 K824
theorem HD_yX3_append : yX3_append.cls ≠ "java/lang/invoke/MethodHandle" ∧ yX3_append.cls ≠ "java/lang/invoke/VarHandle" ∧ (parseMethodDescriptor yX3_append.desc).map (fun d => d.parameters.length) = some 3 := by decide +kernel
theorem K844 : (Cond.code yX3_append cX3_append 4 (some .int)) ∈ ALL := mAC ch_t4 (i := 48) (by decide +kernel) rfl
theorem K841 : (Cond.methodLink RX11 113 yX3_append) ∈ ALL := mAC ch_t4 (i := 45) (by decide +kernel) rfl
theorem K842 : (Cond.instanceMethod yX3_append) ∈ ALL := mAC ch_t4 (i := 46) (by decide +kernel) rfl
theorem K843 : (Cond.selects RX3 yX3_append yX3_append) ∈ ALL := mAC ch_t4 (i := 47) (by decide +kernel) rfl
theorem GV_RX11_113 : GoodIn ALL (wsV RX11 113 RX3 yX3_append (Cond.code yX3_append cX3_append 4 (some .int) :: ALL)) := gV K841 K842 K843 K78 K844
theorem HD_yX1_begin : yX1_begin.cls ≠ "java/lang/invoke/MethodHandle" ∧ yX1_begin.cls ≠ "java/lang/invoke/VarHandle" ∧ (parseMethodDescriptor yX1_begin.desc).map (fun d => d.parameters.length) = some 1 := by decide +kernel
theorem K853 : (Cond.code yX1_begin cX1_begin 2 none) ∈ ALL := mAC ch_t4 (i := 57) (by decide +kernel) rfl
theorem K850 : (Cond.methodLink RX11 117 yX1_begin) ∈ ALL := mAC ch_t4 (i := 54) (by decide +kernel) rfl
theorem K851 : (Cond.instanceMethod yX1_begin) ∈ ALL := mAC ch_t4 (i := 55) (by decide +kernel) rfl
theorem K852 : (Cond.selects RX1 yX1_begin yX1_begin) ∈ ALL := mAC ch_t4 (i := 56) (by decide +kernel) rfl
theorem GV_RX11_117 : GoodIn ALL (wsV RX11 117 RX1 yX1_begin (Cond.code yX1_begin cX1_begin 2 none :: ALL)) := gV K850 K851 K852 K88 K853
theorem HD_yX5_become : yX5_become.cls ≠ "java/lang/invoke/MethodHandle" ∧ yX5_become.cls ≠ "java/lang/invoke/VarHandle" ∧ (parseMethodDescriptor yX5_become.desc).map (fun d => d.parameters.length) = some 3 := by decide +kernel
theorem K1313 : (Cond.code yX5_become cX5_become 4 none) ∈ ALL := mAC ch_t6 (i := 37) (by decide +kernel) rfl
theorem K1783 : (Cond.methodLink RX5 22 yX5_become) ∈ ALL := mAC ch_t8 (i := 27) (by decide +kernel) rfl
theorem K1311 : (Cond.instanceMethod yX5_become) ∈ ALL := mAC ch_t6 (i := 35) (by decide +kernel) rfl
theorem K1312 : (Cond.selects RX5 yX5_become yX5_become) ∈ ALL := mAC ch_t6 (i := 36) (by decide +kernel) rfl
theorem GV_RX5_22 : GoodIn ALL (wsV RX5 22 RX5 yX5_become (Cond.code yX5_become cX5_become 4 none :: ALL)) := gV K1783 K1311 K1312 K84 K1313
theorem K938 : (Cond.methodLink RX5 45 yX6_cellAt) ∈ ALL := mAC ch_t4 (i := 142) (by decide +kernel) rfl
theorem GV_RX5_45 : GoodIn ALL (wsV RX5 45 RX6 yX6_cellAt (Cond.code yX6_cellAt cX6_cellAt 2 (some .int) :: ALL)) := gV K938 K939 K940 K86 K941
theorem K1778 : (Cond.methodLink RX10 30 yX10_isFull) ∈ ALL := mAC ch_t8 (i := 22) (by decide +kernel) rfl
theorem GV_RX10_30 : GoodIn ALL (wsV RX10 30 RX10 yX10_isFull (Cond.code yX10_isFull cX10_isFull 1 (some .boolean) :: ALL)) := gV K1778 K1769 K1770 K85 K1771
theorem HD_yX5_copyFrom : yX5_copyFrom.cls ≠ "java/lang/invoke/MethodHandle" ∧ yX5_copyFrom.cls ≠ "java/lang/invoke/VarHandle" ∧ (parseMethodDescriptor yX5_copyFrom.desc).map (fun d => d.parameters.length) = some 1 := by decide +kernel
theorem K1782 : (Cond.code yX5_copyFrom cX5_copyFrom 2 none) ∈ ALL := mAC ch_t8 (i := 26) (by decide +kernel) rfl
theorem K1779 : (Cond.methodLink RX10 34 yX5_copyFrom) ∈ ALL := mAC ch_t8 (i := 23) (by decide +kernel) rfl
theorem K1780 : (Cond.instanceMethod yX5_copyFrom) ∈ ALL := mAC ch_t8 (i := 24) (by decide +kernel) rfl
theorem K1781 : (Cond.selects RX5 yX5_copyFrom yX5_copyFrom) ∈ ALL := mAC ch_t8 (i := 25) (by decide +kernel) rfl
theorem GV_RX10_34 : GoodIn ALL (wsV RX10 34 RX5 yX5_copyFrom (Cond.code yX5_copyFrom cX5_copyFrom 2 none :: ALL)) := gV K1779 K1780 K1781 K84 K1782
theorem HD_yX5_wordOf : yX5_wordOf.cls ≠ "java/lang/invoke/MethodHandle" ∧ yX5_wordOf.cls ≠ "java/lang/invoke/VarHandle" ∧ (parseMethodDescriptor yX5_wordOf.desc).map (fun d => d.parameters.length) = some 2 := by decide +kernel
theorem K935 : (Cond.code yX5_wordOf cX5_wordOf 3 (some .int)) ∈ ALL := mAC ch_t4 (i := 139) (by decide +kernel) rfl
theorem K932 : (Cond.methodLink RX10 38 yX5_wordOf) ∈ ALL := mAC ch_t4 (i := 136) (by decide +kernel) rfl
theorem K933 : (Cond.instanceMethod yX5_wordOf) ∈ ALL := mAC ch_t4 (i := 137) (by decide +kernel) rfl
theorem K934 : (Cond.selects RX5 yX5_wordOf yX5_wordOf) ∈ ALL := mAC ch_t4 (i := 138) (by decide +kernel) rfl
theorem GV_RX10_38 : GoodIn ALL (wsV RX10 38 RX5 yX5_wordOf (Cond.code yX5_wordOf cX5_wordOf 3 (some .int) :: ALL)) := gV K932 K933 K934 K84 K935
theorem HD_yX11_needRoomForWatch : yX11_needRoomForWatch.cls ≠ "java/lang/invoke/MethodHandle" ∧ yX11_needRoomForWatch.cls ≠ "java/lang/invoke/VarHandle" ∧ (parseMethodDescriptor yX11_needRoomForWatch.desc).map (fun d => d.parameters.length) = some 0 := by decide +kernel
theorem K1767 : (Cond.code yX11_needRoomForWatch cX11_needRoomForWatch 1 none) ∈ ALL := mAC ch_t8 (i := 11) (by decide +kernel) rfl
theorem K1764 : (Cond.methodLink RX11 413 yX11_needRoomForWatch) ∈ ALL := mAC ch_t8 (i := 8) (by decide +kernel) rfl
theorem K1766 : (Cond.instanceMethod yX11_needRoomForWatch) ∈ ALL := mAC ch_t8 (i := 10) (by decide +kernel) rfl
theorem K24 : (Cond.selects RX11 yX11_needRoomForWatch yX11_needRoomForWatch) ∈ ALL := mAC ch_sel (i := 24) (by decide +kernel) rfl
theorem GV_RX11_413 : GoodIn ALL (wsV RX11 413 RX11 yX11_needRoomForWatch (Cond.code yX11_needRoomForWatch cX11_needRoomForWatch 1 none :: ALL)) := gV K1764 K1766 K24 K77 K1767
theorem K1773 : (Cond.methodLink RX11 416 yX5_become) ∈ ALL := mAC ch_t8 (i := 17) (by decide +kernel) rfl
theorem GV_RX11_416 : GoodIn ALL (wsV RX11 416 RX5 yX5_become (Cond.code yX5_become cX5_become 4 none :: ALL)) := gV K1773 K1311 K1312 K84 K1313
theorem HD_yX10_add : yX10_add.cls ≠ "java/lang/invoke/MethodHandle" ∧ yX10_add.cls ≠ "java/lang/invoke/VarHandle" ∧ (parseMethodDescriptor yX10_add.desc).map (fun d => d.parameters.length) = some 2 := by decide +kernel
theorem K1777 : (Cond.code yX10_add cX10_add 3 (some .int)) ∈ ALL := mAC ch_t8 (i := 21) (by decide +kernel) rfl
theorem K1774 : (Cond.methodLink RX11 419 yX10_add) ∈ ALL := mAC ch_t8 (i := 18) (by decide +kernel) rfl
theorem K1775 : (Cond.instanceMethod yX10_add) ∈ ALL := mAC ch_t8 (i := 19) (by decide +kernel) rfl
theorem K1776 : (Cond.selects RX10 yX10_add yX10_add) ∈ ALL := mAC ch_t8 (i := 20) (by decide +kernel) rfl
theorem GV_RX11_419 : GoodIn ALL (wsV RX11 419 RX10 yX10_add (Cond.code yX10_add cX10_add 3 (some .int) :: ALL)) := gV K1774 K1775 K1776 K85 K1777
theorem K510 : (Cond.fieldLink RJ5 79 "java/lang/AbstractStringBuilder" "count" "I") ∈ ALL := mAC ch_t2 (i := 194) (by decide +kernel) rfl
theorem HD_yJ5_length_8abf5 : yJ5_length_8abf5.cls ≠ "java/lang/invoke/MethodHandle" ∧ yJ5_length_8abf5.cls ≠ "java/lang/invoke/VarHandle" ∧ (parseMethodDescriptor yJ5_length_8abf5.desc).map (fun d => d.parameters.length) = some 0 := by decide +kernel
theorem K1523 : (Cond.methodLink RJ4 343 yJ5_length_8abf5) ∈ ALL := mAC ch_t7 (i := 7) (by decide +kernel) rfl
theorem K1519 : (Cond.sameMethod "java/lang/AbstractStringBuilder" "java/lang/AbstractStringBuilder" "length" "()I") ∈ ALL := mAC ch_t7 (i := 3) (by decide +kernel) rfl
theorem K519 : (Cond.superclass RJ4 RJ5) ∈ ALL := mAC ch_t2 (i := 203) (by decide +kernel) rfl
theorem K1518 : (Cond.instanceMethod yJ5_length_8abf5) ∈ ALL := mAC ch_t7 (i := 2) (by decide +kernel) rfl
theorem K1524 : (Cond.code yJ5_length_8abf5 cJ5_length_8abf5 1 (some .int)) ∈ ALL := mAC ch_t7 (i := 8) (by decide +kernel) rfl
theorem GSU_RJ4_343 : GoodIn ALL (va_wsSU RJ4 343 yJ5_length_8abf5 (Cond.code yJ5_length_8abf5 cJ5_length_8abf5 1 (some .int) :: ALL)) := gSU K1523 K1519 K519 K1518 K90 K1524
theorem HD_yJ4_length_8abf5 : yJ4_length_8abf5.cls ≠ "java/lang/invoke/MethodHandle" ∧ yJ4_length_8abf5.cls ≠ "java/lang/invoke/VarHandle" ∧ (parseMethodDescriptor yJ4_length_8abf5.desc).map (fun d => d.parameters.length) = some 0 := by decide +kernel
theorem K1522 : (Cond.code yJ4_length_8abf5 cJ4_length_8abf5 1 (some .int)) ∈ ALL := mAC ch_t7 (i := 6) (by decide +kernel) rfl
theorem K1637 : (Cond.methodLink RX11 369 yJ4_length_8abf5) ∈ ALL := mAC ch_t7 (i := 121) (by decide +kernel) rfl
theorem K1521 : (Cond.instanceMethod yJ4_length_8abf5) ∈ ALL := mAC ch_t7 (i := 5) (by decide +kernel) rfl
theorem K2886 : (Cond.selects RJ4 yJ4_length_8abf5 yJ4_length_8abf5) ∈ ALL := mAC ch_t12 (i := 170) (by decide +kernel) rfl
theorem GV_RX11_369 : GoodIn ALL (wsV RX11 369 RJ4 yJ4_length_8abf5 (Cond.code yJ4_length_8abf5 cJ4_length_8abf5 1 (some .int) :: ALL)) := gV K1637 K1521 K2886 K91 K1522
theorem dX3_isSecond_0 : decode cX3_isSecond 0 = .ok (.iload_n 0, 1) := by decide +kernel
theorem dX3_isSecond_1 : decode cX3_isSecond 1 = .ok (.lookupswitch 119 #[(42, 93), (43, 93), (45, 93), (99, 91), (103, 105), (106, 112), (108, 99), (109, 93), (112, 105), (115, 99)], 91) := by decide +kernel
theorem dX3_isSecond_92 : decode cX3_isSecond 92 = .ok (.iconst 1, 1) := by decide +kernel
theorem dX3_isSecond_93 : decode cX3_isSecond 93 = .ok (.ireturn, 1) := by decide +kernel
theorem dX3_isSecond_94 : decode cX3_isSecond 94 = .ok (.iload_n 1, 1) := by decide +kernel
theorem dX3_isSecond_95 : decode cX3_isSecond 95 = .ok (.iconst 4, 1) := by decide +kernel
theorem dX3_isSecond_96 : decode cX3_isSecond 96 = .ok (.invokestatic 46, 3) := by decide +kernel
theorem dX3_isSecond_99 : decode cX3_isSecond 99 = .ok (.ireturn, 1) := by decide +kernel
theorem dX3_isSecond_100 : decode cX3_isSecond 100 = .ok (.iload_n 1, 1) := by decide +kernel
theorem dX3_isSecond_101 : decode cX3_isSecond 101 = .ok (.iconst 4, 1) := by decide +kernel
theorem dX3_isSecond_102 : decode cX3_isSecond 102 = .ok (.invokestatic 46, 3) := by decide +kernel
theorem dX3_isSecond_105 : decode cX3_isSecond 105 = .ok (.ireturn, 1) := by decide +kernel
theorem dX3_isSecond_106 : decode cX3_isSecond 106 = .ok (.iload_n 1, 1) := by decide +kernel
theorem dX3_isSecond_107 : decode cX3_isSecond 107 = .ok (.bipush 16, 2) := by decide +kernel
theorem dX3_isSecond_109 : decode cX3_isSecond 109 = .ok (.invokestatic 46, 3) := by decide +kernel
theorem dX3_isSecond_112 : decode cX3_isSecond 112 = .ok (.ireturn, 1) := by decide +kernel
theorem dX3_isSecond_113 : decode cX3_isSecond 113 = .ok (.iload_n 1, 1) := by decide +kernel
theorem dX3_isSecond_114 : decode cX3_isSecond 114 = .ok (.bipush 60, 2) := by decide +kernel
theorem dX3_isSecond_116 : decode cX3_isSecond 116 = .ok (.invokestatic 46, 3) := by decide +kernel
theorem dX3_isSecond_119 : decode cX3_isSecond 119 = .ok (.ireturn, 1) := by decide +kernel
theorem dX3_isSecond_120 : decode cX3_isSecond 120 = .ok (.iconst 0, 1) := by decide +kernel
theorem dX3_isSecond_121 : decode cX3_isSecond 121 = .ok (.ireturn, 1) := by decide +kernel
theorem dX3_isInstruction_0 : decode cX3_isInstruction 0 = .ok (.iload_n 0, 1) := by decide +kernel
theorem dX3_isInstruction_1 : decode cX3_isInstruction 1 = .ok (.tableswitch 110 101 120 #[104, 110, 110, 95, 110, 110, 97, 110, 110, 95, 110, 110, 110, 95, 110, 110, 110, 110, 110, 95], 95) := by decide +kernel
theorem dX3_isInstruction_96 : decode cX3_isInstruction 96 = .ok (.iconst 1, 1) := by decide +kernel
theorem dX3_isInstruction_97 : decode cX3_isInstruction 97 = .ok (.ireturn, 1) := by decide +kernel
theorem dX3_isInstruction_98 : decode cX3_isInstruction 98 = .ok (.iload_n 2, 1) := by decide +kernel
theorem dX3_isInstruction_99 : decode cX3_isInstruction 99 = .ok (.bipush 6, 2) := by decide +kernel
theorem dX3_isInstruction_101 : decode cX3_isInstruction 101 = .ok (.invokestatic 46, 3) := by decide +kernel
theorem dX3_isInstruction_104 : decode cX3_isInstruction 104 = .ok (.ireturn, 1) := by decide +kernel
theorem dX3_isInstruction_105 : decode cX3_isInstruction 105 = .ok (.iload_n 2, 1) := by decide +kernel
theorem dX3_isInstruction_106 : decode cX3_isInstruction 106 = .ok (.iconst 5, 1) := by decide +kernel
theorem dX3_isInstruction_107 : decode cX3_isInstruction 107 = .ok (.invokestatic 46, 3) := by decide +kernel
theorem dX3_isInstruction_110 : decode cX3_isInstruction 110 = .ok (.ireturn, 1) := by decide +kernel
theorem dX3_isInstruction_111 : decode cX3_isInstruction 111 = .ok (.iload_n 1, 1) := by decide +kernel
theorem dX3_isInstruction_112 : decode cX3_isInstruction 112 = .ok (.iconst 4, 1) := by decide +kernel
theorem dX3_isInstruction_113 : decode cX3_isInstruction 113 = .ok (.invokestatic 46, 3) := by decide +kernel
theorem dX3_isInstruction_116 : decode cX3_isInstruction 116 = .ok (.ifCond .eq 15, 3) := by decide +kernel
theorem dX3_isInstruction_119 : decode cX3_isInstruction 119 = .ok (.iload_n 0, 1) := by decide +kernel
theorem dX3_isInstruction_120 : decode cX3_isInstruction 120 = .ok (.iload_n 2, 1) := by decide +kernel
theorem dX3_isInstruction_121 : decode cX3_isInstruction 121 = .ok (.invokestatic 50, 3) := by decide +kernel
theorem dX3_isInstruction_124 : decode cX3_isInstruction 124 = .ok (.ifCond .eq 7, 3) := by decide +kernel
theorem dX3_isInstruction_127 : decode cX3_isInstruction 127 = .ok (.iconst 1, 1) := by decide +kernel
theorem dX3_isInstruction_128 : decode cX3_isInstruction 128 = .ok (.goto 4, 3) := by decide +kernel
theorem dX3_isInstruction_131 : decode cX3_isInstruction 131 = .ok (.iconst 0, 1) := by decide +kernel
theorem dX3_isInstruction_132 : decode cX3_isInstruction 132 = .ok (.ireturn, 1) := by decide +kernel
theorem dX11_needInstruction_0 : decode cX11_needInstruction 0 = .ok (.iload_n 0, 1) := by decide +kernel
theorem dX11_needInstruction_1 : decode cX11_needInstruction 1 = .ok (.iload_n 1, 1) := by decide +kernel
theorem dX11_needInstruction_2 : decode cX11_needInstruction 2 = .ok (.iload_n 2, 1) := by decide +kernel
theorem dX11_needInstruction_3 : decode cX11_needInstruction 3 = .ok (.invokestatic 522, 3) := by decide +kernel
theorem dX11_needInstruction_6 : decode cX11_needInstruction 6 = .ok (.ifCond .ne 14, 3) := by decide +kernel
theorem dX11_needInstruction_9 : decode cX11_needInstruction 9 = .ok (.new 171, 3) := by decide +kernel
theorem dX11_needInstruction_12 : decode cX11_needInstruction 12 = .ok (.dup, 1) := by decide +kernel
theorem dX11_needInstruction_13 : decode cX11_needInstruction 13 = .ok (.ldc_w 526, 3) := by decide +kernel
theorem dX11_needInstruction_16 : decode cX11_needInstruction 16 = .ok (.invokespecial 175, 3) := by decide +kernel
theorem dX11_needInstruction_19 : decode cX11_needInstruction 19 = .ok (.athrow, 1) := by decide +kernel
theorem dX11_needInstruction_20 : decode cX11_needInstruction 20 = .ok (.return_, 1) := by decide +kernel
theorem dX11_code_0 : decode cX11_code 0 = .ok (.iload_n 1, 1) := by decide +kernel
theorem dX11_code_1 : decode cX11_code 1 = .ok (.iload_n 2, 1) := by decide +kernel
theorem dX11_code_2 : decode cX11_code 2 = .ok (.iload_n 3, 1) := by decide +kernel
theorem dX11_code_3 : decode cX11_code 3 = .ok (.invokestatic 98, 3) := by decide +kernel
theorem dX11_code_6 : decode cX11_code 6 = .ok (.aload_n 0, 1) := by decide +kernel
theorem dX11_code_7 : decode cX11_code 7 = .ok (.getfield 10, 3) := by decide +kernel
theorem dX11_code_10 : decode cX11_code 10 = .ok (.invokevirtual 102, 3) := by decide +kernel
theorem dX11_code_13 : decode cX11_code 13 = .ok (.ifCond .eq 13, 3) := by decide +kernel
theorem dX11_code_16 : decode cX11_code 16 = .ok (.new 106, 3) := by decide +kernel
theorem dX11_code_19 : decode cX11_code 19 = .ok (.dup, 1) := by decide +kernel
theorem dX11_code_20 : decode cX11_code 20 = .ok (.ldc 108, 2) := by decide +kernel
theorem dX11_code_22 : decode cX11_code 22 = .ok (.invokespecial 110, 3) := by decide +kernel
theorem dX11_code_25 : decode cX11_code 25 = .ok (.athrow, 1) := by decide +kernel
theorem dX11_code_26 : decode cX11_code 26 = .ok (.aload_n 0, 1) := by decide +kernel
theorem dX11_code_27 : decode cX11_code 27 = .ok (.getfield 10, 3) := by decide +kernel
theorem dX11_code_30 : decode cX11_code 30 = .ok (.iload_n 1, 1) := by decide +kernel
theorem dX11_code_31 : decode cX11_code 31 = .ok (.iload_n 2, 1) := by decide +kernel
theorem dX11_code_32 : decode cX11_code 32 = .ok (.iload_n 3, 1) := by decide +kernel
theorem dX11_code_33 : decode cX11_code 33 = .ok (.invokevirtual 113, 3) := by decide +kernel
theorem dX11_code_36 : decode cX11_code 36 = .ok (.istore 4, 2) := by decide +kernel
theorem dX11_code_38 : decode cX11_code 38 = .ok (.aload_n 0, 1) := by decide +kernel
theorem dX11_code_39 : decode cX11_code 39 = .ok (.getfield 54, 3) := by decide +kernel
theorem dX11_code_42 : decode cX11_code 42 = .ok (.aload_n 0, 1) := by decide +kernel
theorem dX11_code_43 : decode cX11_code 43 = .ok (.getfield 44, 3) := by decide +kernel
theorem dX11_code_46 : decode cX11_code 46 = .ok (.invokevirtual 117, 3) := by decide +kernel
theorem dX11_code_49 : decode cX11_code 49 = .ok (.iload 4, 2) := by decide +kernel
theorem dX11_code_51 : decode cX11_code 51 = .ok (.ireturn, 1) := by decide +kernel
theorem dX3_put_0 : decode cX3_put 0 = .ok (.aload_n 0, 1) := by decide +kernel
theorem dX3_put_1 : decode cX3_put 1 = .ok (.iload_n 1, 1) := by decide +kernel
theorem dX3_put_2 : decode cX3_put 2 = .ok (.invokevirtual 66, 3) := by decide +kernel
theorem dX3_put_5 : decode cX3_put 5 = .ok (.ifCond .eq 25, 3) := by decide +kernel
theorem dX3_put_8 : decode cX3_put 8 = .ok (.aload_n 0, 1) := by decide +kernel
theorem dX3_put_9 : decode cX3_put 9 = .ok (.getfield 30, 3) := by decide +kernel
theorem dX3_put_12 : decode cX3_put 12 = .ok (.iload_n 1, 1) := by decide +kernel
theorem dX3_put_13 : decode cX3_put 13 = .ok (.iload_n 2, 1) := by decide +kernel
theorem dX3_put_14 : decode cX3_put 14 = .ok (.castore, 1) := by decide +kernel
theorem dX3_put_15 : decode cX3_put 15 = .ok (.aload_n 0, 1) := by decide +kernel
theorem dX3_put_16 : decode cX3_put 16 = .ok (.getfield 34, 3) := by decide +kernel
theorem dX3_put_19 : decode cX3_put 19 = .ok (.iload_n 1, 1) := by decide +kernel
theorem dX3_put_20 : decode cX3_put 20 = .ok (.iload_n 3, 1) := by decide +kernel
theorem dX3_put_21 : decode cX3_put 21 = .ok (.iastore, 1) := by decide +kernel
theorem dX3_put_22 : decode cX3_put 22 = .ok (.aload_n 0, 1) := by decide +kernel
theorem dX3_put_23 : decode cX3_put 23 = .ok (.getfield 37, 3) := by decide +kernel
theorem dX3_put_26 : decode cX3_put 26 = .ok (.iload_n 1, 1) := by decide +kernel
theorem dX3_put_27 : decode cX3_put 27 = .ok (.iload 4, 2) := by decide +kernel
theorem dX3_put_29 : decode cX3_put 29 = .ok (.iastore, 1) := by decide +kernel
theorem dX3_put_30 : decode cX3_put 30 = .ok (.return_, 1) := by decide +kernel
theorem dX3_append_0 : decode cX3_append 0 = .ok (.aload_n 0, 1) := by decide +kernel
theorem dX3_append_1 : decode cX3_append 1 = .ok (.invokevirtual 58, 3) := by decide +kernel
theorem dX3_append_4 : decode cX3_append 4 = .ok (.ifCond .eq 5, 3) := by decide +kernel
theorem dX3_append_7 : decode cX3_append 7 = .ok (.iconst (-1), 1) := by decide +kernel
theorem dX3_append_8 : decode cX3_append 8 = .ok (.ireturn, 1) := by decide +kernel
theorem dX3_append_9 : decode cX3_append 9 = .ok (.aload_n 0, 1) := by decide +kernel
theorem dX3_append_10 : decode cX3_append 10 = .ok (.getfield 40, 3) := by decide +kernel
theorem dX3_append_13 : decode cX3_append 13 = .ok (.aload_n 0, 1) := by decide +kernel
theorem dX3_append_14 : decode cX3_append 14 = .ok (.getfield 54, 3) := by decide +kernel
theorem dX3_append_17 : decode cX3_append 17 = .ok (.iconst (-1), 1) := by decide +kernel
theorem dX3_append_18 : decode cX3_append 18 = .ok (.iastore, 1) := by decide +kernel
theorem dX3_append_19 : decode cX3_append 19 = .ok (.aload_n 0, 1) := by decide +kernel
theorem dX3_append_20 : decode cX3_append 20 = .ok (.getfield 43, 3) := by decide +kernel
theorem dX3_append_23 : decode cX3_append 23 = .ok (.aload_n 0, 1) := by decide +kernel
theorem dX3_append_24 : decode cX3_append 24 = .ok (.getfield 54, 3) := by decide +kernel
theorem dX3_append_27 : decode cX3_append 27 = .ok (.bipush 45, 2) := by decide +kernel
theorem dX3_append_29 : decode cX3_append 29 = .ok (.castore, 1) := by decide +kernel
theorem dX3_append_30 : decode cX3_append 30 = .ok (.aload_n 0, 1) := by decide +kernel
theorem dX3_append_31 : decode cX3_append 31 = .ok (.dup, 1) := by decide +kernel
theorem dX3_append_32 : decode cX3_append 32 = .ok (.getfield 54, 3) := by decide +kernel
theorem dX3_append_35 : decode cX3_append 35 = .ok (.iconst 1, 1) := by decide +kernel
theorem dX3_append_36 : decode cX3_append 36 = .ok (.iadd, 1) := by decide +kernel
theorem dX3_append_37 : decode cX3_append 37 = .ok (.putfield 54, 3) := by decide +kernel
theorem dX3_append_40 : decode cX3_append 40 = .ok (.aload_n 0, 1) := by decide +kernel
theorem dX3_append_41 : decode cX3_append 41 = .ok (.aload_n 0, 1) := by decide +kernel
theorem dX3_append_42 : decode cX3_append 42 = .ok (.getfield 54, 3) := by decide +kernel
theorem dX3_append_45 : decode cX3_append 45 = .ok (.iconst 1, 1) := by decide +kernel
theorem dX3_append_46 : decode cX3_append 46 = .ok (.isub, 1) := by decide +kernel
theorem dX3_append_47 : decode cX3_append 47 = .ok (.iload_n 1, 1) := by decide +kernel
theorem dX3_append_48 : decode cX3_append 48 = .ok (.iload_n 2, 1) := by decide +kernel
theorem dX3_append_49 : decode cX3_append 49 = .ok (.iload_n 3, 1) := by decide +kernel
theorem dX3_append_50 : decode cX3_append 50 = .ok (.invokevirtual 62, 3) := by decide +kernel
theorem dX3_append_53 : decode cX3_append 53 = .ok (.aload_n 0, 1) := by decide +kernel
theorem dX3_append_54 : decode cX3_append 54 = .ok (.getfield 54, 3) := by decide +kernel
theorem dX3_append_57 : decode cX3_append 57 = .ok (.iconst 1, 1) := by decide +kernel
theorem dX3_append_58 : decode cX3_append 58 = .ok (.isub, 1) := by decide +kernel
theorem dX3_append_59 : decode cX3_append 59 = .ok (.ireturn, 1) := by decide +kernel
theorem dX5_copyFrom_0 : decode cX5_copyFrom 0 = .ok (.aload_n 0, 1) := by decide +kernel
theorem dX5_copyFrom_1 : decode cX5_copyFrom 1 = .ok (.aload_n 1, 1) := by decide +kernel
theorem dX5_copyFrom_2 : decode cX5_copyFrom 2 = .ok (.getfield 9, 3) := by decide +kernel
theorem dX5_copyFrom_5 : decode cX5_copyFrom 5 = .ok (.aload_n 1, 1) := by decide +kernel
theorem dX5_copyFrom_6 : decode cX5_copyFrom 6 = .ok (.getfield 15, 3) := by decide +kernel
theorem dX5_copyFrom_9 : decode cX5_copyFrom 9 = .ok (.aload_n 1, 1) := by decide +kernel
theorem dX5_copyFrom_10 : decode cX5_copyFrom 10 = .ok (.getfield 19, 3) := by decide +kernel
theorem dX5_copyFrom_13 : decode cX5_copyFrom 13 = .ok (.invokevirtual 22, 3) := by decide +kernel
theorem dX5_copyFrom_16 : decode cX5_copyFrom 16 = .ok (.return_, 1) := by decide +kernel
theorem dX5_wordOf_0 : decode cX5_wordOf 0 = .ok (.aload_n 0, 1) := by decide +kernel
theorem dX5_wordOf_1 : decode cX5_wordOf 1 = .ok (.getfield 9, 3) := by decide +kernel
theorem dX5_wordOf_4 : decode cX5_wordOf 4 = .ok (.lookupswitch 81 #[(103, 70), (114, 36), (115, 52)], 36) := by decide +kernel
theorem dX5_wordOf_40 : decode cX5_wordOf 40 = .ok (.aload_n 1, 1) := by decide +kernel
theorem dX5_wordOf_41 : decode cX5_wordOf 41 = .ok (.aload_n 0, 1) := by decide +kernel
theorem dX5_wordOf_42 : decode cX5_wordOf 42 = .ok (.getfield 15, 3) := by decide +kernel
theorem dX5_wordOf_45 : decode cX5_wordOf 45 = .ok (.invokevirtual 26, 3) := by decide +kernel
theorem dX5_wordOf_48 : decode cX5_wordOf 48 = .ok (.aload_n 0, 1) := by decide +kernel
theorem dX5_wordOf_49 : decode cX5_wordOf 49 = .ok (.getfield 19, 3) := by decide +kernel
theorem dX5_wordOf_52 : decode cX5_wordOf 52 = .ok (.invokevirtual 38, 3) := by decide +kernel
theorem dX5_wordOf_55 : decode cX5_wordOf 55 = .ok (.ireturn, 1) := by decide +kernel
theorem dX5_wordOf_56 : decode cX5_wordOf 56 = .ok (.aload_n 1, 1) := by decide +kernel
theorem dX5_wordOf_57 : decode cX5_wordOf 57 = .ok (.aload_n 0, 1) := by decide +kernel
theorem dX5_wordOf_58 : decode cX5_wordOf 58 = .ok (.getfield 15, 3) := by decide +kernel
theorem dX5_wordOf_61 : decode cX5_wordOf 61 = .ok (.invokevirtual 26, 3) := by decide +kernel
theorem dX5_wordOf_64 : decode cX5_wordOf 64 = .ok (.aload_n 0, 1) := by decide +kernel
theorem dX5_wordOf_65 : decode cX5_wordOf 65 = .ok (.getfield 19, 3) := by decide +kernel
theorem dX5_wordOf_68 : decode cX5_wordOf 68 = .ok (.iload_n 2, 1) := by decide +kernel
theorem dX5_wordOf_69 : decode cX5_wordOf 69 = .ok (.iadd, 1) := by decide +kernel
theorem dX5_wordOf_70 : decode cX5_wordOf 70 = .ok (.invokevirtual 42, 3) := by decide +kernel
theorem dX5_wordOf_73 : decode cX5_wordOf 73 = .ok (.ireturn, 1) := by decide +kernel
theorem dX5_wordOf_74 : decode cX5_wordOf 74 = .ok (.aload_n 1, 1) := by decide +kernel
theorem dX5_wordOf_75 : decode cX5_wordOf 75 = .ok (.aload_n 0, 1) := by decide +kernel
theorem dX5_wordOf_76 : decode cX5_wordOf 76 = .ok (.getfield 19, 3) := by decide +kernel
theorem dX5_wordOf_79 : decode cX5_wordOf 79 = .ok (.iload_n 2, 1) := by decide +kernel
theorem dX5_wordOf_80 : decode cX5_wordOf 80 = .ok (.iadd, 1) := by decide +kernel
theorem dX5_wordOf_81 : decode cX5_wordOf 81 = .ok (.invokevirtual 45, 3) := by decide +kernel
theorem dX5_wordOf_84 : decode cX5_wordOf 84 = .ok (.ireturn, 1) := by decide +kernel
theorem dX5_wordOf_85 : decode cX5_wordOf 85 = .ok (.aload_n 0, 1) := by decide +kernel
theorem dX5_wordOf_86 : decode cX5_wordOf 86 = .ok (.getfield 19, 3) := by decide +kernel
theorem dX5_wordOf_89 : decode cX5_wordOf 89 = .ok (.ireturn, 1) := by decide +kernel
theorem dX10_add_0 : decode cX10_add 0 = .ok (.aload_n 0, 1) := by decide +kernel
theorem dX10_add_1 : decode cX10_add 1 = .ok (.invokevirtual 30, 3) := by decide +kernel
theorem dX10_add_4 : decode cX10_add 4 = .ok (.ifCond .eq 5, 3) := by decide +kernel
theorem dX10_add_7 : decode cX10_add 7 = .ok (.iconst (-1), 1) := by decide +kernel
theorem dX10_add_8 : decode cX10_add 8 = .ok (.ireturn, 1) := by decide +kernel
theorem dX10_add_9 : decode cX10_add 9 = .ok (.aload_n 0, 1) := by decide +kernel
theorem dX10_add_10 : decode cX10_add 10 = .ok (.getfield 11, 3) := by decide +kernel
theorem dX10_add_13 : decode cX10_add 13 = .ok (.aload_n 0, 1) := by decide +kernel
theorem dX10_add_14 : decode cX10_add 14 = .ok (.getfield 26, 3) := by decide +kernel
theorem dX10_add_17 : decode cX10_add 17 = .ok (.aaload, 1) := by decide +kernel
theorem dX10_add_18 : decode cX10_add 18 = .ok (.aload_n 1, 1) := by decide +kernel
theorem dX10_add_19 : decode cX10_add 19 = .ok (.invokevirtual 34, 3) := by decide +kernel
theorem dX10_add_22 : decode cX10_add 22 = .ok (.aload_n 0, 1) := by decide +kernel
theorem dX10_add_23 : decode cX10_add 23 = .ok (.getfield 17, 3) := by decide +kernel
theorem dX10_add_26 : decode cX10_add 26 = .ok (.aload_n 0, 1) := by decide +kernel
theorem dX10_add_27 : decode cX10_add 27 = .ok (.getfield 26, 3) := by decide +kernel
theorem dX10_add_30 : decode cX10_add 30 = .ok (.aload_n 1, 1) := by decide +kernel
theorem dX10_add_31 : decode cX10_add 31 = .ok (.aload_n 2, 1) := by decide +kernel
theorem dX10_add_32 : decode cX10_add 32 = .ok (.iconst 0, 1) := by decide +kernel
theorem dX10_add_33 : decode cX10_add 33 = .ok (.invokevirtual 38, 3) := by decide +kernel
theorem dX10_add_36 : decode cX10_add 36 = .ok (.iastore, 1) := by decide +kernel
theorem dX10_add_37 : decode cX10_add 37 = .ok (.aload_n 0, 1) := by decide +kernel
theorem dX10_add_38 : decode cX10_add 38 = .ok (.dup, 1) := by decide +kernel
theorem dX10_add_39 : decode cX10_add 39 = .ok (.getfield 26, 3) := by decide +kernel
theorem dX10_add_42 : decode cX10_add 42 = .ok (.iconst 1, 1) := by decide +kernel
theorem dX10_add_43 : decode cX10_add 43 = .ok (.iadd, 1) := by decide +kernel
theorem dX10_add_44 : decode cX10_add 44 = .ok (.putfield 26, 3) := by decide +kernel
theorem dX10_add_47 : decode cX10_add 47 = .ok (.aload_n 0, 1) := by decide +kernel
theorem dX10_add_48 : decode cX10_add 48 = .ok (.getfield 26, 3) := by decide +kernel
theorem dX10_add_51 : decode cX10_add 51 = .ok (.iconst 1, 1) := by decide +kernel
theorem dX10_add_52 : decode cX10_add 52 = .ok (.isub, 1) := by decide +kernel
theorem dX10_add_53 : decode cX10_add 53 = .ok (.ireturn, 1) := by decide +kernel
theorem dX11_watch_0 : decode cX11_watch 0 = .ok (.iload_n 1, 1) := by decide +kernel
theorem dX11_watch_1 : decode cX11_watch 1 = .ok (.invokestatic 300, 3) := by decide +kernel
theorem dX11_watch_4 : decode cX11_watch 4 = .ok (.aload_n 0, 1) := by decide +kernel
theorem dX11_watch_5 : decode cX11_watch 5 = .ok (.invokevirtual 413, 3) := by decide +kernel
theorem dX11_watch_8 : decode cX11_watch 8 = .ok (.aload_n 0, 1) := by decide +kernel
theorem dX11_watch_9 : decode cX11_watch 9 = .ok (.getfield 79, 3) := by decide +kernel
theorem dX11_watch_12 : decode cX11_watch 12 = .ok (.bipush 103, 2) := by decide +kernel
theorem dX11_watch_14 : decode cX11_watch 14 = .ok (.iconst (-1), 1) := by decide +kernel
theorem dX11_watch_15 : decode cX11_watch 15 = .ok (.iload_n 1, 1) := by decide +kernel
theorem dX11_watch_16 : decode cX11_watch 16 = .ok (.invokevirtual 416, 3) := by decide +kernel
theorem dX11_watch_19 : decode cX11_watch 19 = .ok (.aload_n 0, 1) := by decide +kernel
theorem dX11_watch_20 : decode cX11_watch 20 = .ok (.getfield 37, 3) := by decide +kernel
theorem dX11_watch_23 : decode cX11_watch 23 = .ok (.aload_n 0, 1) := by decide +kernel
theorem dX11_watch_24 : decode cX11_watch 24 = .ok (.getfield 79, 3) := by decide +kernel
theorem dX11_watch_27 : decode cX11_watch 27 = .ok (.aload_n 0, 1) := by decide +kernel
theorem dX11_watch_28 : decode cX11_watch 28 = .ok (.getfield 44, 3) := by decide +kernel
theorem dX11_watch_31 : decode cX11_watch 31 = .ok (.invokevirtual 419, 3) := by decide +kernel
theorem dX11_watch_34 : decode cX11_watch 34 = .ok (.ireturn, 1) := by decide +kernel
theorem dJ5_length_8abf5_0 : decode cJ5_length_8abf5 0 = .ok (.aload_n 0, 1) := by decide +kernel
theorem dJ5_length_8abf5_1 : decode cJ5_length_8abf5 1 = .ok (.getfield 79, 3) := by decide +kernel
theorem dJ5_length_8abf5_4 : decode cJ5_length_8abf5 4 = .ok (.ireturn, 1) := by decide +kernel
theorem dJ4_length_8abf5_0 : decode cJ4_length_8abf5 0 = .ok (.aload_n 0, 1) := by decide +kernel
theorem dJ4_length_8abf5_1 : decode cJ4_length_8abf5 1 = .ok (.invokespecial 343, 3) := by decide +kernel
theorem dJ4_length_8abf5_4 : decode cJ4_length_8abf5 4 = .ok (.ireturn, 1) := by decide +kernel
theorem dX11_shown_0 : decode cX11_shown 0 = .ok (.iload_n 1, 1) := by decide +kernel
theorem dX11_shown_1 : decode cX11_shown 1 = .ok (.aload_n 0, 1) := by decide +kernel
theorem dX11_shown_2 : decode cX11_shown 2 = .ok (.getfield 86, 3) := by decide +kernel
theorem dX11_shown_5 : decode cX11_shown 5 = .ok (.invokevirtual 369, 3) := by decide +kernel
theorem dX11_shown_8 : decode cX11_shown 8 = .ok (.invokestatic 168, 3) := by decide +kernel
theorem dX11_shown_11 : decode cX11_shown 11 = .ok (.ifCond .ne 14, 3) := by decide +kernel
theorem dX11_shown_14 : decode cX11_shown 14 = .ok (.new 223, 3) := by decide +kernel
theorem dX11_shown_17 : decode cX11_shown 17 = .ok (.dup, 1) := by decide +kernel
theorem dX11_shown_18 : decode cX11_shown 18 = .ok (.ldc_w 372, 3) := by decide +kernel
theorem dX11_shown_21 : decode cX11_shown 21 = .ok (.invokespecial 227, 3) := by decide +kernel
theorem dX11_shown_24 : decode cX11_shown 24 = .ok (.athrow, 1) := by decide +kernel
theorem dX11_shown_25 : decode cX11_shown 25 = .ok (.aload_n 0, 1) := by decide +kernel
theorem dX11_shown_26 : decode cX11_shown 26 = .ok (.getfield 86, 3) := by decide +kernel
theorem dX11_shown_29 : decode cX11_shown 29 = .ok (.iload_n 1, 1) := by decide +kernel
theorem dX11_shown_30 : decode cX11_shown 30 = .ok (.invokevirtual 374, 3) := by decide +kernel
theorem dX11_shown_33 : decode cX11_shown 33 = .ok (.ireturn, 1) := by decide +kernel
