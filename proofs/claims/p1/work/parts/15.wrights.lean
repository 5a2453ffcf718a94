theorem HD_yJ0_indexOf_0f7a4 : yJ0_indexOf_0f7a4.cls ≠ "java/lang/invoke/MethodHandle" ∧ yJ0_indexOf_0f7a4.cls ≠ "java/lang/invoke/VarHandle" ∧ (parseMethodDescriptor yJ0_indexOf_0f7a4.desc).map (fun d => d.parameters.length) = some 1 := by decide +kernel
theorem K2156 : (Cond.code yJ0_indexOf_0f7a4 cJ0_indexOf_0f7a4 2 (some .int)) ∈ ALL := mAC ch_t9 (i := 160) (by decide +kernel) rfl
theorem K2153 : (Cond.methodLink RX15 104 yJ0_indexOf_0f7a4) ∈ ALL := mAC ch_t9 (i := 157) (by decide +kernel) rfl
theorem K2154 : (Cond.instanceMethod yJ0_indexOf_0f7a4) ∈ ALL := mAC ch_t9 (i := 158) (by decide +kernel) rfl
theorem K2155 : (Cond.selects RJ0 yJ0_indexOf_0f7a4 yJ0_indexOf_0f7a4) ∈ ALL := mAC ch_t9 (i := 159) (by decide +kernel) rfl
theorem GV_RX15_104 : GoodIn ALL (wsV RX15 104 RJ0 yJ0_indexOf_0f7a4 (Cond.code yJ0_indexOf_0f7a4 cJ0_indexOf_0f7a4 2 (some .int) :: ALL)) := gV K2153 K2154 K2155 K92 K2156
theorem K2204 : (Cond.constantLong RX15 112 3) ∈ ALL := mAC ch_t9 (i := 208) (by decide +kernel) rfl
theorem K2209 : (Cond.constantLong RX15 116 15) ∈ ALL := mAC ch_t9 (i := 213) (by decide +kernel) rfl
theorem K2210 : (Cond.constantLong RX15 118 59) ∈ ALL := mAC ch_t9 (i := 214) (by decide +kernel) rfl
theorem K2211 : (Cond.constantLong RX15 120 5) ∈ ALL := mAC ch_t9 (i := 215) (by decide +kernel) rfl
theorem K2212 : (Cond.constantLong RX15 122 4) ∈ ALL := mAC ch_t9 (i := 216) (by decide +kernel) rfl
theorem dX15_right_0 : decode cX15_right 0 = .ok (.ldc 102, 2) := by decide +kernel
theorem dX15_right_2 : decode cX15_right 2 = .ok (.iload_n 0, 1) := by decide +kernel
theorem dX15_right_3 : decode cX15_right 3 = .ok (.invokevirtual 104, 3) := by decide +kernel
theorem dX15_right_6 : decode cX15_right 6 = .ok (.ifCond .lt 7, 3) := by decide +kernel
theorem dX15_right_9 : decode cX15_right 9 = .ok (.iconst 1, 1) := by decide +kernel
theorem dX15_right_10 : decode cX15_right 10 = .ok (.goto 4, 3) := by decide +kernel
theorem dX15_right_13 : decode cX15_right 13 = .ok (.iconst 0, 1) := by decide +kernel
theorem dX15_right_14 : decode cX15_right 14 = .ok (.istore_n 3, 1) := by decide +kernel
theorem dX15_right_15 : decode cX15_right 15 = .ok (.ldc 110, 2) := by decide +kernel
theorem dX15_right_17 : decode cX15_right 17 = .ok (.iload_n 0, 1) := by decide +kernel
theorem dX15_right_18 : decode cX15_right 18 = .ok (.invokevirtual 104, 3) := by decide +kernel
theorem dX15_right_21 : decode cX15_right 21 = .ok (.ifCond .lt 15, 3) := by decide +kernel
theorem dX15_right_24 : decode cX15_right 24 = .ok (.iload_n 1, 1) := by decide +kernel
theorem dX15_right_25 : decode cX15_right 25 = .ok (.i2l, 1) := by decide +kernel
theorem dX15_right_26 : decode cX15_right 26 = .ok (.lconst 0, 1) := by decide +kernel
theorem dX15_right_27 : decode cX15_right 27 = .ok (.ldc2_w 112, 3) := by decide +kernel
theorem dX15_right_30 : decode cX15_right 30 = .ok (.invokestatic 13, 3) := by decide +kernel
theorem dX15_right_33 : decode cX15_right 33 = .ok (.ifCond .eq 7, 3) := by decide +kernel
theorem dX15_right_36 : decode cX15_right 36 = .ok (.iconst 1, 1) := by decide +kernel
theorem dX15_right_37 : decode cX15_right 37 = .ok (.goto 4, 3) := by decide +kernel
theorem dX15_right_40 : decode cX15_right 40 = .ok (.iconst 0, 1) := by decide +kernel
theorem dX15_right_41 : decode cX15_right 41 = .ok (.istore 4, 2) := by decide +kernel
theorem dX15_right_43 : decode cX15_right 43 = .ok (.ldc 114, 2) := by decide +kernel
theorem dX15_right_45 : decode cX15_right 45 = .ok (.iload_n 0, 1) := by decide +kernel
theorem dX15_right_46 : decode cX15_right 46 = .ok (.invokevirtual 104, 3) := by decide +kernel
theorem dX15_right_49 : decode cX15_right 49 = .ok (.ifCond .lt 15, 3) := by decide +kernel
theorem dX15_right_52 : decode cX15_right 52 = .ok (.iload_n 2, 1) := by decide +kernel
theorem dX15_right_53 : decode cX15_right 53 = .ok (.i2l, 1) := by decide +kernel
theorem dX15_right_54 : decode cX15_right 54 = .ok (.lconst 0, 1) := by decide +kernel
theorem dX15_right_55 : decode cX15_right 55 = .ok (.ldc2_w 112, 3) := by decide +kernel
theorem dX15_right_58 : decode cX15_right 58 = .ok (.invokestatic 13, 3) := by decide +kernel
theorem dX15_right_61 : decode cX15_right 61 = .ok (.goto 86, 3) := by decide +kernel
theorem dX15_right_64 : decode cX15_right 64 = .ok (.iload_n 0, 1) := by decide +kernel
theorem dX15_right_65 : decode cX15_right 65 = .ok (.bipush 103, 2) := by decide +kernel
theorem dX15_right_67 : decode cX15_right 67 = .ok (.if_icmp .eq 9, 3) := by decide +kernel
theorem dX15_right_70 : decode cX15_right 70 = .ok (.iload_n 0, 1) := by decide +kernel
theorem dX15_right_71 : decode cX15_right 71 = .ok (.bipush 112, 2) := by decide +kernel
theorem dX15_right_73 : decode cX15_right 73 = .ok (.if_icmp .ne 15, 3) := by decide +kernel
theorem dX15_right_76 : decode cX15_right 76 = .ok (.iload_n 2, 1) := by decide +kernel
theorem dX15_right_77 : decode cX15_right 77 = .ok (.i2l, 1) := by decide +kernel
theorem dX15_right_78 : decode cX15_right 78 = .ok (.lconst 0, 1) := by decide +kernel
theorem dX15_right_79 : decode cX15_right 79 = .ok (.ldc2_w 116, 3) := by decide +kernel
theorem dX15_right_82 : decode cX15_right 82 = .ok (.invokestatic 13, 3) := by decide +kernel
theorem dX15_right_85 : decode cX15_right 85 = .ok (.goto 62, 3) := by decide +kernel
theorem dX15_right_88 : decode cX15_right 88 = .ok (.iload_n 0, 1) := by decide +kernel
theorem dX15_right_89 : decode cX15_right 89 = .ok (.bipush 106, 2) := by decide +kernel
theorem dX15_right_91 : decode cX15_right 91 = .ok (.if_icmp .ne 15, 3) := by decide +kernel
theorem dX15_right_94 : decode cX15_right 94 = .ok (.iload_n 2, 1) := by decide +kernel
theorem dX15_right_95 : decode cX15_right 95 = .ok (.i2l, 1) := by decide +kernel
theorem dX15_right_96 : decode cX15_right 96 = .ok (.lconst 0, 1) := by decide +kernel
theorem dX15_right_97 : decode cX15_right 97 = .ok (.ldc2_w 118, 3) := by decide +kernel
theorem dX15_right_100 : decode cX15_right 100 = .ok (.invokestatic 13, 3) := by decide +kernel
theorem dX15_right_103 : decode cX15_right 103 = .ok (.goto 44, 3) := by decide +kernel
theorem dX15_right_106 : decode cX15_right 106 = .ok (.iload_n 0, 1) := by decide +kernel
theorem dX15_right_107 : decode cX15_right 107 = .ok (.bipush 107, 2) := by decide +kernel
theorem dX15_right_109 : decode cX15_right 109 = .ok (.if_icmp .ne 15, 3) := by decide +kernel
theorem dX15_right_112 : decode cX15_right 112 = .ok (.iload_n 2, 1) := by decide +kernel
theorem dX15_right_113 : decode cX15_right 113 = .ok (.i2l, 1) := by decide +kernel
theorem dX15_right_114 : decode cX15_right 114 = .ok (.lconst 0, 1) := by decide +kernel
theorem dX15_right_115 : decode cX15_right 115 = .ok (.ldc2_w 120, 3) := by decide +kernel
theorem dX15_right_118 : decode cX15_right 118 = .ok (.invokestatic 13, 3) := by decide +kernel
theorem dX15_right_121 : decode cX15_right 121 = .ok (.goto 26, 3) := by decide +kernel
theorem dX15_right_124 : decode cX15_right 124 = .ok (.iload_n 0, 1) := by decide +kernel
theorem dX15_right_125 : decode cX15_right 125 = .ok (.bipush 101, 2) := by decide +kernel
theorem dX15_right_127 : decode cX15_right 127 = .ok (.if_icmp .ne 15, 3) := by decide +kernel
theorem dX15_right_130 : decode cX15_right 130 = .ok (.iload_n 2, 1) := by decide +kernel
theorem dX15_right_131 : decode cX15_right 131 = .ok (.i2l, 1) := by decide +kernel
theorem dX15_right_132 : decode cX15_right 132 = .ok (.lconst 0, 1) := by decide +kernel
theorem dX15_right_133 : decode cX15_right 133 = .ok (.ldc2_w 122, 3) := by decide +kernel
theorem dX15_right_136 : decode cX15_right 136 = .ok (.invokestatic 13, 3) := by decide +kernel
theorem dX15_right_139 : decode cX15_right 139 = .ok (.ifCond .eq 7, 3) := by decide +kernel
theorem dX15_right_142 : decode cX15_right 142 = .ok (.iconst 1, 1) := by decide +kernel
theorem dX15_right_143 : decode cX15_right 143 = .ok (.goto 4, 3) := by decide +kernel
theorem dX15_right_146 : decode cX15_right 146 = .ok (.iconst 0, 1) := by decide +kernel
theorem dX15_right_147 : decode cX15_right 147 = .ok (.istore 5, 2) := by decide +kernel
theorem dX15_right_149 : decode cX15_right 149 = .ok (.iload_n 3, 1) := by decide +kernel
theorem dX15_right_150 : decode cX15_right 150 = .ok (.ifCond .eq 17, 3) := by decide +kernel
theorem dX15_right_153 : decode cX15_right 153 = .ok (.iload 4, 2) := by decide +kernel
theorem dX15_right_155 : decode cX15_right 155 = .ok (.ifCond .eq 12, 3) := by decide +kernel
theorem dX15_right_158 : decode cX15_right 158 = .ok (.iload 5, 2) := by decide +kernel
theorem dX15_right_160 : decode cX15_right 160 = .ok (.ifCond .eq 7, 3) := by decide +kernel
theorem dX15_right_163 : decode cX15_right 163 = .ok (.iconst 1, 1) := by decide +kernel
theorem dX15_right_164 : decode cX15_right 164 = .ok (.goto 4, 3) := by decide +kernel
theorem dX15_right_167 : decode cX15_right 167 = .ok (.iconst 0, 1) := by decide +kernel
theorem dX15_right_168 : decode cX15_right 168 = .ok (.ireturn, 1) := by decide +kernel
