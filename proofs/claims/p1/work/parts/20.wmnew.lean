theorem K2024 : (Cond.methodLink RX15 17 objectInit) ∈ ALL := mAC ch_t9 (i := 28) (by decide +kernel) rfl
theorem K2025 : (Cond.classLink RX15 23 RX14) ∈ ALL := mAC ch_t9 (i := 29) (by decide +kernel) rfl
theorem K2026 : (Cond.instantiable RX14 5) ∈ ALL := mAC ch_t9 (i := 30) (by decide +kernel) rfl
theorem K95 : (Cond.initialized RX14) ∈ ALL := mAC ch_t1 (i := 19) (by decide +kernel) rfl
theorem HD_yX14_init : yX14_init.cls ≠ "java/lang/invoke/MethodHandle" ∧ yX14_init.cls ≠ "java/lang/invoke/VarHandle" ∧ (parseMethodDescriptor yX14_init.desc).map (fun d => d.parameters.length) = some 0 := by decide +kernel
theorem K2029 : (Cond.code yX14_init cX14_init 1 none) ∈ ALL := mAC ch_t9 (i := 33) (by decide +kernel) rfl
theorem GI_K2029 : GoodIn ALL (Cond.code yX14_init cX14_init 1 none :: ALL) := gI K2029
theorem K2027 : (Cond.methodLinkNest RX15 25 yX14_init RX15) ∈ NGS := mNC ch_t9 (i := 31) (by decide +kernel) rfl
theorem K2028 : (Cond.instanceMethod yX14_init) ∈ ALL := mAC ch_t9 (i := 32) (by decide +kernel) rfl
theorem K2081 : (Cond.classLink RX15 30 RJx4a65c) ∈ ALL := mAC ch_t9 (i := 85) (by decide +kernel) rfl
theorem K2082 : (Cond.methodLink RX15 32 yJx4a65c_init_da8c8) ∈ ALL := mAC ch_t9 (i := 86) (by decide +kernel) rfl
theorem K2090 : (Cond.fieldLink RX15 40 "UnwindlensModel" "lines" "[I") ∈ ALL := mAC ch_t9 (i := 94) (by decide +kernel) rfl
theorem K2091 : (Cond.fieldLink RX15 44 "UnwindlensModel" "rules" "[C") ∈ ALL := mAC ch_t9 (i := 95) (by decide +kernel) rfl
theorem K2093 : (Cond.fieldLink RX15 51 "UnwindlensModel" "held" "[Z") ∈ ALL := mAC ch_t9 (i := 97) (by decide +kernel) rfl
theorem K2083 : (Cond.classLink RX15 55 "[[Z") ∈ ALL := mAC ch_t9 (i := 87) (by decide +kernel) rfl
theorem K2094 : (Cond.fieldLink RX15 57 "UnwindlensModel" "marks" "[[Z") ∈ ALL := mAC ch_t9 (i := 98) (by decide +kernel) rfl
theorem K2095 : (Cond.fieldLink RX15 60 "UnwindlensModel" "inlined" "Ljava/util/List;") ∈ ALL := mAC ch_t9 (i := 99) (by decide +kernel) rfl
theorem K2098 : (Cond.fieldLink RX15 69 "UnwindlensModel" "places" "Ljava/util/List;") ∈ ALL := mAC ch_t9 (i := 102) (by decide +kernel) rfl
theorem dX15_init_0 : decode cX15_init 0 = .ok (.aload_n 0, 1) := by decide +kernel
theorem dX15_init_1 : decode cX15_init 1 = .ok (.invokespecial 17, 3) := by decide +kernel
theorem dX15_init_4 : decode cX15_init 4 = .ok (.aload_n 0, 1) := by decide +kernel
theorem dX15_init_5 : decode cX15_init 5 = .ok (.new 23, 3) := by decide +kernel
theorem dX15_init_8 : decode cX15_init 8 = .ok (.dup, 1) := by decide +kernel
theorem dX15_init_9 : decode cX15_init 9 = .ok (.invokespecial 25, 3) := by decide +kernel
theorem dX15_init_12 : decode cX15_init 12 = .ok (.putfield 26, 3) := by decide +kernel
theorem dX15_init_15 : decode cX15_init 15 = .ok (.aload_n 0, 1) := by decide +kernel
theorem dX15_init_16 : decode cX15_init 16 = .ok (.new 30, 3) := by decide +kernel
theorem dX15_init_19 : decode cX15_init 19 = .ok (.dup, 1) := by decide +kernel
theorem dX15_init_20 : decode cX15_init 20 = .ok (.invokespecial 32, 3) := by decide +kernel
theorem dX15_init_23 : decode cX15_init 23 = .ok (.putfield 33, 3) := by decide +kernel
theorem dX15_init_26 : decode cX15_init 26 = .ok (.aload_n 0, 1) := by decide +kernel
theorem dX15_init_27 : decode cX15_init 27 = .ok (.new 30, 3) := by decide +kernel
theorem dX15_init_30 : decode cX15_init 30 = .ok (.dup, 1) := by decide +kernel
theorem dX15_init_31 : decode cX15_init 31 = .ok (.invokespecial 32, 3) := by decide +kernel
theorem dX15_init_34 : decode cX15_init 34 = .ok (.putfield 37, 3) := by decide +kernel
theorem dX15_init_37 : decode cX15_init 37 = .ok (.aload_n 0, 1) := by decide +kernel
theorem dX15_init_38 : decode cX15_init 38 = .ok (.bipush 60, 2) := by decide +kernel
theorem dX15_init_40 : decode cX15_init 40 = .ok (.newarray .int, 2) := by decide +kernel
theorem dX15_init_42 : decode cX15_init 42 = .ok (.putfield 40, 3) := by decide +kernel
theorem dX15_init_45 : decode cX15_init 45 = .ok (.aload_n 0, 1) := by decide +kernel
theorem dX15_init_46 : decode cX15_init 46 = .ok (.bipush 60, 2) := by decide +kernel
theorem dX15_init_48 : decode cX15_init 48 = .ok (.newarray .char, 2) := by decide +kernel
theorem dX15_init_50 : decode cX15_init 50 = .ok (.putfield 44, 3) := by decide +kernel
theorem dX15_init_53 : decode cX15_init 53 = .ok (.aload_n 0, 1) := by decide +kernel
theorem dX15_init_54 : decode cX15_init 54 = .ok (.new 30, 3) := by decide +kernel
theorem dX15_init_57 : decode cX15_init 57 = .ok (.dup, 1) := by decide +kernel
theorem dX15_init_58 : decode cX15_init 58 = .ok (.invokespecial 32, 3) := by decide +kernel
theorem dX15_init_61 : decode cX15_init 61 = .ok (.putfield 48, 3) := by decide +kernel
theorem dX15_init_64 : decode cX15_init 64 = .ok (.aload_n 0, 1) := by decide +kernel
theorem dX15_init_65 : decode cX15_init 65 = .ok (.iconst 3, 1) := by decide +kernel
theorem dX15_init_66 : decode cX15_init 66 = .ok (.newarray .boolean, 2) := by decide +kernel
theorem dX15_init_68 : decode cX15_init 68 = .ok (.putfield 51, 3) := by decide +kernel
theorem dX15_init_71 : decode cX15_init 71 = .ok (.aload_n 0, 1) := by decide +kernel
theorem dX15_init_72 : decode cX15_init 72 = .ok (.iconst 3, 1) := by decide +kernel
theorem dX15_init_73 : decode cX15_init 73 = .ok (.bipush 8, 2) := by decide +kernel
theorem dX15_init_75 : decode cX15_init 75 = .ok (.multianewarray 55 2, 4) := by decide +kernel
theorem dX15_init_79 : decode cX15_init 79 = .ok (.putfield 57, 3) := by decide +kernel
theorem dX15_init_82 : decode cX15_init 82 = .ok (.aload_n 0, 1) := by decide +kernel
theorem dX15_init_83 : decode cX15_init 83 = .ok (.new 30, 3) := by decide +kernel
theorem dX15_init_86 : decode cX15_init 86 = .ok (.dup, 1) := by decide +kernel
theorem dX15_init_87 : decode cX15_init 87 = .ok (.invokespecial 32, 3) := by decide +kernel
theorem dX15_init_90 : decode cX15_init 90 = .ok (.putfield 60, 3) := by decide +kernel
theorem dX15_init_93 : decode cX15_init 93 = .ok (.aload_n 0, 1) := by decide +kernel
theorem dX15_init_94 : decode cX15_init 94 = .ok (.new 30, 3) := by decide +kernel
theorem dX15_init_97 : decode cX15_init 97 = .ok (.dup, 1) := by decide +kernel
theorem dX15_init_98 : decode cX15_init 98 = .ok (.invokespecial 32, 3) := by decide +kernel
theorem dX15_init_101 : decode cX15_init 101 = .ok (.putfield 63, 3) := by decide +kernel
theorem dX15_init_104 : decode cX15_init 104 = .ok (.aload_n 0, 1) := by decide +kernel
theorem dX15_init_105 : decode cX15_init 105 = .ok (.new 30, 3) := by decide +kernel
theorem dX15_init_108 : decode cX15_init 108 = .ok (.dup, 1) := by decide +kernel
theorem dX15_init_109 : decode cX15_init 109 = .ok (.invokespecial 32, 3) := by decide +kernel
theorem dX15_init_112 : decode cX15_init 112 = .ok (.putfield 66, 3) := by decide +kernel
theorem dX15_init_115 : decode cX15_init 115 = .ok (.aload_n 0, 1) := by decide +kernel
theorem dX15_init_116 : decode cX15_init 116 = .ok (.new 30, 3) := by decide +kernel
theorem dX15_init_119 : decode cX15_init 119 = .ok (.dup, 1) := by decide +kernel
theorem dX15_init_120 : decode cX15_init 120 = .ok (.invokespecial 32, 3) := by decide +kernel
theorem dX15_init_123 : decode cX15_init 123 = .ok (.putfield 69, 3) := by decide +kernel
theorem dX15_init_126 : decode cX15_init 126 = .ok (.aload_n 0, 1) := by decide +kernel
theorem dX15_init_127 : decode cX15_init 127 = .ok (.ldc 72, 2) := by decide +kernel
theorem dX15_init_129 : decode cX15_init 129 = .ok (.putfield 74, 3) := by decide +kernel
theorem dX15_init_132 : decode cX15_init 132 = .ok (.aload_n 0, 1) := by decide +kernel
theorem dX15_init_133 : decode cX15_init 133 = .ok (.new 30, 3) := by decide +kernel
theorem dX15_init_136 : decode cX15_init 136 = .ok (.dup, 1) := by decide +kernel
theorem dX15_init_137 : decode cX15_init 137 = .ok (.invokespecial 32, 3) := by decide +kernel
theorem dX15_init_140 : decode cX15_init 140 = .ok (.putfield 78, 3) := by decide +kernel
theorem dX15_init_143 : decode cX15_init 143 = .ok (.aload_n 0, 1) := by decide +kernel
theorem dX15_init_144 : decode cX15_init 144 = .ok (.new 30, 3) := by decide +kernel
theorem dX15_init_147 : decode cX15_init 147 = .ok (.dup, 1) := by decide +kernel
theorem dX15_init_148 : decode cX15_init 148 = .ok (.invokespecial 32, 3) := by decide +kernel
theorem dX15_init_151 : decode cX15_init 151 = .ok (.putfield 81, 3) := by decide +kernel
theorem dX15_init_154 : decode cX15_init 154 = .ok (.aload_n 0, 1) := by decide +kernel
theorem dX15_init_155 : decode cX15_init 155 = .ok (.bipush 45, 2) := by decide +kernel
theorem dX15_init_157 : decode cX15_init 157 = .ok (.putfield 84, 3) := by decide +kernel
theorem dX15_init_160 : decode cX15_init 160 = .ok (.aload_n 0, 1) := by decide +kernel
theorem dX15_init_161 : decode cX15_init 161 = .ok (.iconst (-1), 1) := by decide +kernel
theorem dX15_init_162 : decode cX15_init 162 = .ok (.putfield 88, 3) := by decide +kernel
theorem dX15_init_165 : decode cX15_init 165 = .ok (.iconst 0, 1) := by decide +kernel
theorem dX15_init_166 : decode cX15_init 166 = .ok (.istore_n 1, 1) := by decide +kernel
theorem dX15_init_167 : decode cX15_init 167 = .ok (.iload_n 1, 1) := by decide +kernel
theorem dX15_init_168 : decode cX15_init 168 = .ok (.bipush 60, 2) := by decide +kernel
theorem dX15_init_170 : decode cX15_init 170 = .ok (.if_icmp .ge 24, 3) := by decide +kernel
theorem dX15_init_173 : decode cX15_init 173 = .ok (.aload_n 0, 1) := by decide +kernel
theorem dX15_init_174 : decode cX15_init 174 = .ok (.getfield 40, 3) := by decide +kernel
theorem dX15_init_177 : decode cX15_init 177 = .ok (.iload_n 1, 1) := by decide +kernel
theorem dX15_init_178 : decode cX15_init 178 = .ok (.iconst (-1), 1) := by decide +kernel
theorem dX15_init_179 : decode cX15_init 179 = .ok (.iastore, 1) := by decide +kernel
theorem dX15_init_180 : decode cX15_init 180 = .ok (.aload_n 0, 1) := by decide +kernel
theorem dX15_init_181 : decode cX15_init 181 = .ok (.getfield 44, 3) := by decide +kernel
theorem dX15_init_184 : decode cX15_init 184 = .ok (.iload_n 1, 1) := by decide +kernel
theorem dX15_init_185 : decode cX15_init 185 = .ok (.bipush 45, 2) := by decide +kernel
theorem dX15_init_187 : decode cX15_init 187 = .ok (.castore, 1) := by decide +kernel
theorem dX15_init_188 : decode cX15_init 188 = .ok (.iinc 1 1, 3) := by decide +kernel
theorem dX15_init_191 : decode cX15_init 191 = .ok (.goto (-24), 3) := by decide +kernel
theorem dX15_init_194 : decode cX15_init 194 = .ok (.return_, 1) := by decide +kernel
