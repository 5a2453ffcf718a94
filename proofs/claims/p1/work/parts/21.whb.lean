theorem K945 : (Cond.classLink RL 27 "java/lang/UnsupportedOperationException") ∈ ALL := mAC ch_t4 (i := 149) (by decide +kernel) rfl
theorem K972 : (Cond.castable "java/lang/UnsupportedOperationException" "java/lang/UnsupportedOperationException") ∈ NGS := mNC ch_t4 (i := 176) (by decide +kernel) rfl
