/-! the words of the walk: strings, kinds of arrays, what a place in the walk knows of the start -/
def STRX : List (String × Nat × String) := [("Unwindlens", 108, "there are 60 instructions"), ("Unwindlens", 158, "not apart from a function, or a part of an inlined call"), ("Unwindlens", 162, "there are 6 functions"), ("Unwindlens", 173, "no such line"), ("Unwindlens", 183, "no such rule"), ("Unwindlens", 207, "partly in something, or told already"), ("Unwindlens", 209, "there are 6 inlined calls"), ("Unwindlens", 215, "partly in a scope or an inlined call"), ("Unwindlens", 217, "there are 12 scopes"), ("Unwindlens", 225, "no such scope"), ("Unwindlens", 232, "no such kind"), ("Unwindlens", 234, "no such number of words"), ("Unwindlens", 237, "there are 20 variables"), ("Unwindlens", 246, "no such variable"), ("Unwindlens", 252, "no such kind, or the number is out of range"), ("Unwindlens", 257, "there are 24 rows"), ("Unwindlens", 264, "there are 3 threads"), ("Unwindlens", 289, "no fault"), ("Unwindlens", 295, "no such register"), ("Unwindlens", 338, "no such thing"), ("Unwindlens", 361, "gone"), ("Unwindlens", 372, "no such sign"), ("Unwindlens", 387, "the line begins nowhere"), ("Unwindlens", 399, "no small letter"), ("Unwindlens", 408, "the number is out of range"), ("Unwindlens", 425, "in no slots or cells"), ("Unwindlens", 443, "no such way"), ("Unwindlens", 448, "not ready, or held"), ("Unwindlens", 464, "no breakpoint and no watch ended it"), ("Unwindlens", 467, "so many steps are not kept"), ("Unwindlens", 475, "no such time is kept"), ("Unwindlens", 480, "a number itself"), ("Unwindlens", 486, "the thread is not ready"), ("Unwindlens", 495, "the function does not return"), ("Unwindlens", 502, "no threads"), ("Unwindlens", 526, "no such kind, or a number is out of range"), ("Unwindlens", 528, "the last place is ahead of the first one"), ("Unwindlens", 530, "no such name"), ("Unwindlens", 532, "no such cell"), ("Unwindlens", 537, "no such place"), ("Unwindlens", 539, "no such function"), ("Unwindlens", 541, "no such thread"), ("Unwindlens", 546, "no such breakpoint"), ("Unwindlens", 549, "there are 8 breakpoints"), ("Unwindlens", 552, "there are 4 watches"), ("Unwindlens", 558, "no such frame"), ("Unwindlens", 566, "no such word"), ("Unwindlens", 568, "it is gone"), ("Unwindlens", 584, ", "), ("Unwindlens", 589, "true"), ("Unwindlens", 591, "false"), ("UnwindlensModel", 72, ""), ("UnwindlensModel", 102, "ncm+-*lgspjkexrh"), ("UnwindlensModel", 110, "cm+-*lgspj"), ("UnwindlensModel", 114, "m+-*ls"), ("UnwindlensModel", 193, "io-"), ("UnwindlensModel", 210, "ibc"), ("UnwindlensModel", 300, "fplib"), ("UnwindlensModel", 323, "true"), ("UnwindlensModel", 325, "false"), ("UnwindlensModel", 334, "'"), ("UnwindlensModel", 350, "gone"), ("UnwindlensModel", 352, "{"), ("UnwindlensModel", 354, ", "), ("UnwindlensModel", 360, "}"), ("UnwindlensModel", 382, "<=>"), ("UnwindlensModel", 423, "iou")]
abbrev TY (cy : Nat → ClassId) : List (ClassId × FieldType) := [(cy 0, .int), (cy 1, .char), (cy 2, .boolean), (cy 3, .long), (cy 4, .double), (cy 5, .object "Unwindlens$Task"), (cy 6, .object "Unwindlens$Spot"), (cy 7, .object "java/lang/Object"), (cy 8, .byte)]
def EX (sa : Nat → Nat) : zE := fun A U H => NGU U ∧ SK STRX sa U ∧ (va_AO "Unwindlens$Spot" U ∧ va_AO "Unwindlens$Task" U) ∧ vx_Zq Bundle.tN "UNASSIGNED_STACK" Bundle.steD A U H ∧ vx_Zq Bundle.tN "SUPPRESSED_SENTINEL" Bundle.listD A U H ∧ va_Z "java/lang/String" "COMPACT_STRINGS" "Z" (.int 1) A U H
theorem EX_ok {sa : Nat → Nat} : zOK (EX sa) := fun A B s U H hW h hAB hk => by
  obtain ⟨h1, h2, ⟨h3, h4⟩, h5, h6, h7⟩ := h
  exact ⟨h1.warm hW, h2.warm hW, ⟨va_AO.moved hW.alike h3, va_AO.moved hW.alike h4⟩, vx_Zq.moved hW.alike ((h5.kept hk).narrow hAB), vx_Zq.moved hW.alike ((h6.kept hk).narrow hAB), va_Z.moved hW.alike ((h7.kept hk).narrow hAB)⟩
theorem gV {own : String} {idx : Nat} {C : String} {y : MethodName} {cc : ByteArray} {n : Nat} {ret : Option FieldType} (h1 : Cond.methodLink own idx y ∈ ALL) (h2 : Cond.instanceMethod y ∈ ALL) (h3 : Cond.selects C y y ∈ ALL) (h4 : Cond.initialized C ∈ ALL) (h5 : Cond.code y cc n ret ∈ ALL) : GoodIn ALL (wsV own idx C y (Cond.code y cc n ret :: ALL)) := by
  refine gA (fun w h => ?_)
  simp only [wsV, List.cons_append, List.nil_append, List.mem_cons] at h
  rcases h with rfl | rfl | rfl | rfl | rfl | h
  · exact h1
  · exact h2
  · exact h3
  · exact h4
  · exact h5
  · exact h
theorem gI {y : MethodName} {cc : ByteArray} {n : Nat} {ret : Option FieldType} (h5 : Cond.code y cc n ret ∈ ALL) : GoodIn ALL (Cond.code y cc n ret :: ALL) := gA (fun w h => by
  rcases List.mem_cons.mp h with rfl | h
  · exact h5
  · exact h)
theorem gS {own : String} {idx : Nat} {y : MethodName} {w0 : Cond} (h1 : Cond.methodLink own idx y ∈ ALL) (h2 : Cond.static y ∈ ALL) (h3 : Cond.initialized y.cls ∈ ALL) (h5 : w0 ∈ ALL) : GoodIn ALL (va_wsS own idx y (w0 :: ALL)) := by
  refine gA (fun w h => ?_)
  simp only [va_wsS, List.cons_append, List.nil_append, List.mem_cons] at h
  rcases h with rfl | rfl | rfl | rfl | h
  · exact h1
  · exact h2
  · exact h3
  · exact h5
  · exact h
theorem ngw_tab {w : Cond} (h : ngw w = true) : w.onTables = true := by
  cases w with
  | fieldLinkNest a i b n d hh => rfl
  | methodLinkNest a i x hh => rfl
  | castable C T => rfl
  | declares x => rfl
  | _ => exact absurd h (by simp [ngw])
theorem atE {args : Array Value} {s : State} {w : Cond} (hts : ∀ w ∈ ALL, w.before args s = true) (hN : NGU s) (h : w ∈ lw_tbl ∧ (goodWord w || ngw w) = true) : w.before args s = true := by
  rcases Bool.or_eq_true _ _ ▸ h.2 with g | g
  · exact hts w (List.mem_filter.mpr ⟨h.1, g⟩)
  · exact va_Nw.use (ngw_tab g) (hN w (List.mem_filter.mpr ⟨h.1, g⟩))
theorem mAC {L : List Cond} (hL : ∀ w ∈ L, w ∈ lw_tbl) {i : Nat} {w : Cond} (h : L[i]? = some w) (g : goodWord w = true) : w ∈ ALL := List.mem_filter.mpr ⟨hL w (List.mem_of_getElem? h), g⟩
theorem mNC {L : List Cond} (hL : ∀ w ∈ L, w ∈ lw_tbl) {i : Nat} {w : Cond} (h : L[i]? = some w) (g : ngw w = true) : w ∈ NGS := List.mem_filter.mpr ⟨hL w (List.mem_of_getElem? h), g⟩
theorem ch_sel : ∀ w ∈ k2_sels lw_privs, w ∈ lw_tbl := fun w h => List.mem_append_left _ h
theorem ch_tb : ∀ w ∈ tables_1, w ∈ lw_tbl := fun w h => List.mem_append_right _ h
theorem ch_t1 : ∀ w ∈ tables_1_1, w ∈ lw_tbl := fun w h => ch_tb w (by unfold tables_1; exact List.mem_append_left _ h)
theorem ch_t2 : ∀ w ∈ tables_1_2, w ∈ lw_tbl := fun w h => ch_tb w (by unfold tables_1; exact List.mem_append_right _ (List.mem_append_left _ h))
theorem ch_t3 : ∀ w ∈ tables_1_3, w ∈ lw_tbl := fun w h => ch_tb w (by unfold tables_1; exact List.mem_append_right _ (List.mem_append_right _ (List.mem_append_left _ h)))
theorem ch_t4 : ∀ w ∈ tables_1_4, w ∈ lw_tbl := fun w h => ch_tb w (by unfold tables_1; exact List.mem_append_right _ (List.mem_append_right _ (List.mem_append_right _ (List.mem_append_left _ h))))
theorem ch_t5 : ∀ w ∈ tables_1_5, w ∈ lw_tbl := fun w h => ch_tb w (by unfold tables_1; exact List.mem_append_right _ (List.mem_append_right _ (List.mem_append_right _ (List.mem_append_right _ (List.mem_append_left _ h)))))
theorem ch_t6 : ∀ w ∈ tables_1_6, w ∈ lw_tbl := fun w h => ch_tb w (by unfold tables_1; exact List.mem_append_right _ (List.mem_append_right _ (List.mem_append_right _ (List.mem_append_right _ (List.mem_append_right _ (List.mem_append_left _ h))))))
theorem ch_t7 : ∀ w ∈ tables_1_7, w ∈ lw_tbl := fun w h => ch_tb w (by unfold tables_1; exact List.mem_append_right _ (List.mem_append_right _ (List.mem_append_right _ (List.mem_append_right _ (List.mem_append_right _ (List.mem_append_right _ (List.mem_append_left _ h)))))))
theorem ch_t8 : ∀ w ∈ tables_1_8, w ∈ lw_tbl := fun w h => ch_tb w (by unfold tables_1; exact List.mem_append_right _ (List.mem_append_right _ (List.mem_append_right _ (List.mem_append_right _ (List.mem_append_right _ (List.mem_append_right _ (List.mem_append_right _ (List.mem_append_left _ h))))))))
theorem ch_t9 : ∀ w ∈ tables_1_9, w ∈ lw_tbl := fun w h => ch_tb w (by unfold tables_1; exact List.mem_append_right _ (List.mem_append_right _ (List.mem_append_right _ (List.mem_append_right _ (List.mem_append_right _ (List.mem_append_right _ (List.mem_append_right _ (List.mem_append_right _ (List.mem_append_left _ h)))))))))
theorem ch_t10 : ∀ w ∈ tables_1_10, w ∈ lw_tbl := fun w h => ch_tb w (by unfold tables_1; exact List.mem_append_right _ (List.mem_append_right _ (List.mem_append_right _ (List.mem_append_right _ (List.mem_append_right _ (List.mem_append_right _ (List.mem_append_right _ (List.mem_append_right _ (List.mem_append_right _ (List.mem_append_left _ h))))))))))
theorem ch_t11 : ∀ w ∈ tables_1_11, w ∈ lw_tbl := fun w h => ch_tb w (by unfold tables_1; exact List.mem_append_right _ (List.mem_append_right _ (List.mem_append_right _ (List.mem_append_right _ (List.mem_append_right _ (List.mem_append_right _ (List.mem_append_right _ (List.mem_append_right _ (List.mem_append_right _ (List.mem_append_right _ (List.mem_append_left _ h)))))))))))
theorem ch_t12 : ∀ w ∈ tables_1_12, w ∈ lw_tbl := fun w h => ch_tb w (by unfold tables_1; exact List.mem_append_right _ (List.mem_append_right _ (List.mem_append_right _ (List.mem_append_right _ (List.mem_append_right _ (List.mem_append_right _ (List.mem_append_right _ (List.mem_append_right _ (List.mem_append_right _ (List.mem_append_right _ (List.mem_append_right _ (h))))))))))))
def bl (n lim : Int32) : Int32 := if n < 0 then 0 else if lim ≤ n then 0 else 1
theorem nlt_le {a b : Int32} (h : ¬ a < b) : b ≤ a := by
  simp only [Int32.lt_iff_toInt_lt, Int32.le_iff_toInt_le] at *
  omega
theorem inJ4 : ∀ w ∈ u_ws RJ4 TJ4 4, w ∈ ALL := fun w h => List.mem_filter.mpr ⟨(by decide +kernel : ∀ w ∈ u_ws RJ4 TJ4 4, w ∈ lw_tbl) w h, (by decide +kernel : ∀ w ∈ u_ws RJ4 TJ4 4, goodWord w = true) w h⟩
theorem inJx35411 : ∀ w ∈ u_ws RJx35411 TJx35411 4, w ∈ ALL := fun w h => List.mem_filter.mpr ⟨(by decide +kernel : ∀ w ∈ u_ws RJx35411 TJx35411 4, w ∈ lw_tbl) w h, (by decide +kernel : ∀ w ∈ u_ws RJx35411 TJx35411 4, goodWord w = true) w h⟩
theorem inJx4a65c : ∀ w ∈ u_ws RJx4a65c TJx4a65c 3, w ∈ ALL := fun w h => List.mem_filter.mpr ⟨(by decide +kernel : ∀ w ∈ u_ws RJx4a65c TJx4a65c 3, w ∈ lw_tbl) w h, (by decide +kernel : ∀ w ∈ u_ws RJx4a65c TJx4a65c 3, goodWord w = true) w h⟩
theorem inX0 : ∀ w ∈ u_ws RX0 TX0 13, w ∈ ALL := fun w h => List.mem_filter.mpr ⟨(by decide +kernel : ∀ w ∈ u_ws RX0 TX0 13, w ∈ lw_tbl) w h, (by decide +kernel : ∀ w ∈ u_ws RX0 TX0 13, goodWord w = true) w h⟩
theorem inX1 : ∀ w ∈ u_ws RX1 TX1 4, w ∈ ALL := fun w h => List.mem_filter.mpr ⟨(by decide +kernel : ∀ w ∈ u_ws RX1 TX1 4, w ∈ lw_tbl) w h, (by decide +kernel : ∀ w ∈ u_ws RX1 TX1 4, goodWord w = true) w h⟩
theorem inX2 : ∀ w ∈ u_ws RX2 TX2 11, w ∈ ALL := fun w h => List.mem_filter.mpr ⟨(by decide +kernel : ∀ w ∈ u_ws RX2 TX2 11, w ∈ lw_tbl) w h, (by decide +kernel : ∀ w ∈ u_ws RX2 TX2 11, goodWord w = true) w h⟩
theorem inX3 : ∀ w ∈ u_ws RX3 TX3 10, w ∈ ALL := fun w h => List.mem_filter.mpr ⟨(by decide +kernel : ∀ w ∈ u_ws RX3 TX3 10, w ∈ lw_tbl) w h, (by decide +kernel : ∀ w ∈ u_ws RX3 TX3 10, goodWord w = true) w h⟩
theorem inX4 : ∀ w ∈ u_ws RX4 TX4 3, w ∈ ALL := fun w h => List.mem_filter.mpr ⟨(by decide +kernel : ∀ w ∈ u_ws RX4 TX4 3, w ∈ lw_tbl) w h, (by decide +kernel : ∀ w ∈ u_ws RX4 TX4 3, goodWord w = true) w h⟩
theorem inX5 : ∀ w ∈ u_ws RX5 TX5 3, w ∈ ALL := fun w h => List.mem_filter.mpr ⟨(by decide +kernel : ∀ w ∈ u_ws RX5 TX5 3, w ∈ lw_tbl) w h, (by decide +kernel : ∀ w ∈ u_ws RX5 TX5 3, goodWord w = true) w h⟩
theorem inX6 : ∀ w ∈ u_ws RX6 TX6 5, w ∈ ALL := fun w h => List.mem_filter.mpr ⟨(by decide +kernel : ∀ w ∈ u_ws RX6 TX6 5, w ∈ lw_tbl) w h, (by decide +kernel : ∀ w ∈ u_ws RX6 TX6 5, goodWord w = true) w h⟩
theorem inX7 : ∀ w ∈ u_ws RX7 TX7 7, w ∈ ALL := fun w h => List.mem_filter.mpr ⟨(by decide +kernel : ∀ w ∈ u_ws RX7 TX7 7, w ∈ lw_tbl) w h, (by decide +kernel : ∀ w ∈ u_ws RX7 TX7 7, goodWord w = true) w h⟩
theorem inX8 : ∀ w ∈ u_ws RX8 TX8 5, w ∈ ALL := fun w h => List.mem_filter.mpr ⟨(by decide +kernel : ∀ w ∈ u_ws RX8 TX8 5, w ∈ lw_tbl) w h, (by decide +kernel : ∀ w ∈ u_ws RX8 TX8 5, goodWord w = true) w h⟩
theorem inX9 : ∀ w ∈ u_ws RX9 TX9 7, w ∈ ALL := fun w h => List.mem_filter.mpr ⟨(by decide +kernel : ∀ w ∈ u_ws RX9 TX9 7, w ∈ lw_tbl) w h, (by decide +kernel : ∀ w ∈ u_ws RX9 TX9 7, goodWord w = true) w h⟩
theorem inX10 : ∀ w ∈ u_ws RX10 TX10 4, w ∈ ALL := fun w h => List.mem_filter.mpr ⟨(by decide +kernel : ∀ w ∈ u_ws RX10 TX10 4, w ∈ lw_tbl) w h, (by decide +kernel : ∀ w ∈ u_ws RX10 TX10 4, goodWord w = true) w h⟩
theorem inX11 : ∀ w ∈ u_ws RX11 TX11 14, w ∈ ALL := fun w h => List.mem_filter.mpr ⟨(by decide +kernel : ∀ w ∈ u_ws RX11 TX11 14, w ∈ lw_tbl) w h, (by decide +kernel : ∀ w ∈ u_ws RX11 TX11 14, goodWord w = true) w h⟩
theorem inX12 : ∀ w ∈ u_ws RX12 TX12 7, w ∈ ALL := fun w h => List.mem_filter.mpr ⟨(by decide +kernel : ∀ w ∈ u_ws RX12 TX12 7, w ∈ lw_tbl) w h, (by decide +kernel : ∀ w ∈ u_ws RX12 TX12 7, goodWord w = true) w h⟩
theorem inX13 : ∀ w ∈ u_ws RX13 TX13 7, w ∈ ALL := fun w h => List.mem_filter.mpr ⟨(by decide +kernel : ∀ w ∈ u_ws RX13 TX13 7, w ∈ lw_tbl) w h, (by decide +kernel : ∀ w ∈ u_ws RX13 TX13 7, goodWord w = true) w h⟩
theorem inX14 : ∀ w ∈ u_ws RX14 TX14 5, w ∈ ALL := fun w h => List.mem_filter.mpr ⟨(by decide +kernel : ∀ w ∈ u_ws RX14 TX14 5, w ∈ lw_tbl) w h, (by decide +kernel : ∀ w ∈ u_ws RX14 TX14 5, goodWord w = true) w h⟩
theorem inX15 : ∀ w ∈ u_ws RX15 TX15 18, w ∈ ALL := fun w h => List.mem_filter.mpr ⟨(by decide +kernel : ∀ w ∈ u_ws RX15 TX15 18, w ∈ lw_tbl) w h, (by decide +kernel : ∀ w ∈ u_ws RX15 TX15 18, goodWord w = true) w h⟩
