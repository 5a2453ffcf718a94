/-! what the start gives -/
theorem in_n1 {w : Cond} (h : w ∈ flatC narrow_1_1) : w ∈ flatC (Jvm.Cond.and given_1 narrow_1) := by
  unfold narrow_1
  simp only [flatC, List.mem_append]
  exact Or.inr (Or.inl (Or.inl h))
theorem in_n2 {w : Cond} (h : w ∈ flatC narrow_1_2) : w ∈ flatC (Jvm.Cond.and given_1 narrow_1) := by
  unfold narrow_1
  simp only [flatC, List.mem_append]
  exact Or.inr (Or.inl (Or.inr h))
theorem in_n3 {w : Cond} (h : w ∈ flatC narrow_1_3) : w ∈ flatC (Jvm.Cond.and given_1 narrow_1) := by
  unfold narrow_1
  simp only [flatC, List.mem_append]
  exact Or.inr (Or.inr (Or.inl h))
theorem in_n4 {w : Cond} (h : w ∈ flatC narrow_1_4) : w ∈ flatC (Jvm.Cond.and given_1 narrow_1) := by
  unfold narrow_1
  simp only [flatC, List.mem_append]
  exact Or.inr (Or.inr (Or.inr (Or.inl h)))
theorem in_n5 {w : Cond} (h : w ∈ flatC narrow_1_5) : w ∈ flatC (Jvm.Cond.and given_1 narrow_1) := by
  unfold narrow_1
  simp only [flatC, List.mem_append]
  exact Or.inr (Or.inr (Or.inr (Or.inr h)))
theorem LG_0 : (Cond.exactly (Term.string "UnwindlensModel" 72) "java/lang/String") ∈ flatC (Jvm.Cond.and given_1 narrow_1) := in_n5 (by decide +kernel)
theorem LG_1 : (Cond.eq (Term.field (Term.string "UnwindlensModel" 72) "java/lang/String" "coder" "B") (Term.int 0)) ∈ flatC (Jvm.Cond.and given_1 narrow_1) := in_n5 (by decide +kernel)
theorem LG_2 : (Cond.arrayOf (Term.field (Term.string "UnwindlensModel" 72) "java/lang/String" "value" "[B") .byte) ∈ flatC (Jvm.Cond.and given_1 narrow_1) := in_n5 (by decide +kernel)
theorem LG_3 : (Cond.eq (Term.length (Term.field (Term.string "UnwindlensModel" 72) "java/lang/String" "value" "[B")) (Term.int 0)) ∈ flatC (Jvm.Cond.and given_1 narrow_1) := in_n5 (by decide +kernel)
theorem LG_4 : (Cond.exactly (Term.string "UnwindlensModel" 102) "java/lang/String") ∈ flatC (Jvm.Cond.and given_1 narrow_1) := in_n5 (by decide +kernel)
theorem LG_5 : (Cond.eq (Term.field (Term.string "UnwindlensModel" 102) "java/lang/String" "coder" "B") (Term.int 0)) ∈ flatC (Jvm.Cond.and given_1 narrow_1) := in_n5 (by decide +kernel)
theorem LG_6 : (Cond.arrayOf (Term.field (Term.string "UnwindlensModel" 102) "java/lang/String" "value" "[B") .byte) ∈ flatC (Jvm.Cond.and given_1 narrow_1) := in_n5 (by decide +kernel)
theorem LG_7 : (Cond.eq (Term.length (Term.field (Term.string "UnwindlensModel" 102) "java/lang/String" "value" "[B")) (Term.int 16)) ∈ flatC (Jvm.Cond.and given_1 narrow_1) := in_n5 (by decide +kernel)
theorem LG_8 : (Cond.eq (Term.elem (Term.field (Term.string "UnwindlensModel" 102) "java/lang/String" "value" "[B") (Term.int 0)) (Term.int 110)) ∈ flatC (Jvm.Cond.and given_1 narrow_1) := in_n5 (by decide +kernel)
theorem LG_9 : (Cond.eq (Term.elem (Term.field (Term.string "UnwindlensModel" 102) "java/lang/String" "value" "[B") (Term.int 1)) (Term.int 99)) ∈ flatC (Jvm.Cond.and given_1 narrow_1) := in_n5 (by decide +kernel)
theorem LG_10 : (Cond.eq (Term.elem (Term.field (Term.string "UnwindlensModel" 102) "java/lang/String" "value" "[B") (Term.int 2)) (Term.int 109)) ∈ flatC (Jvm.Cond.and given_1 narrow_1) := in_n5 (by decide +kernel)
theorem LG_11 : (Cond.eq (Term.elem (Term.field (Term.string "UnwindlensModel" 102) "java/lang/String" "value" "[B") (Term.int 3)) (Term.int 43)) ∈ flatC (Jvm.Cond.and given_1 narrow_1) := in_n5 (by decide +kernel)
theorem LG_12 : (Cond.eq (Term.elem (Term.field (Term.string "UnwindlensModel" 102) "java/lang/String" "value" "[B") (Term.int 4)) (Term.int 45)) ∈ flatC (Jvm.Cond.and given_1 narrow_1) := in_n5 (by decide +kernel)
theorem LG_13 : (Cond.eq (Term.elem (Term.field (Term.string "UnwindlensModel" 102) "java/lang/String" "value" "[B") (Term.int 5)) (Term.int 42)) ∈ flatC (Jvm.Cond.and given_1 narrow_1) := in_n5 (by decide +kernel)
theorem LG_14 : (Cond.eq (Term.elem (Term.field (Term.string "UnwindlensModel" 102) "java/lang/String" "value" "[B") (Term.int 6)) (Term.int 108)) ∈ flatC (Jvm.Cond.and given_1 narrow_1) := in_n5 (by decide +kernel)
theorem LG_15 : (Cond.eq (Term.elem (Term.field (Term.string "UnwindlensModel" 102) "java/lang/String" "value" "[B") (Term.int 7)) (Term.int 103)) ∈ flatC (Jvm.Cond.and given_1 narrow_1) := in_n5 (by decide +kernel)
theorem LG_16 : (Cond.eq (Term.elem (Term.field (Term.string "UnwindlensModel" 102) "java/lang/String" "value" "[B") (Term.int 8)) (Term.int 115)) ∈ flatC (Jvm.Cond.and given_1 narrow_1) := in_n5 (by decide +kernel)
theorem LG_17 : (Cond.eq (Term.elem (Term.field (Term.string "UnwindlensModel" 102) "java/lang/String" "value" "[B") (Term.int 9)) (Term.int 112)) ∈ flatC (Jvm.Cond.and given_1 narrow_1) := in_n5 (by decide +kernel)
theorem LG_18 : (Cond.eq (Term.elem (Term.field (Term.string "UnwindlensModel" 102) "java/lang/String" "value" "[B") (Term.int 10)) (Term.int 106)) ∈ flatC (Jvm.Cond.and given_1 narrow_1) := in_n5 (by decide +kernel)
theorem LG_19 : (Cond.eq (Term.elem (Term.field (Term.string "UnwindlensModel" 102) "java/lang/String" "value" "[B") (Term.int 11)) (Term.int 107)) ∈ flatC (Jvm.Cond.and given_1 narrow_1) := in_n5 (by decide +kernel)
theorem LG_20 : (Cond.eq (Term.elem (Term.field (Term.string "UnwindlensModel" 102) "java/lang/String" "value" "[B") (Term.int 12)) (Term.int 101)) ∈ flatC (Jvm.Cond.and given_1 narrow_1) := in_n5 (by decide +kernel)
theorem LG_21 : (Cond.eq (Term.elem (Term.field (Term.string "UnwindlensModel" 102) "java/lang/String" "value" "[B") (Term.int 13)) (Term.int 120)) ∈ flatC (Jvm.Cond.and given_1 narrow_1) := in_n5 (by decide +kernel)
theorem LG_22 : (Cond.eq (Term.elem (Term.field (Term.string "UnwindlensModel" 102) "java/lang/String" "value" "[B") (Term.int 14)) (Term.int 114)) ∈ flatC (Jvm.Cond.and given_1 narrow_1) := in_n5 (by decide +kernel)
theorem LG_23 : (Cond.eq (Term.elem (Term.field (Term.string "UnwindlensModel" 102) "java/lang/String" "value" "[B") (Term.int 15)) (Term.int 104)) ∈ flatC (Jvm.Cond.and given_1 narrow_1) := in_n5 (by decide +kernel)
theorem LG_24 : (Cond.exactly (Term.string "UnwindlensModel" 110) "java/lang/String") ∈ flatC (Jvm.Cond.and given_1 narrow_1) := in_n5 (by decide +kernel)
theorem LG_25 : (Cond.eq (Term.field (Term.string "UnwindlensModel" 110) "java/lang/String" "coder" "B") (Term.int 0)) ∈ flatC (Jvm.Cond.and given_1 narrow_1) := in_n5 (by decide +kernel)
theorem LG_26 : (Cond.arrayOf (Term.field (Term.string "UnwindlensModel" 110) "java/lang/String" "value" "[B") .byte) ∈ flatC (Jvm.Cond.and given_1 narrow_1) := in_n5 (by decide +kernel)
theorem LG_27 : (Cond.eq (Term.length (Term.field (Term.string "UnwindlensModel" 110) "java/lang/String" "value" "[B")) (Term.int 10)) ∈ flatC (Jvm.Cond.and given_1 narrow_1) := in_n5 (by decide +kernel)
theorem LG_28 : (Cond.eq (Term.elem (Term.field (Term.string "UnwindlensModel" 110) "java/lang/String" "value" "[B") (Term.int 0)) (Term.int 99)) ∈ flatC (Jvm.Cond.and given_1 narrow_1) := in_n5 (by decide +kernel)
theorem LG_29 : (Cond.eq (Term.elem (Term.field (Term.string "UnwindlensModel" 110) "java/lang/String" "value" "[B") (Term.int 1)) (Term.int 109)) ∈ flatC (Jvm.Cond.and given_1 narrow_1) := in_n5 (by decide +kernel)
theorem LG_30 : (Cond.eq (Term.elem (Term.field (Term.string "UnwindlensModel" 110) "java/lang/String" "value" "[B") (Term.int 2)) (Term.int 43)) ∈ flatC (Jvm.Cond.and given_1 narrow_1) := in_n5 (by decide +kernel)
theorem LG_31 : (Cond.eq (Term.elem (Term.field (Term.string "UnwindlensModel" 110) "java/lang/String" "value" "[B") (Term.int 3)) (Term.int 45)) ∈ flatC (Jvm.Cond.and given_1 narrow_1) := in_n5 (by decide +kernel)
theorem LG_32 : (Cond.eq (Term.elem (Term.field (Term.string "UnwindlensModel" 110) "java/lang/String" "value" "[B") (Term.int 4)) (Term.int 42)) ∈ flatC (Jvm.Cond.and given_1 narrow_1) := in_n5 (by decide +kernel)
theorem LG_33 : (Cond.eq (Term.elem (Term.field (Term.string "UnwindlensModel" 110) "java/lang/String" "value" "[B") (Term.int 5)) (Term.int 108)) ∈ flatC (Jvm.Cond.and given_1 narrow_1) := in_n5 (by decide +kernel)
theorem LG_34 : (Cond.eq (Term.elem (Term.field (Term.string "UnwindlensModel" 110) "java/lang/String" "value" "[B") (Term.int 6)) (Term.int 103)) ∈ flatC (Jvm.Cond.and given_1 narrow_1) := in_n5 (by decide +kernel)
theorem LG_35 : (Cond.eq (Term.elem (Term.field (Term.string "UnwindlensModel" 110) "java/lang/String" "value" "[B") (Term.int 7)) (Term.int 115)) ∈ flatC (Jvm.Cond.and given_1 narrow_1) := in_n5 (by decide +kernel)
theorem LG_36 : (Cond.eq (Term.elem (Term.field (Term.string "UnwindlensModel" 110) "java/lang/String" "value" "[B") (Term.int 8)) (Term.int 112)) ∈ flatC (Jvm.Cond.and given_1 narrow_1) := in_n5 (by decide +kernel)
theorem LG_37 : (Cond.eq (Term.elem (Term.field (Term.string "UnwindlensModel" 110) "java/lang/String" "value" "[B") (Term.int 9)) (Term.int 106)) ∈ flatC (Jvm.Cond.and given_1 narrow_1) := in_n5 (by decide +kernel)
theorem LG_38 : (Cond.exactly (Term.string "UnwindlensModel" 114) "java/lang/String") ∈ flatC (Jvm.Cond.and given_1 narrow_1) := in_n5 (by decide +kernel)
theorem LG_39 : (Cond.eq (Term.field (Term.string "UnwindlensModel" 114) "java/lang/String" "coder" "B") (Term.int 0)) ∈ flatC (Jvm.Cond.and given_1 narrow_1) := in_n5 (by decide +kernel)
theorem LG_40 : (Cond.arrayOf (Term.field (Term.string "UnwindlensModel" 114) "java/lang/String" "value" "[B") .byte) ∈ flatC (Jvm.Cond.and given_1 narrow_1) := in_n5 (by decide +kernel)
theorem LG_41 : (Cond.eq (Term.length (Term.field (Term.string "UnwindlensModel" 114) "java/lang/String" "value" "[B")) (Term.int 6)) ∈ flatC (Jvm.Cond.and given_1 narrow_1) := in_n5 (by decide +kernel)
theorem LG_42 : (Cond.eq (Term.elem (Term.field (Term.string "UnwindlensModel" 114) "java/lang/String" "value" "[B") (Term.int 0)) (Term.int 109)) ∈ flatC (Jvm.Cond.and given_1 narrow_1) := in_n5 (by decide +kernel)
theorem LG_43 : (Cond.eq (Term.elem (Term.field (Term.string "UnwindlensModel" 114) "java/lang/String" "value" "[B") (Term.int 1)) (Term.int 43)) ∈ flatC (Jvm.Cond.and given_1 narrow_1) := in_n5 (by decide +kernel)
theorem LG_44 : (Cond.eq (Term.elem (Term.field (Term.string "UnwindlensModel" 114) "java/lang/String" "value" "[B") (Term.int 2)) (Term.int 45)) ∈ flatC (Jvm.Cond.and given_1 narrow_1) := in_n5 (by decide +kernel)
theorem LG_45 : (Cond.eq (Term.elem (Term.field (Term.string "UnwindlensModel" 114) "java/lang/String" "value" "[B") (Term.int 3)) (Term.int 42)) ∈ flatC (Jvm.Cond.and given_1 narrow_1) := in_n5 (by decide +kernel)
theorem LG_46 : (Cond.eq (Term.elem (Term.field (Term.string "UnwindlensModel" 114) "java/lang/String" "value" "[B") (Term.int 4)) (Term.int 108)) ∈ flatC (Jvm.Cond.and given_1 narrow_1) := in_n5 (by decide +kernel)
theorem LG_47 : (Cond.eq (Term.elem (Term.field (Term.string "UnwindlensModel" 114) "java/lang/String" "value" "[B") (Term.int 5)) (Term.int 115)) ∈ flatC (Jvm.Cond.and given_1 narrow_1) := in_n5 (by decide +kernel)
theorem LG_48 : (Cond.exactly (Term.string "UnwindlensModel" 210) "java/lang/String") ∈ flatC (Jvm.Cond.and given_1 narrow_1) := in_n5 (by decide +kernel)
theorem LG_49 : (Cond.eq (Term.field (Term.string "UnwindlensModel" 210) "java/lang/String" "coder" "B") (Term.int 0)) ∈ flatC (Jvm.Cond.and given_1 narrow_1) := in_n5 (by decide +kernel)
theorem LG_50 : (Cond.arrayOf (Term.field (Term.string "UnwindlensModel" 210) "java/lang/String" "value" "[B") .byte) ∈ flatC (Jvm.Cond.and given_1 narrow_1) := in_n5 (by decide +kernel)
theorem LG_51 : (Cond.eq (Term.length (Term.field (Term.string "UnwindlensModel" 210) "java/lang/String" "value" "[B")) (Term.int 3)) ∈ flatC (Jvm.Cond.and given_1 narrow_1) := in_n5 (by decide +kernel)
theorem LG_52 : (Cond.eq (Term.elem (Term.field (Term.string "UnwindlensModel" 210) "java/lang/String" "value" "[B") (Term.int 0)) (Term.int 105)) ∈ flatC (Jvm.Cond.and given_1 narrow_1) := in_n5 (by decide +kernel)
theorem LG_53 : (Cond.eq (Term.elem (Term.field (Term.string "UnwindlensModel" 210) "java/lang/String" "value" "[B") (Term.int 1)) (Term.int 98)) ∈ flatC (Jvm.Cond.and given_1 narrow_1) := in_n5 (by decide +kernel)
theorem LG_54 : (Cond.eq (Term.elem (Term.field (Term.string "UnwindlensModel" 210) "java/lang/String" "value" "[B") (Term.int 2)) (Term.int 99)) ∈ flatC (Jvm.Cond.and given_1 narrow_1) := in_n5 (by decide +kernel)
theorem LG_55 : (Cond.isRef (Term.static "java/lang/Throwable" "UNASSIGNED_STACK" "[Ljava/lang/StackTraceElement;")) ∈ flatC (Jvm.Cond.and given_1 narrow_1) := in_n1 (by decide +kernel)
theorem LG_56 : (Cond.isRef (Term.static "java/lang/Throwable" "SUPPRESSED_SENTINEL" "Ljava/util/List;")) ∈ flatC (Jvm.Cond.and given_1 narrow_1) := in_n1 (by decide +kernel)
theorem LG_57 : (Cond.eq (Term.static "java/lang/String" "COMPACT_STRINGS" "Z") (Term.int 1)) ∈ flatC (Jvm.Cond.and given_1 narrow_1) := in_n1 (by decide +kernel)
theorem LG_58 : (Cond.arrayOf (Term.static "java/util/ArrayList" "DEFAULTCAPACITY_EMPTY_ELEMENTDATA" "[Ljava/lang/Object;") (.object "java/lang/Object")) ∈ flatC (Jvm.Cond.and given_1 narrow_1) := in_n1 (by decide +kernel)
theorem LG_59 : (Cond.eq (Term.length (Term.static "java/util/ArrayList" "DEFAULTCAPACITY_EMPTY_ELEMENTDATA" "[Ljava/lang/Object;")) (Term.int 0)) ∈ flatC (Jvm.Cond.and given_1 narrow_1) := in_n1 (by decide +kernel)
theorem LG_60 : (Cond.not (Cond.castable "java/lang/UnsupportedOperationException" "java/lang/IllegalArgumentException")) ∈ flatC (Jvm.Cond.and given_1 narrow_1) := in_n1 (by decide +kernel)
theorem OFof {args : Array Value} {s : State} {t : Term} {o n d : String} {v : Value} {a : Nat} {A : Nat → Prop} (h : (Term.field t o n d).eval args s none [] s = some v) (ht : t.eval args s none [] s = some (.ref a)) (hA : ∀ a : Nat, a < s.heap.size → ¬ A a) : va_OF o n d v a A s s.heap := by
  cases hfo : s.fieldFound? o n d with
  | none =>
    rw [va_fe ht] at h
    simp [State.fieldOf?, State.fieldNamed?, hfo] at h
  | some x =>
    obtain ⟨cf, k, fi, f⟩ := x
    obtain ⟨g1, cell, g2, g3, -, -, g6⟩ := Term.field_spec hfo ht h
    exact ⟨cf, k, fi, f, cell, hfo, g1, g2, g3, g6, hA _ (Array.getElem?_eq_some_iff.mp g2).1⟩
theorem ESof {args : Array Value} {s : State} {tm : Term} {q : Nat} {L : List Int32} {A : Nat → Prop} (hL : L.length < 2 ^ 31) (hex : (Cond.exactly tm "java/lang/String").before args s = true) (hco : (Cond.eq (Term.field tm "java/lang/String" "coder" "B") (Term.int 0)).before args s = true) (harr : (Cond.arrayOf (Term.field tm "java/lang/String" "value" "[B") .byte).before args s = true) (hlen : (Cond.eq (Term.length (Term.field tm "java/lang/String" "value" "[B")) (Term.int (Int32.ofNat L.length))).before args s = true)
    (hel : ∀ j : Nat, j < L.length → (Cond.eq (Term.elem (Term.field tm "java/lang/String" "value" "[B") (Term.int (Int32.ofNat j))) (Term.int (L.getD j 0))).before args s = true) (ht : tm.eval args s none [] s = some (.ref q)) (hA : ∀ a : Nat, a < s.heap.size → ¬ A a) : ∃ v : Nat, ES q v L A s s.heap := by
  obtain ⟨v, hv, hT⟩ := va_Tof (f := fun j => .int (L.getD j 0)) hL harr (va_eqt hlen) (fun j hj => va_eqt (hel j hj)) hA
  exact ⟨v, va_Oof hex ht hA, OFof (va_eqt hco) ht hA, OFof hv ht hA, hT⟩
theorem KPof {args : Array Value} {s : State} {ty : FieldType} (h : (Cond.arrayClass ty).before args s = true) : ∃ c : ClassId, ArrOfT s c ty ∧ s.vm.findClass ("[" ++ ty.toString) = some c := by
  obtain ⟨c, k, comp, h1, h2, h3⟩ := Cond.arrayClass_spec h
  exact ⟨c, fun n z => ⟨(fun k h => by cases h), k, h2, comp, h3⟩, h1⟩
theorem KOof {args : Array Value} {s : State} {C : String} (h : (Cond.arrayOver (.object C)).before args s = true) : ∃ c : ClassId, ArrOfT s c (.object C) ∧ va_RA s c (.object C) := by
  obtain ⟨comp, c, k, h1, -, h3, h4, h5⟩ := Cond.arrayOver_spec h
  exact ⟨c, fun n z => ⟨(fun k h => by cases h), k, h3, comp, h4⟩, k, comp, h3, h4, h1, h5⟩
theorem ESk0 {args : Array Value} {s : State} {q : Nat} {A : Nat → Prop} (hg : ∀ w ∈ flatC (Jvm.Cond.and given_1 narrow_1), w.before args s = true) (ht : (Term.string "UnwindlensModel" 72).eval args s none [] s = some (.ref q)) (hA : ∀ a : Nat, a < s.heap.size → ¬ A a) : ∃ v : Nat, ES q v [] A s s.heap := by
  refine ESof (by decide) (hg _ LG_0) (hg _ LG_1) (hg _ LG_2) (hg _ LG_3) (fun j hj => ?_) ht hA
  exact match j, hj with
    | n + 0, h => absurd h (by simp)
theorem ESk1 {args : Array Value} {s : State} {q : Nat} {A : Nat → Prop} (hg : ∀ w ∈ flatC (Jvm.Cond.and given_1 narrow_1), w.before args s = true) (ht : (Term.string "UnwindlensModel" 102).eval args s none [] s = some (.ref q)) (hA : ∀ a : Nat, a < s.heap.size → ¬ A a) : ∃ v : Nat, ES q v [110, 99, 109, 43, 45, 42, 108, 103, 115, 112, 106, 107, 101, 120, 114, 104] A s s.heap := by
  refine ESof (by decide) (hg _ LG_4) (hg _ LG_5) (hg _ LG_6) (hg _ LG_7) (fun j hj => ?_) ht hA
  exact match j, hj with
    | 0, _ => (hg _ LG_8)
    | 1, _ => (hg _ LG_9)
    | 2, _ => (hg _ LG_10)
    | 3, _ => (hg _ LG_11)
    | 4, _ => (hg _ LG_12)
    | 5, _ => (hg _ LG_13)
    | 6, _ => (hg _ LG_14)
    | 7, _ => (hg _ LG_15)
    | 8, _ => (hg _ LG_16)
    | 9, _ => (hg _ LG_17)
    | 10, _ => (hg _ LG_18)
    | 11, _ => (hg _ LG_19)
    | 12, _ => (hg _ LG_20)
    | 13, _ => (hg _ LG_21)
    | 14, _ => (hg _ LG_22)
    | 15, _ => (hg _ LG_23)
    | n + 16, h => absurd h (by simp)
theorem ESk2 {args : Array Value} {s : State} {q : Nat} {A : Nat → Prop} (hg : ∀ w ∈ flatC (Jvm.Cond.and given_1 narrow_1), w.before args s = true) (ht : (Term.string "UnwindlensModel" 110).eval args s none [] s = some (.ref q)) (hA : ∀ a : Nat, a < s.heap.size → ¬ A a) : ∃ v : Nat, ES q v [99, 109, 43, 45, 42, 108, 103, 115, 112, 106] A s s.heap := by
  refine ESof (by decide) (hg _ LG_24) (hg _ LG_25) (hg _ LG_26) (hg _ LG_27) (fun j hj => ?_) ht hA
  exact match j, hj with
    | 0, _ => (hg _ LG_28)
    | 1, _ => (hg _ LG_29)
    | 2, _ => (hg _ LG_30)
    | 3, _ => (hg _ LG_31)
    | 4, _ => (hg _ LG_32)
    | 5, _ => (hg _ LG_33)
    | 6, _ => (hg _ LG_34)
    | 7, _ => (hg _ LG_35)
    | 8, _ => (hg _ LG_36)
    | 9, _ => (hg _ LG_37)
    | n + 10, h => absurd h (by simp)
theorem ESk3 {args : Array Value} {s : State} {q : Nat} {A : Nat → Prop} (hg : ∀ w ∈ flatC (Jvm.Cond.and given_1 narrow_1), w.before args s = true) (ht : (Term.string "UnwindlensModel" 114).eval args s none [] s = some (.ref q)) (hA : ∀ a : Nat, a < s.heap.size → ¬ A a) : ∃ v : Nat, ES q v [109, 43, 45, 42, 108, 115] A s s.heap := by
  refine ESof (by decide) (hg _ LG_38) (hg _ LG_39) (hg _ LG_40) (hg _ LG_41) (fun j hj => ?_) ht hA
  exact match j, hj with
    | 0, _ => (hg _ LG_42)
    | 1, _ => (hg _ LG_43)
    | 2, _ => (hg _ LG_44)
    | 3, _ => (hg _ LG_45)
    | 4, _ => (hg _ LG_46)
    | 5, _ => (hg _ LG_47)
    | n + 6, h => absurd h (by simp)
theorem ESk4 {args : Array Value} {s : State} {q : Nat} {A : Nat → Prop} (hg : ∀ w ∈ flatC (Jvm.Cond.and given_1 narrow_1), w.before args s = true) (ht : (Term.string "UnwindlensModel" 210).eval args s none [] s = some (.ref q)) (hA : ∀ a : Nat, a < s.heap.size → ¬ A a) : ∃ v : Nat, ES q v [105, 98, 99] A s s.heap := by
  refine ESof (by decide) (hg _ LG_48) (hg _ LG_49) (hg _ LG_50) (hg _ LG_51) (fun j hj => ?_) ht hA
  exact match j, hj with
    | 0, _ => (hg _ LG_52)
    | 1, _ => (hg _ LG_53)
    | 2, _ => (hg _ LG_54)
    | n + 3, h => absurd h (by simp)
theorem STRX_in : ∀ q ∈ STRX, Cond.stringRef q.1 q.2.1 q.2.2 ∈ lw_tbl := by decide +kernel
theorem SKof {args : Array Value} {s : State} (hts : ∀ w ∈ lw_tbl, w.before args s = true) (hf : ∀ q ∈ STRX, ∃ c, s.vm.findClass q.1 = some c) : ∃ sa : Nat → Nat, SK STRX sa s := by
  have h0 : ∀ k : Nat, ∃ a : Nat, ∀ q : String × Nat × String, STRX[k]? = some q → vk_R q.1 q.2.1 q.2.2 a s := by
    intro k
    cases hq : STRX[k]? with
    | none => exact ⟨0, fun q h => by cases h⟩
    | some q =>
      obtain ⟨c, hc⟩ := hf q (List.mem_of_getElem? hq)
      have hw := hts _ (STRX_in q (List.mem_of_getElem? hq))
      obtain ⟨k1, cf, i, a, -, -, -, -, -, hev⟩ := Cond.stringRef_spec hc hw
      exact ⟨a, fun q1 h1 => by cases h1; exact vk_R.of hw hev⟩
  obtain ⟨sa, hsa⟩ := Classical.axiomOfChoice h0
  exact ⟨sa, fun k q hk => hsa k q hk⟩
theorem W_0_0 : Cond.declares (⟨"java/util/List", "size", "()I"⟩ : MethodName) ∈ lw_tbl := by decide +kernel
theorem W_0_1 : Cond.interfaceMethod "java/util/List" "java/util/List" "size" "()I" ∈ lw_tbl := by decide +kernel
theorem W_0_2 : Cond.publicMethod yJx4a65c_size_8abf5 ∈ lw_tbl := by decide +kernel
theorem W_0_3 : Cond.unhidden RJx4a65c "size" "()I" ∈ lw_tbl := by decide +kernel
theorem W_0_4 : Cond.castable RJx4a65c "java/util/List" ∈ lw_tbl := by decide +kernel
theorem W_1_0 : Cond.declares (⟨"java/util/List", "add", "(Ljava/lang/Object;)Z"⟩ : MethodName) ∈ lw_tbl := by decide +kernel
theorem W_1_1 : Cond.interfaceMethod "java/util/List" "java/util/List" "add" "(Ljava/lang/Object;)Z" ∈ lw_tbl := by decide +kernel
theorem W_1_2 : Cond.publicMethod yJx4a65c_add_9ea2d ∈ lw_tbl := by decide +kernel
theorem W_1_3 : Cond.unhidden RJx4a65c "add" "(Ljava/lang/Object;)Z" ∈ lw_tbl := by decide +kernel
theorem W_1_4 : Cond.castable RJx4a65c "java/util/List" ∈ lw_tbl := by decide +kernel
theorem W_2_0 : Cond.declares (⟨"java/util/List", "clear", "()V"⟩ : MethodName) ∈ lw_tbl := by decide +kernel
theorem W_2_1 : Cond.interfaceMethod "java/util/List" "java/util/List" "clear" "()V" ∈ lw_tbl := by decide +kernel
theorem W_2_2 : Cond.publicMethod yJx4a65c_clear_da8c8 ∈ lw_tbl := by decide +kernel
theorem W_2_3 : Cond.unhidden RJx4a65c "clear" "()V" ∈ lw_tbl := by decide +kernel
theorem W_2_4 : Cond.castable RJx4a65c "java/util/List" ∈ lw_tbl := by decide +kernel
theorem W_3_0 : Cond.declares (⟨"java/util/List", "iterator", "()Ljava/util/Iterator;"⟩ : MethodName) ∈ lw_tbl := by decide +kernel
theorem W_3_1 : Cond.interfaceMethod "java/util/List" "java/util/List" "iterator" "()Ljava/util/Iterator;" ∈ lw_tbl := by decide +kernel
theorem W_3_2 : Cond.publicMethod yJx4a65c_iterator_32c93 ∈ lw_tbl := by decide +kernel
theorem W_3_3 : Cond.unhidden RJx4a65c "iterator" "()Ljava/util/Iterator;" ∈ lw_tbl := by decide +kernel
theorem W_3_4 : Cond.castable RJx4a65c "java/util/List" ∈ lw_tbl := by decide +kernel
theorem W_4_0 : Cond.declares (⟨"java/util/List", "isEmpty", "()Z"⟩ : MethodName) ∈ lw_tbl := by decide +kernel
theorem W_4_1 : Cond.interfaceMethod "java/util/List" "java/util/List" "isEmpty" "()Z" ∈ lw_tbl := by decide +kernel
theorem W_4_2 : Cond.publicMethod yJx4a65c_isEmpty_aae02 ∈ lw_tbl := by decide +kernel
theorem W_4_3 : Cond.unhidden RJx4a65c "isEmpty" "()Z" ∈ lw_tbl := by decide +kernel
theorem W_4_4 : Cond.castable RJx4a65c "java/util/List" ∈ lw_tbl := by decide +kernel
theorem W_5_0 : Cond.declares (⟨"java/util/Iterator", "hasNext", "()Z"⟩ : MethodName) ∈ lw_tbl := by decide +kernel
theorem W_5_1 : Cond.interfaceMethod "java/util/Iterator" "java/util/Iterator" "hasNext" "()Z" ∈ lw_tbl := by decide +kernel
theorem W_5_2 : Cond.publicMethod yJx35411_hasNext_aae02 ∈ lw_tbl := by decide +kernel
theorem W_5_3 : Cond.unhidden RJx35411 "hasNext" "()Z" ∈ lw_tbl := by decide +kernel
theorem W_5_4 : Cond.castable RJx35411 "java/util/Iterator" ∈ lw_tbl := by decide +kernel
theorem FWof {args : Array Value} {s : State} (hts : ∀ w ∈ lw_tbl, w.before args s = true) : ∀ (k : Nat) (q : String × MethodName × MethodName), FWN[k]? = some q → va_Fw q.1 q.2.1 q.2.2 s := fun k =>
  match k with
    | 0 => fun q hq => by cases hq; exact va_Fw.of (U := s) (A := args) (hts _ W_0_0) (hts _ W_0_1) (hts _ W_0_2) (hts _ W_0_3) (hts _ W_0_4)
    | 1 => fun q hq => by cases hq; exact va_Fw.of (U := s) (A := args) (hts _ W_1_0) (hts _ W_1_1) (hts _ W_1_2) (hts _ W_1_3) (hts _ W_1_4)
    | 2 => fun q hq => by cases hq; exact va_Fw.of (U := s) (A := args) (hts _ W_2_0) (hts _ W_2_1) (hts _ W_2_2) (hts _ W_2_3) (hts _ W_2_4)
    | 3 => fun q hq => by cases hq; exact va_Fw.of (U := s) (A := args) (hts _ W_3_0) (hts _ W_3_1) (hts _ W_3_2) (hts _ W_3_3) (hts _ W_3_4)
    | 4 => fun q hq => by cases hq; exact va_Fw.of (U := s) (A := args) (hts _ W_4_0) (hts _ W_4_1) (hts _ W_4_2) (hts _ W_4_3) (hts _ W_4_4)
    | 5 => fun q hq => by cases hq; exact va_Fw.of (U := s) (A := args) (hts _ W_5_0) (hts _ W_5_1) (hts _ W_5_2) (hts _ W_5_3) (hts _ W_5_4)
    | n + 6 => fun q hq => by simp [FWN] at hq
theorem W_AO1 : Cond.arrayOver (.object "Unwindlens$Spot") ∈ lw_tbl := by decide +kernel
theorem W_AO2 : Cond.arrayOver (.object "Unwindlens$Task") ∈ lw_tbl := by decide +kernel
theorem W_AO3 : Cond.arrayOver (.object "java/lang/Object") ∈ lw_tbl := by decide +kernel
theorem W_AO4 : Cond.arrayOver (.array .boolean) ∈ lw_tbl := by decide +kernel
theorem W_ZL1 : Cond.laysStatic "java/lang/Throwable" "UNASSIGNED_STACK" "[Ljava/lang/StackTraceElement;" ∈ lw_tbl := by decide +kernel
theorem W_ZL2 : Cond.laysStatic "java/lang/Throwable" "SUPPRESSED_SENTINEL" "Ljava/util/List;" ∈ lw_tbl := by decide +kernel
theorem W_ZL3 : Cond.laysStatic "java/lang/String" "COMPACT_STRINGS" "Z" ∈ lw_tbl := by decide +kernel
theorem W_ZL4 : Cond.laysStatic "java/util/ArrayList" "DEFAULTCAPACITY_EMPTY_ELEMENTDATA" "[Ljava/lang/Object;" ∈ lw_tbl := by decide +kernel
theorem W_ZI1 : Cond.initialized "java/lang/Throwable" ∈ lw_tbl := by decide +kernel
theorem W_ZI3 : Cond.initialized "java/lang/String" ∈ lw_tbl := by decide +kernel
theorem W_ZI4 : Cond.initialized "java/util/ArrayList" ∈ lw_tbl := by decide +kernel
theorem W_AC_int : Cond.arrayClass .int ∈ lw_tbl := by decide +kernel
theorem W_AC_char : Cond.arrayClass .char ∈ lw_tbl := by decide +kernel
theorem W_AC_boolean : Cond.arrayClass .boolean ∈ lw_tbl := by decide +kernel
theorem W_AC_long : Cond.arrayClass .long ∈ lw_tbl := by decide +kernel
theorem W_AC_double : Cond.arrayClass .double ∈ lw_tbl := by decide +kernel
theorem W_AC_byte : Cond.arrayClass .byte ∈ lw_tbl := by decide +kernel
theorem W_iJ0 : Cond.instantiable RJ0 4 ∈ lw_tbl := by decide +kernel
theorem W_uJ0 : ∀ w ∈ u_ws RJ0 TJ0 4, w ∈ lw_tbl := by decide +kernel
theorem W_iJ4 : Cond.instantiable RJ4 4 ∈ lw_tbl := by decide +kernel
theorem W_uJ4 : ∀ w ∈ u_ws RJ4 TJ4 4, w ∈ lw_tbl := by decide +kernel
theorem W_iJx00060 : Cond.instantiable RJx00060 6 ∈ lw_tbl := by decide +kernel
theorem W_uJx00060 : ∀ w ∈ u_ws RJx00060 TJx00060 6, w ∈ lw_tbl := by decide +kernel
theorem W_iJx7c733 : Cond.instantiable RJx7c733 6 ∈ lw_tbl := by decide +kernel
theorem W_uJx7c733 : ∀ w ∈ u_ws RJx7c733 TJx7c733 6, w ∈ lw_tbl := by decide +kernel
theorem W_iJx35411 : Cond.instantiable RJx35411 4 ∈ lw_tbl := by decide +kernel
theorem W_uJx35411 : ∀ w ∈ u_ws RJx35411 TJx35411 4, w ∈ lw_tbl := by decide +kernel
theorem W_iJx4a65c : Cond.instantiable RJx4a65c 3 ∈ lw_tbl := by decide +kernel
theorem W_uJx4a65c : ∀ w ∈ u_ws RJx4a65c TJx4a65c 3, w ∈ lw_tbl := by decide +kernel
theorem W_iX0 : Cond.instantiable RX0 13 ∈ lw_tbl := by decide +kernel
theorem W_uX0 : ∀ w ∈ u_ws RX0 TX0 13, w ∈ lw_tbl := by decide +kernel
theorem W_iX1 : Cond.instantiable RX1 4 ∈ lw_tbl := by decide +kernel
theorem W_uX1 : ∀ w ∈ u_ws RX1 TX1 4, w ∈ lw_tbl := by decide +kernel
theorem W_iX2 : Cond.instantiable RX2 11 ∈ lw_tbl := by decide +kernel
theorem W_uX2 : ∀ w ∈ u_ws RX2 TX2 11, w ∈ lw_tbl := by decide +kernel
theorem W_iX3 : Cond.instantiable RX3 10 ∈ lw_tbl := by decide +kernel
theorem W_uX3 : ∀ w ∈ u_ws RX3 TX3 10, w ∈ lw_tbl := by decide +kernel
theorem W_iX4 : Cond.instantiable RX4 3 ∈ lw_tbl := by decide +kernel
theorem W_uX4 : ∀ w ∈ u_ws RX4 TX4 3, w ∈ lw_tbl := by decide +kernel
theorem W_iX5 : Cond.instantiable RX5 3 ∈ lw_tbl := by decide +kernel
theorem W_uX5 : ∀ w ∈ u_ws RX5 TX5 3, w ∈ lw_tbl := by decide +kernel
theorem W_iX6 : Cond.instantiable RX6 5 ∈ lw_tbl := by decide +kernel
theorem W_uX6 : ∀ w ∈ u_ws RX6 TX6 5, w ∈ lw_tbl := by decide +kernel
theorem W_iX7 : Cond.instantiable RX7 7 ∈ lw_tbl := by decide +kernel
theorem W_uX7 : ∀ w ∈ u_ws RX7 TX7 7, w ∈ lw_tbl := by decide +kernel
theorem W_iX8 : Cond.instantiable RX8 5 ∈ lw_tbl := by decide +kernel
theorem W_uX8 : ∀ w ∈ u_ws RX8 TX8 5, w ∈ lw_tbl := by decide +kernel
theorem W_iX9 : Cond.instantiable RX9 7 ∈ lw_tbl := by decide +kernel
theorem W_uX9 : ∀ w ∈ u_ws RX9 TX9 7, w ∈ lw_tbl := by decide +kernel
theorem W_iX10 : Cond.instantiable RX10 4 ∈ lw_tbl := by decide +kernel
theorem W_uX10 : ∀ w ∈ u_ws RX10 TX10 4, w ∈ lw_tbl := by decide +kernel
theorem W_iX11 : Cond.instantiable RX11 14 ∈ lw_tbl := by decide +kernel
theorem W_uX11 : ∀ w ∈ u_ws RX11 TX11 14, w ∈ lw_tbl := by decide +kernel
theorem W_iX12 : Cond.instantiable RX12 7 ∈ lw_tbl := by decide +kernel
theorem W_uX12 : ∀ w ∈ u_ws RX12 TX12 7, w ∈ lw_tbl := by decide +kernel
theorem W_iX13 : Cond.instantiable RX13 7 ∈ lw_tbl := by decide +kernel
theorem W_uX13 : ∀ w ∈ u_ws RX13 TX13 7, w ∈ lw_tbl := by decide +kernel
theorem W_iX14 : Cond.instantiable RX14 5 ∈ lw_tbl := by decide +kernel
theorem W_uX14 : ∀ w ∈ u_ws RX14 TX14 5, w ∈ lw_tbl := by decide +kernel
theorem W_iX15 : Cond.instantiable RX15 18 ∈ lw_tbl := by decide +kernel
theorem W_uX15 : ∀ w ∈ u_ws RX15 TX15 18, w ∈ lw_tbl := by decide +kernel
theorem NGof {args : Array Value} {s : State} (hts : ∀ w ∈ lw_tbl, w.before args s = true) : NGU s := fun w hw => va_Nw.of (ngw_tab (List.mem_filter.mp hw).2) (hts w (List.mem_filter.mp hw).1)
theorem STRX_cl : ∀ q ∈ STRX, q.1 = RX11 ∨ q.1 = RX15 := by decide +kernel
set_option maxHeartbeats 4000000 in
theorem CLof {args : Array Value} {s : State} (hts : ∀ w ∈ lw_tbl, w.before args s = true) : ∃ D : va_G, ∀ (c : Nat) (q : vw_C), vwCl[c]? = some q → u_Kn s q.1 q.2.1 q.2.2 (D.1 c) (D.2 c) := by
  obtain ⟨d0, f0, k0⟩ := u_known (C := RJ0) (T := TJ0) (N := 4) hts W_uJ0 (hts _ W_iJ0)
  obtain ⟨d1, f1, k1⟩ := u_known (C := RJ4) (T := TJ4) (N := 4) hts W_uJ4 (hts _ W_iJ4)
  obtain ⟨d2, f2, k2⟩ := u_known (C := RJx00060) (T := TJx00060) (N := 6) hts W_uJx00060 (hts _ W_iJx00060)
  obtain ⟨d3, f3, k3⟩ := u_known (C := RJx7c733) (T := TJx7c733) (N := 6) hts W_uJx7c733 (hts _ W_iJx7c733)
  obtain ⟨d4, f4, k4⟩ := u_known (C := RJx35411) (T := TJx35411) (N := 4) hts W_uJx35411 (hts _ W_iJx35411)
  obtain ⟨d5, f5, k5⟩ := u_known (C := RJx4a65c) (T := TJx4a65c) (N := 3) hts W_uJx4a65c (hts _ W_iJx4a65c)
  obtain ⟨d6, f6, k6⟩ := u_known (C := RX0) (T := TX0) (N := 13) hts W_uX0 (hts _ W_iX0)
  obtain ⟨d7, f7, k7⟩ := u_known (C := RX1) (T := TX1) (N := 4) hts W_uX1 (hts _ W_iX1)
  obtain ⟨d8, f8, k8⟩ := u_known (C := RX2) (T := TX2) (N := 11) hts W_uX2 (hts _ W_iX2)
  obtain ⟨d9, f9, k9⟩ := u_known (C := RX3) (T := TX3) (N := 10) hts W_uX3 (hts _ W_iX3)
  obtain ⟨d10, f10, k10⟩ := u_known (C := RX4) (T := TX4) (N := 3) hts W_uX4 (hts _ W_iX4)
  obtain ⟨d11, f11, k11⟩ := u_known (C := RX5) (T := TX5) (N := 3) hts W_uX5 (hts _ W_iX5)
  obtain ⟨d12, f12, k12⟩ := u_known (C := RX6) (T := TX6) (N := 5) hts W_uX6 (hts _ W_iX6)
  obtain ⟨d13, f13, k13⟩ := u_known (C := RX7) (T := TX7) (N := 7) hts W_uX7 (hts _ W_iX7)
  obtain ⟨d14, f14, k14⟩ := u_known (C := RX8) (T := TX8) (N := 5) hts W_uX8 (hts _ W_iX8)
  obtain ⟨d15, f15, k15⟩ := u_known (C := RX9) (T := TX9) (N := 7) hts W_uX9 (hts _ W_iX9)
  obtain ⟨d16, f16, k16⟩ := u_known (C := RX10) (T := TX10) (N := 4) hts W_uX10 (hts _ W_iX10)
  obtain ⟨d17, f17, k17⟩ := u_known (C := RX11) (T := TX11) (N := 14) hts W_uX11 (hts _ W_iX11)
  obtain ⟨d18, f18, k18⟩ := u_known (C := RX12) (T := TX12) (N := 7) hts W_uX12 (hts _ W_iX12)
  obtain ⟨d19, f19, k19⟩ := u_known (C := RX13) (T := TX13) (N := 7) hts W_uX13 (hts _ W_iX13)
  obtain ⟨d20, f20, k20⟩ := u_known (C := RX14) (T := TX14) (N := 5) hts W_uX14 (hts _ W_iX14)
  obtain ⟨d21, f21, k21⟩ := u_known (C := RX15) (T := TX15) (N := 18) hts W_uX15 (hts _ W_iX15)
  refine ⟨(fun c => match c with | 0 => d0 | 1 => d1 | 2 => d2 | 3 => d3 | 4 => d4 | 5 => d5 | 6 => d6 | 7 => d7 | 8 => d8 | 9 => d9 | 10 => d10 | 11 => d11 | 12 => d12 | 13 => d13 | 14 => d14 | 15 => d15 | 16 => d16 | 17 => d17 | 18 => d18 | 19 => d19 | 20 => d20 | 21 => d21 | _ => d0, fun c => match c with | 0 => f0 | 1 => f1 | 2 => f2 | 3 => f3 | 4 => f4 | 5 => f5 | 6 => f6 | 7 => f7 | 8 => f8 | 9 => f9 | 10 => f10 | 11 => f11 | 12 => f12 | 13 => f13 | 14 => f14 | 15 => f15 | 16 => f16 | 17 => f17 | 18 => f18 | 19 => f19 | 20 => f20 | 21 => f21 | _ => f0), fun c => ?_⟩
  exact match c with
    | 0 => fun q hq => by cases hq; exact k0
    | 1 => fun q hq => by cases hq; exact k1
    | 2 => fun q hq => by cases hq; exact k2
    | 3 => fun q hq => by cases hq; exact k3
    | 4 => fun q hq => by cases hq; exact k4
    | 5 => fun q hq => by cases hq; exact k5
    | 6 => fun q hq => by cases hq; exact k6
    | 7 => fun q hq => by cases hq; exact k7
    | 8 => fun q hq => by cases hq; exact k8
    | 9 => fun q hq => by cases hq; exact k9
    | 10 => fun q hq => by cases hq; exact k10
    | 11 => fun q hq => by cases hq; exact k11
    | 12 => fun q hq => by cases hq; exact k12
    | 13 => fun q hq => by cases hq; exact k13
    | 14 => fun q hq => by cases hq; exact k14
    | 15 => fun q hq => by cases hq; exact k15
    | 16 => fun q hq => by cases hq; exact k16
    | 17 => fun q hq => by cases hq; exact k17
    | 18 => fun q hq => by cases hq; exact k18
    | 19 => fun q hq => by cases hq; exact k19
    | 20 => fun q hq => by cases hq; exact k20
    | 21 => fun q hq => by cases hq; exact k21
    | n + 22 => fun q hq => by simp [vwCl] at hq
set_option maxHeartbeats 4000000 in
theorem TYof {args : Array Value} {s : State} (hts : ∀ w ∈ lw_tbl, w.before args s = true) : ∃ cy : Nat → ClassId, ∀ (k : Nat) (q : ClassId × FieldType), (TY cy)[k]? = some q → ArrOfT s q.1 q.2 ∧ va_RA s q.1 q.2 := by
  obtain ⟨c0, a0, b0⟩ := KPof (hts _ W_AC_int)
  obtain ⟨c1, a1, b1⟩ := KPof (hts _ W_AC_char)
  obtain ⟨c2, a2, b2⟩ := KPof (hts _ W_AC_boolean)
  obtain ⟨c3, a3, b3⟩ := KPof (hts _ W_AC_long)
  obtain ⟨c4, a4, b4⟩ := KPof (hts _ W_AC_double)
  obtain ⟨c5, a5, b5⟩ := KOof (hts _ W_AO2)
  obtain ⟨c6, a6, b6⟩ := KOof (hts _ W_AO1)
  obtain ⟨c7, a7, b7⟩ := KOof (hts _ W_AO3)
  obtain ⟨c8, a8, b8⟩ := KPof (hts _ W_AC_byte)
  refine ⟨fun k => match k with | 0 => c0 | 1 => c1 | 2 => c2 | 3 => c3 | 4 => c4 | 5 => c5 | 6 => c6 | 7 => c7 | 8 => c8 | _ => c0, fun k => ?_⟩
  exact match k with
    | 0 => fun q hq => by cases hq; exact ⟨a0, b0⟩
    | 1 => fun q hq => by cases hq; exact ⟨a1, b1⟩
    | 2 => fun q hq => by cases hq; exact ⟨a2, b2⟩
    | 3 => fun q hq => by cases hq; exact ⟨a3, b3⟩
    | 4 => fun q hq => by cases hq; exact ⟨a4, b4⟩
    | 5 => fun q hq => by cases hq; exact ⟨a5, b5⟩
    | 6 => fun q hq => by cases hq; exact ⟨a6, b6⟩
    | 7 => fun q hq => by cases hq; exact ⟨a7, b7⟩
    | 8 => fun q hq => by cases hq; exact ⟨a8, b8⟩
    | n + 9 => fun q hq => by simp [TY] at hq
theorem lw_known {p : Program} {s : State} {m : MethodId} {meth : Method} {c : Code} {b L : Nat} {xs : Nat → Int32} (C0 : lw_At p s m meth c b L xs) : ∃ (D : va_G) (cy : Nat → ClassId) (sa sv : Nat → Nat) (dc : Nat), va_K D vwCl (TY cy) s ∧ EM sa sv dc (fun q : Nat => s.heap.size ≤ q) s s.heap ∧ va_Nc "java/lang/UnsupportedOperationException" "java/lang/IllegalArgumentException" s := by
  obtain ⟨hx, hb, hr, hml, hown, hts, hX, hbl, hlocks, hgv⟩ := C0
  have hs := flat_of_before _ hgv
  have hg : ∀ w ∈ flatC (Jvm.Cond.and given_1 narrow_1), w.before #[Value.ref b] s = true := hs
  have hA : ∀ a : Nat, a < s.heap.size → ¬ (fun q : Nat => s.heap.size ≤ q) a := fun a h => Nat.not_le.mpr h
  obtain ⟨D, hD⟩ := CLof hts
  obtain ⟨cy, hcy⟩ := TYof hts
  obtain ⟨sa, hsa⟩ := SKof hts (fun q hq => by
    rcases STRX_cl q hq with h | h <;> rw [h]
    · obtain ⟨c1, -, h1, -⟩ := Cond.instantiable_spec (hts _ W_iX11)
      exact ⟨c1, h1⟩
    · obtain ⟨c1, -, h1, -⟩ := Cond.instantiable_spec (hts _ W_iX15)
      exact ⟨c1, h1⟩)
  obtain ⟨v0, e0⟩ := ESk0 (A := fun q : Nat => s.heap.size ≤ q) hg (VK51 hsa).2 hA
  obtain ⟨v1, e1⟩ := ESk1 (A := fun q : Nat => s.heap.size ≤ q) hg (VK52 hsa).2 hA
  obtain ⟨v2, e2⟩ := ESk2 (A := fun q : Nat => s.heap.size ≤ q) hg (VK53 hsa).2 hA
  obtain ⟨v3, e3⟩ := ESk3 (A := fun q : Nat => s.heap.size ≤ q) hg (VK54 hsa).2 hA
  obtain ⟨v4, e4⟩ := ESk4 (A := fun q : Nat => s.heap.size ≤ q) hg (VK56 hsa).2 hA
  obtain ⟨dc, hdc, hdT⟩ := va_Tof (N := 0) (f := fun _ => .null) (by decide) (hg _ LG_58) (va_eqt (hg _ LG_59)) (fun j hj => absurd hj (Nat.not_lt_zero j)) hA
  refine ⟨D, cy, sa, fun k => match k with | 0 => v0 | 1 => v1 | 2 => v2 | 3 => v3 | 4 => v4 | _ => v0, dc, ⟨hD, hcy⟩, ⟨⟨NGof hts, hsa, ⟨va_AO.of (hts _ W_AO1), va_AO.of (hts _ W_AO2)⟩, vx_Zqof (hts _ W_ZL1) (hts _ W_ZI1) (hg _ LG_55) hA, vx_Zqof (hts _ W_ZL2) (hts _ W_ZI1) (hg _ LG_56) hA, va_Zof (hts _ W_ZL3) (hts _ W_ZI3) (va_eqi (hg _ LG_57)) hA⟩, ⟨va_AO.of (hts _ W_AO3), hts _ W_AO4⟩, FWof hts, ⟨va_Zref (hts _ W_ZL4) (hts _ W_ZI4) hdc hA, hdT⟩, fun k => ?_⟩, va_Nc.of (hg _ LG_60)⟩
  exact match k with
    | 0 => fun q hq => by cases hq; exact e0
    | 1 => fun q hq => by cases hq; exact e1
    | 2 => fun q hq => by cases hq; exact e2
    | 3 => fun q hq => by cases hq; exact e3
    | 4 => fun q hq => by cases hq; exact e4
    | n + 5 => fun q hq => by simp [SM] at hq
