theorem gSU {own : String} {idx : Nat} {y : MethodName} {w0 : Cond} (h1 : Cond.methodLink own idx y ∈ ALL) (h2 : Cond.sameMethod y.cls y.cls y.name y.desc ∈ ALL) (h3 : Cond.superclass own y.cls ∈ ALL) (h4 : Cond.instanceMethod y ∈ ALL) (h6 : Cond.initialized y.cls ∈ ALL) (h5 : w0 ∈ ALL) : GoodIn ALL (va_wsSU own idx y (w0 :: ALL)) := by
  refine gA (fun w h => ?_)
  simp only [va_wsSU, List.cons_append, List.nil_append, List.mem_cons] at h
  rcases h with rfl | rfl | rfl | rfl | rfl | rfl | h
  · exact h1
  · exact h2
  · exact h3
  · exact h4
  · exact h6
  · exact h5
  · exact h
theorem cpy0 (a b n : Nat) : va_cpy (fun _ => (0 : Int32)) (fun _ => 0) a b n = fun _ => 0 := by
  funext j
  simp [va_cpy]
def rg (n a b : Int32) : Prop := ¬ n < a ∧ n ≤ b
theorem bl01 (n lim : Int32) : bl n lim = 0 ∨ bl n lim = 1 := by
  unfold bl
  split
  · exact Or.inl rfl
  · split
    · exact Or.inl rfl
    · exact Or.inr rfl
theorem bl_ne {n lim : Int32} (h : ¬ bl n lim = 0) : bl n lim = 1 := (bl01 n lim).resolve_left h
theorem bl_nar (n lim : Int32) : narrow .boolean (.int (bl n lim)) = .int (bl n lim) := by
  rcases bl01 n lim with h | h <;> rw [h] <;> rfl
theorem bl_in {n : Int32} {k : Nat} (hk : k < 2 ^ 31) (h : bl n (nI k) = 1) : vp_in n k := by
  unfold bl at h
  split at h
  · exact absurd h (by decide)
  · rename_i h1
    split at h
    · exact absurd h (by decide)
    · rename_i h2
      obtain ⟨j, hj, rfl⟩ := nI_of h1
      have h3 : ¬ k ≤ j := fun q => h2 (nI_le q hj)
      exact vp_in_nI (by omega) hk
theorem bl_in16 {n : Int32} (h : bl n 16 = 1) : vp_in n 16 := bl_in (k := 16) (by decide) h
theorem run0 {n : Int32} (h : ¬ n < 1) : ¬ n ≤ 0 := by
  simp only [Int32.lt_iff_toInt_lt, Int32.le_iff_toInt_le] at *
  have h1 : (1 : Int32).toInt = 1 := rfl
  have h0 : (0 : Int32).toInt = 0 := rfl
  omega
theorem updL0 (k : Nat) : vp_updL (fun _ => (0 : Int64)) k 0 = fun _ => 0 := by
  funext j
  unfold vp_updL
  split <;> rfl
theorem upd00 (k : Nat) : upd (fun _ => (0 : Int32)) k 0 = fun _ => 0 := by
  funext j
  unfold upd
  split <;> rfl
