theorem gSU {own : String} {idx : Nat} {y : MethodName} {w0 : Cond} (h1 : Cond.methodLink own idx y ∈ ALL) (h2 : Cond.sameMethod y.cls y.cls y.name y.desc ∈ ALL) (h3 : Cond.superclass own y.cls ∈ ALL) (h4 : Cond.instanceMethod y ∈ ALL) (h6 : Cond.initialized y.cls ∈ ALL) (h5 : w0 ∈ ALL) : GoodIn ALL (va_wsSU own idx y (w0 :: ALL)) := by
  refine gA (fun w h => ?_)
  simp only [va_wsSU, List.cons_append, List.nil_append, List.mem_cons] at h
  rcases h with rfl | rfl | rfl | rfl | rfl | rfl | h
  · exact h1
  · exact h2
  · exact h3
  · exact h4
  · exact h6
  · exact h5
  · exact h
theorem cpy0 (a b n : Nat) : va_cpy (fun _ => (0 : Int32)) (fun _ => 0) a b n = fun _ => 0 := by
  funext j
  simp [va_cpy]
def rg (n a b : Int32) : Prop := ¬ n < a ∧ n ≤ b
theorem bl01 (n lim : Int32) : bl n lim = 0 ∨ bl n lim = 1 := by
  unfold bl
  split
  · exact Or.inl rfl
  · split
    · exact Or.inl rfl
    · exact Or.inr rfl
theorem bl_ne {n lim : Int32} (h : ¬ bl n lim = 0) : bl n lim = 1 := (bl01 n lim).resolve_left h
theorem bl_nar (n lim : Int32) : narrow .boolean (.int (bl n lim)) = .int (bl n lim) := by
  rcases bl01 n lim with h | h <;> rw [h] <;> rfl
theorem bl_in {n : Int32} {k : Nat} (hk : k < 2 ^ 31) (h : bl n (nI k) = 1) : vp_in n k := by
  unfold bl at h
  split at h
  · exact absurd h (by decide)
  · rename_i h1
    split at h
    · exact absurd h (by decide)
    · rename_i h2
      obtain ⟨j, hj, rfl⟩ := nI_of h1
      have h3 : ¬ k ≤ j := fun q => h2 (nI_le q hj)
      exact vp_in_nI (by omega) hk
theorem bl_in16 {n : Int32} (h : bl n 16 = 1) : vp_in n 16 := bl_in (k := 16) (by decide) h
theorem run0 {n : Int32} (h : ¬ n < 1) : ¬ n ≤ 0 := by
  simp only [Int32.lt_iff_toInt_lt, Int32.le_iff_toInt_le] at *
  have h1 : (1 : Int32).toInt = 1 := rfl
  have h0 : (0 : Int32).toInt = 0 := rfl
  omega
theorem updL0 (k : Nat) : vp_updL (fun _ => (0 : Int64)) k 0 = fun _ => 0 := by
  funext j
  unfold vp_updL
  split <;> rfl
theorem upd00 (k : Nat) : upd (fun _ => (0 : Int32)) k 0 = fun _ => 0 := by
  funext j
  unfold upd
  split <;> rfl
theorem add0 (x : Int32) : x + 0 = x := Int32.add_zero x
def okS (k b : Int32) : Int32 := if k = 42 then bl b 4 else if k = 43 then bl b 4 else if k = 45 then bl b 4 else if k = 99 then 1 else if k = 103 then bl b 16 else if k = 106 then bl b 60 else if k = 108 then bl b 4 else if k = 109 then bl b 4 else if k = 112 then bl b 16 else if k = 115 then bl b 4 else 0
def okD (k a b : Int32) : Int32 := if bl a 4 = 0 then 0 else if okS k b = 0 then 0 else 1
def okI (k a b : Int32) : Int32 := if k = 101 then bl b 5 else if k = 104 then 1 else if k = 107 then bl b 6 else if k = 110 then 1 else if k = 114 then 1 else if k = 120 then 1 else okD k a b
theorem i2eq {x y : Int32} {n : Int} (h : x.toInt = n) (hy : y.toInt = n) : x = y := Int32.toInt_inj.mp (h.trans hy.symm)
theorem tsw (x : Int32) : (x.toInt < 101 ∨ 120 < x.toInt) ∨ x = 101 ∨ x = 102 ∨ x = 103 ∨ x = 104 ∨ x = 105 ∨ x = 106 ∨ x = 107 ∨ x = 108 ∨ x = 109 ∨ x = 110 ∨ x = 111 ∨ x = 112 ∨ x = 113 ∨ x = 114 ∨ x = 115 ∨ x = 116 ∨ x = 117 ∨ x = 118 ∨ x = 119 ∨ x = 120 := by
  have h : x.toInt < 101 ∨ 120 < x.toInt ∨ x.toInt = 101 ∨ x.toInt = 102 ∨ x.toInt = 103 ∨ x.toInt = 104 ∨ x.toInt = 105 ∨ x.toInt = 106 ∨ x.toInt = 107 ∨ x.toInt = 108 ∨ x.toInt = 109 ∨ x.toInt = 110 ∨ x.toInt = 111 ∨ x.toInt = 112 ∨ x.toInt = 113 ∨ x.toInt = 114 ∨ x.toInt = 115 ∨ x.toInt = 116 ∨ x.toInt = 117 ∨ x.toInt = 118 ∨ x.toInt = 119 ∨ x.toInt = 120 := by omega
  rcases h with h | h | h | h | h | h | h | h | h | h | h | h | h | h | h | h | h | h | h | h | h | h
  · exact Or.inl (Or.inl h)
  · exact Or.inl (Or.inr h)
  · exact Or.inr (Or.inl (i2eq h rfl))
  · exact Or.inr (Or.inr (Or.inl (i2eq h rfl)))
  · exact Or.inr (Or.inr (Or.inr (Or.inl (i2eq h rfl))))
  · exact Or.inr (Or.inr (Or.inr (Or.inr (Or.inl (i2eq h rfl)))))
  · exact Or.inr (Or.inr (Or.inr (Or.inr (Or.inr (Or.inl (i2eq h rfl))))))
  · exact Or.inr (Or.inr (Or.inr (Or.inr (Or.inr (Or.inr (Or.inl (i2eq h rfl)))))))
  · exact Or.inr (Or.inr (Or.inr (Or.inr (Or.inr (Or.inr (Or.inr (Or.inl (i2eq h rfl))))))))
  · exact Or.inr (Or.inr (Or.inr (Or.inr (Or.inr (Or.inr (Or.inr (Or.inr (Or.inl (i2eq h rfl)))))))))
  · exact Or.inr (Or.inr (Or.inr (Or.inr (Or.inr (Or.inr (Or.inr (Or.inr (Or.inr (Or.inl (i2eq h rfl))))))))))
  · exact Or.inr (Or.inr (Or.inr (Or.inr (Or.inr (Or.inr (Or.inr (Or.inr (Or.inr (Or.inr (Or.inl (i2eq h rfl)))))))))))
  · exact Or.inr (Or.inr (Or.inr (Or.inr (Or.inr (Or.inr (Or.inr (Or.inr (Or.inr (Or.inr (Or.inr (Or.inl (i2eq h rfl))))))))))))
  · exact Or.inr (Or.inr (Or.inr (Or.inr (Or.inr (Or.inr (Or.inr (Or.inr (Or.inr (Or.inr (Or.inr (Or.inr (Or.inl (i2eq h rfl)))))))))))))
  · exact Or.inr (Or.inr (Or.inr (Or.inr (Or.inr (Or.inr (Or.inr (Or.inr (Or.inr (Or.inr (Or.inr (Or.inr (Or.inr (Or.inl (i2eq h rfl))))))))))))))
  · exact Or.inr (Or.inr (Or.inr (Or.inr (Or.inr (Or.inr (Or.inr (Or.inr (Or.inr (Or.inr (Or.inr (Or.inr (Or.inr (Or.inr (Or.inl (i2eq h rfl)))))))))))))))
  · exact Or.inr (Or.inr (Or.inr (Or.inr (Or.inr (Or.inr (Or.inr (Or.inr (Or.inr (Or.inr (Or.inr (Or.inr (Or.inr (Or.inr (Or.inr (Or.inl (i2eq h rfl))))))))))))))))
  · exact Or.inr (Or.inr (Or.inr (Or.inr (Or.inr (Or.inr (Or.inr (Or.inr (Or.inr (Or.inr (Or.inr (Or.inr (Or.inr (Or.inr (Or.inr (Or.inr (Or.inl (i2eq h rfl)))))))))))))))))
  · exact Or.inr (Or.inr (Or.inr (Or.inr (Or.inr (Or.inr (Or.inr (Or.inr (Or.inr (Or.inr (Or.inr (Or.inr (Or.inr (Or.inr (Or.inr (Or.inr (Or.inr (Or.inl (i2eq h rfl))))))))))))))))))
  · exact Or.inr (Or.inr (Or.inr (Or.inr (Or.inr (Or.inr (Or.inr (Or.inr (Or.inr (Or.inr (Or.inr (Or.inr (Or.inr (Or.inr (Or.inr (Or.inr (Or.inr (Or.inr (Or.inl (i2eq h rfl)))))))))))))))))))
  · exact Or.inr (Or.inr (Or.inr (Or.inr (Or.inr (Or.inr (Or.inr (Or.inr (Or.inr (Or.inr (Or.inr (Or.inr (Or.inr (Or.inr (Or.inr (Or.inr (Or.inr (Or.inr (Or.inr (Or.inl (i2eq h rfl))))))))))))))))))))
  · exact Or.inr (Or.inr (Or.inr (Or.inr (Or.inr (Or.inr (Or.inr (Or.inr (Or.inr (Or.inr (Or.inr (Or.inr (Or.inr (Or.inr (Or.inr (Or.inr (Or.inr (Or.inr (Or.inr (Or.inr ((i2eq h rfl)))))))))))))))))))))
theorem lsw (x : Int32) : (¬ (42 : Int) = x.toInt ∧ ¬ (43 : Int) = x.toInt ∧ ¬ (45 : Int) = x.toInt ∧ ¬ (99 : Int) = x.toInt ∧ ¬ (103 : Int) = x.toInt ∧ ¬ (106 : Int) = x.toInt ∧ ¬ (108 : Int) = x.toInt ∧ ¬ (109 : Int) = x.toInt ∧ ¬ (112 : Int) = x.toInt ∧ ¬ (115 : Int) = x.toInt) ∨ x = 42 ∨ x = 43 ∨ x = 45 ∨ x = 99 ∨ x = 103 ∨ x = 106 ∨ x = 108 ∨ x = 109 ∨ x = 112 ∨ x = 115 := by
  by_cases h : ¬ (42 : Int) = x.toInt ∧ ¬ (43 : Int) = x.toInt ∧ ¬ (45 : Int) = x.toInt ∧ ¬ (99 : Int) = x.toInt ∧ ¬ (103 : Int) = x.toInt ∧ ¬ (106 : Int) = x.toInt ∧ ¬ (108 : Int) = x.toInt ∧ ¬ (109 : Int) = x.toInt ∧ ¬ (112 : Int) = x.toInt ∧ ¬ (115 : Int) = x.toInt
  · exact Or.inl h
  · have h2 : x.toInt = 42 ∨ x.toInt = 43 ∨ x.toInt = 45 ∨ x.toInt = 99 ∨ x.toInt = 103 ∨ x.toInt = 106 ∨ x.toInt = 108 ∨ x.toInt = 109 ∨ x.toInt = 112 ∨ x.toInt = 115 := by omega
    rcases h2 with h | h | h | h | h | h | h | h | h | h
    · exact Or.inr (Or.inl (i2eq h rfl))
    · exact Or.inr (Or.inr (Or.inl (i2eq h rfl)))
    · exact Or.inr (Or.inr (Or.inr (Or.inl (i2eq h rfl))))
    · exact Or.inr (Or.inr (Or.inr (Or.inr (Or.inl (i2eq h rfl)))))
    · exact Or.inr (Or.inr (Or.inr (Or.inr (Or.inr (Or.inl (i2eq h rfl))))))
    · exact Or.inr (Or.inr (Or.inr (Or.inr (Or.inr (Or.inr (Or.inl (i2eq h rfl)))))))
    · exact Or.inr (Or.inr (Or.inr (Or.inr (Or.inr (Or.inr (Or.inr (Or.inl (i2eq h rfl))))))))
    · exact Or.inr (Or.inr (Or.inr (Or.inr (Or.inr (Or.inr (Or.inr (Or.inr (Or.inl (i2eq h rfl)))))))))
    · exact Or.inr (Or.inr (Or.inr (Or.inr (Or.inr (Or.inr (Or.inr (Or.inr (Or.inr (Or.inl (i2eq h rfl))))))))))
    · exact Or.inr (Or.inr (Or.inr (Or.inr (Or.inr (Or.inr (Or.inr (Or.inr (Or.inr (Or.inr ((i2eq h rfl)))))))))))
theorem okI_out {k a b : Int32} (h : k.toInt < 101 ∨ 120 < k.toInt) : okI k a b = okD k a b := by
  have n : ∀ (y : Int32), 101 ≤ y.toInt → y.toInt ≤ 120 → ¬ k = y := fun y h1 h2 e => by rw [e] at h; omega
  unfold okI
  rw [if_neg (n 101 (by decide) (by decide)), if_neg (n 104 (by decide) (by decide)), if_neg (n 107 (by decide) (by decide)), if_neg (n 110 (by decide) (by decide)), if_neg (n 114 (by decide) (by decide)), if_neg (n 120 (by decide) (by decide))]
theorem okS_d {k b : Int32} (h : ¬ (42 : Int) = k.toInt ∧ ¬ (43 : Int) = k.toInt ∧ ¬ (45 : Int) = k.toInt ∧ ¬ (99 : Int) = k.toInt ∧ ¬ (103 : Int) = k.toInt ∧ ¬ (106 : Int) = k.toInt ∧ ¬ (108 : Int) = k.toInt ∧ ¬ (109 : Int) = k.toInt ∧ ¬ (112 : Int) = k.toInt ∧ ¬ (115 : Int) = k.toInt) : okS k b = 0 := by
  obtain ⟨a0, a1, a2, a3, a4, a5, a6, a7, a8, a9⟩ := h
  unfold okS
  rw [if_neg (fun e => a0 (by rw [e]; rfl)), if_neg (fun e => a1 (by rw [e]; rfl)), if_neg (fun e => a2 (by rw [e]; rfl)), if_neg (fun e => a3 (by rw [e]; rfl)), if_neg (fun e => a4 (by rw [e]; rfl)), if_neg (fun e => a5 (by rw [e]; rfl)), if_neg (fun e => a6 (by rw [e]; rfl)), if_neg (fun e => a7 (by rw [e]; rfl)), if_neg (fun e => a8 (by rw [e]; rfl)), if_neg (fun e => a9 (by rw [e]; rfl))]
