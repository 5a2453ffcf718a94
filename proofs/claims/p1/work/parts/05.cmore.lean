theorem gSU {own : String} {idx : Nat} {y : MethodName} {w0 : Cond} (h1 : Cond.methodLink own idx y ∈ ALL) (h2 : Cond.sameMethod y.cls y.cls y.name y.desc ∈ ALL) (h3 : Cond.superclass own y.cls ∈ ALL) (h4 : Cond.instanceMethod y ∈ ALL) (h6 : Cond.initialized y.cls ∈ ALL) (h5 : w0 ∈ ALL) : GoodIn ALL (va_wsSU own idx y (w0 :: ALL)) := by
  refine gA (fun w h => ?_)
  simp only [va_wsSU, List.cons_append, List.nil_append, List.mem_cons] at h
  rcases h with rfl | rfl | rfl | rfl | rfl | rfl | h
  · exact h1
  · exact h2
  · exact h3
  · exact h4
  · exact h6
  · exact h5
  · exact h
theorem cpy0 (a b n : Nat) : va_cpy (fun _ => (0 : Int32)) (fun _ => 0) a b n = fun _ => 0 := by
  funext j
  simp [va_cpy]
def rg (n a b : Int32) : Prop := ¬ n < a ∧ n ≤ b
theorem bl01 (n lim : Int32) : bl n lim = 0 ∨ bl n lim = 1 := by
  unfold bl
  split
  · exact Or.inl rfl
  · split
    · exact Or.inl rfl
    · exact Or.inr rfl
theorem bl_ne {n lim : Int32} (h : ¬ bl n lim = 0) : bl n lim = 1 := (bl01 n lim).resolve_left h
theorem bl_nar (n lim : Int32) : narrow .boolean (.int (bl n lim)) = .int (bl n lim) := by
  rcases bl01 n lim with h | h <;> rw [h] <;> rfl
theorem bl_in {n : Int32} {k : Nat} (hk : k < 2 ^ 31) (h : bl n (nI k) = 1) : vp_in n k := by
  unfold bl at h
  split at h
  · exact absurd h (by decide)
  · rename_i h1
    split at h
    · exact absurd h (by decide)
    · rename_i h2
      obtain ⟨j, hj, rfl⟩ := nI_of h1
      have h3 : ¬ k ≤ j := fun q => h2 (nI_le q hj)
      exact vp_in_nI (by omega) hk
theorem bl_in16 {n : Int32} (h : bl n 16 = 1) : vp_in n 16 := bl_in (k := 16) (by decide) h
theorem run0 {n : Int32} (h : ¬ n < 1) : ¬ n ≤ 0 := by
  simp only [Int32.lt_iff_toInt_lt, Int32.le_iff_toInt_le] at *
  have h1 : (1 : Int32).toInt = 1 := rfl
  have h0 : (0 : Int32).toInt = 0 := rfl
  omega
theorem updL0 (k : Nat) : vp_updL (fun _ => (0 : Int64)) k 0 = fun _ => 0 := by
  funext j
  unfold vp_updL
  split <;> rfl
theorem upd00 (k : Nat) : upd (fun _ => (0 : Int32)) k 0 = fun _ => 0 := by
  funext j
  unfold upd
  split <;> rfl
theorem add0 (x : Int32) : x + 0 = x := Int32.add_zero x
def okS (k b : Int32) : Int32 := if k = 42 then bl b 4 else if k = 43 then bl b 4 else if k = 45 then bl b 4 else if k = 99 then 1 else if k = 103 then bl b 16 else if k = 106 then bl b 60 else if k = 108 then bl b 4 else if k = 109 then bl b 4 else if k = 112 then bl b 16 else if k = 115 then bl b 4 else 0
def okD (k a b : Int32) : Int32 := if bl a 4 = 0 then 0 else if okS k b = 0 then 0 else 1
def okI (k a b : Int32) : Int32 := if k = 101 then bl b 5 else if k = 104 then 1 else if k = 107 then bl b 6 else if k = 110 then 1 else if k = 114 then 1 else if k = 120 then 1 else okD k a b
theorem i2eq {x y : Int32} {n : Int} (h : x.toInt = n) (hy : y.toInt = n) : x = y := Int32.toInt_inj.mp (h.trans hy.symm)
theorem lsw (x : Int32) : (¬ (42 : Int) = x.toInt ∧ ¬ (43 : Int) = x.toInt ∧ ¬ (45 : Int) = x.toInt ∧ ¬ (99 : Int) = x.toInt ∧ ¬ (103 : Int) = x.toInt ∧ ¬ (106 : Int) = x.toInt ∧ ¬ (108 : Int) = x.toInt ∧ ¬ (109 : Int) = x.toInt ∧ ¬ (112 : Int) = x.toInt ∧ ¬ (115 : Int) = x.toInt) ∨ x = 42 ∨ x = 43 ∨ x = 45 ∨ x = 99 ∨ x = 103 ∨ x = 106 ∨ x = 108 ∨ x = 109 ∨ x = 112 ∨ x = 115 := by
  by_cases h : ¬ (42 : Int) = x.toInt ∧ ¬ (43 : Int) = x.toInt ∧ ¬ (45 : Int) = x.toInt ∧ ¬ (99 : Int) = x.toInt ∧ ¬ (103 : Int) = x.toInt ∧ ¬ (106 : Int) = x.toInt ∧ ¬ (108 : Int) = x.toInt ∧ ¬ (109 : Int) = x.toInt ∧ ¬ (112 : Int) = x.toInt ∧ ¬ (115 : Int) = x.toInt
  · exact Or.inl h
  · have h2 : x.toInt = 42 ∨ x.toInt = 43 ∨ x.toInt = 45 ∨ x.toInt = 99 ∨ x.toInt = 103 ∨ x.toInt = 106 ∨ x.toInt = 108 ∨ x.toInt = 109 ∨ x.toInt = 112 ∨ x.toInt = 115 := by omega
    rcases h2 with h | h | h | h | h | h | h | h | h | h
    · exact Or.inr (Or.inl (i2eq h rfl))
    · exact Or.inr (Or.inr (Or.inl (i2eq h rfl)))
    · exact Or.inr (Or.inr (Or.inr (Or.inl (i2eq h rfl))))
    · exact Or.inr (Or.inr (Or.inr (Or.inr (Or.inl (i2eq h rfl)))))
    · exact Or.inr (Or.inr (Or.inr (Or.inr (Or.inr (Or.inl (i2eq h rfl))))))
    · exact Or.inr (Or.inr (Or.inr (Or.inr (Or.inr (Or.inr (Or.inl (i2eq h rfl)))))))
    · exact Or.inr (Or.inr (Or.inr (Or.inr (Or.inr (Or.inr (Or.inr (Or.inl (i2eq h rfl))))))))
    · exact Or.inr (Or.inr (Or.inr (Or.inr (Or.inr (Or.inr (Or.inr (Or.inr (Or.inl (i2eq h rfl)))))))))
    · exact Or.inr (Or.inr (Or.inr (Or.inr (Or.inr (Or.inr (Or.inr (Or.inr (Or.inr (Or.inl (i2eq h rfl))))))))))
    · exact Or.inr (Or.inr (Or.inr (Or.inr (Or.inr (Or.inr (Or.inr (Or.inr (Or.inr (Or.inr ((i2eq h rfl)))))))))))
theorem okI_out {k a b : Int32} (h : k.toInt < 101 ∨ 120 < k.toInt) : okI k a b = okD k a b := by
  have n : ∀ (y : Int32), 101 ≤ y.toInt → y.toInt ≤ 120 → ¬ k = y := fun y h1 h2 e => by rw [e] at h; omega
  unfold okI
  rw [if_neg (n 101 (by decide) (by decide)), if_neg (n 104 (by decide) (by decide)), if_neg (n 107 (by decide) (by decide)), if_neg (n 110 (by decide) (by decide)), if_neg (n 114 (by decide) (by decide)), if_neg (n 120 (by decide) (by decide))]
theorem okS_d {k b : Int32} (h : ¬ (42 : Int) = k.toInt ∧ ¬ (43 : Int) = k.toInt ∧ ¬ (45 : Int) = k.toInt ∧ ¬ (99 : Int) = k.toInt ∧ ¬ (103 : Int) = k.toInt ∧ ¬ (106 : Int) = k.toInt ∧ ¬ (108 : Int) = k.toInt ∧ ¬ (109 : Int) = k.toInt ∧ ¬ (112 : Int) = k.toInt ∧ ¬ (115 : Int) = k.toInt) : okS k b = 0 := by
  obtain ⟨a0, a1, a2, a3, a4, a5, a6, a7, a8, a9⟩ := h
  unfold okS
  rw [if_neg (fun e => a0 (by rw [e]; rfl)), if_neg (fun e => a1 (by rw [e]; rfl)), if_neg (fun e => a2 (by rw [e]; rfl)), if_neg (fun e => a3 (by rw [e]; rfl)), if_neg (fun e => a4 (by rw [e]; rfl)), if_neg (fun e => a5 (by rw [e]; rfl)), if_neg (fun e => a6 (by rw [e]; rfl)), if_neg (fun e => a7 (by rw [e]; rfl)), if_neg (fun e => a8 (by rw [e]; rfl)), if_neg (fun e => a9 (by rw [e]; rfl))]
theorem tsw_o' : ∀ n : Nat, n < 20 → (n = 0 ∨ n = 3 ∨ n = 6 ∨ n = 9 ∨ n = 13 ∨ n = 19) ∨ (#[104, 110, 110, 95, 110, 110, 97, 110, 110, 95, 110, 110, 110, 95, 110, 110, 110, 110, 110, 95] : Array Int)[n]? = some 110 := by decide
theorem tsw_o (n : Nat) (h : n < 20) (h0 : n ≠ 0) (h1 : n ≠ 3) (h2 : n ≠ 6) (h3 : n ≠ 9) (h4 : n ≠ 13) (h5 : n ≠ 19) : (#[104, 110, 110, 95, 110, 110, 97, 110, 110, 95, 110, 110, 110, 95, 110, 110, 110, 110, 110, 95] : Array Int)[n]? = some 110 := (tsw_o' n h).resolve_left (by omega)
theorem okI_n {k a b : Int32} (h0 : ¬ k = 101) (h1 : ¬ k = 104) (h2 : ¬ k = 107) (h3 : ¬ k = 110) (h4 : ¬ k = 114) (h5 : ¬ k = 120) : okI k a b = okD k a b := by
  unfold okI
  rw [if_neg h0, if_neg h1, if_neg h2, if_neg h3, if_neg h4, if_neg h5]
theorem tsw4 (x a b : Int32) : ((x.toInt < 101 ∨ 120 < x.toInt) ∧ okI x a b = okD x a b) ∨ (¬ x.toInt < 101 ∧ ¬ 120 < x.toInt ∧ (#[104, 110, 110, 95, 110, 110, 97, 110, 110, 95, 110, 110, 110, 95, 110, 110, 110, 110, 110, 95] : Array Int)[(x.toInt - 101).toNat]? = some 110 ∧ okI x a b = okD x a b) ∨ x = 101 ∨ x = 104 ∨ x = 107 ∨ x = 110 ∨ x = 114 ∨ x = 120 := by
  by_cases h0 : x = 101
  · exact Or.inr (Or.inr (Or.inl h0))
  by_cases h1 : x = 104
  · exact Or.inr (Or.inr (Or.inr (Or.inl h1)))
  by_cases h2 : x = 107
  · exact Or.inr (Or.inr (Or.inr (Or.inr (Or.inl h2))))
  by_cases h3 : x = 110
  · exact Or.inr (Or.inr (Or.inr (Or.inr (Or.inr (Or.inl h3)))))
  by_cases h4 : x = 114
  · exact Or.inr (Or.inr (Or.inr (Or.inr (Or.inr (Or.inr (Or.inl h4))))))
  by_cases h5 : x = 120
  · exact Or.inr (Or.inr (Or.inr (Or.inr (Or.inr (Or.inr (Or.inr h5))))))
  by_cases hr : x.toInt < 101 ∨ 120 < x.toInt
  · exact Or.inl ⟨hr, okI_out hr⟩
  · have g1 : ¬ x.toInt < 101 := fun z => hr (Or.inl z)
    have g2 : ¬ 120 < x.toInt := fun z => hr (Or.inr z)
    exact Or.inr (Or.inl ⟨g1, g2, tsw_o _ (by omega) (fun z => h0 (i2eq (n := 101) (by omega) rfl)) (fun z => h1 (i2eq (n := 104) (by omega) rfl)) (fun z => h2 (i2eq (n := 107) (by omega) rfl)) (fun z => h3 (i2eq (n := 110) (by omega) rfl)) (fun z => h4 (i2eq (n := 114) (by omega) rfl)) (fun z => h5 (i2eq (n := 120) (by omega) rfl)), okI_n h0 h1 h2 h3 h4 h5⟩)
