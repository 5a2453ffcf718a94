/-! the model's side: what its methods know of the start -/
def ES (q v : Nat) (L : List Int32) : zE := fun A U H => va_O "java/lang/String" q A U H ∧ va_OF "java/lang/String" "coder" "B" (.int 0) q A U H ∧ va_OF "java/lang/String" "value" "[B" (.ref v) q A U H ∧ va_T .byte v L.length (fun j => .int (L.getD j 0)) A U H
theorem ES_ok {q v : Nat} {L : List Int32} : zOK (ES q v L) := fun A B s U H hW h hAB hk => by
  obtain ⟨h1, h2, h3, h4⟩ := h
  exact ⟨va_O.moved hW.alike ((h1.kept hk).narrow hAB), va_OF.moved hW.alike ((h2.kept hk).narrow hAB), va_OF.moved hW.alike ((h3.kept hk).narrow hAB), va_T.moved hW.alike ((h4.kept hk).narrow hAB)⟩
def SM : List (Nat × List Int32) := [(51, []), (52, [110, 99, 109, 43, 45, 42, 108, 103, 115, 112, 106, 107, 101, 120, 114, 104]), (53, [99, 109, 43, 45, 42, 108, 103, 115, 112, 106]), (54, [109, 43, 45, 42, 108, 115]), (56, [105, 98, 99])]
def FWN : List (String × MethodName × MethodName) := [(RJx4a65c, ⟨"java/util/List", "size", "()I"⟩, yJx4a65c_size_8abf5), (RJx4a65c, ⟨"java/util/List", "add", "(Ljava/lang/Object;)Z"⟩, yJx4a65c_add_9ea2d), (RJx4a65c, ⟨"java/util/List", "clear", "()V"⟩, yJx4a65c_clear_da8c8), (RJx4a65c, ⟨"java/util/List", "iterator", "()Ljava/util/Iterator;"⟩, yJx4a65c_iterator_32c93), (RJx4a65c, ⟨"java/util/List", "isEmpty", "()Z"⟩, yJx4a65c_isEmpty_aae02), (RJx35411, ⟨"java/util/Iterator", "hasNext", "()Z"⟩, yJx35411_hasNext_aae02)]
theorem FWN_ok : ∀ q ∈ FWN, q.2.1.cls ≠ "java/lang/invoke/MethodHandle" ∧ q.2.1.cls ≠ "java/lang/invoke/VarHandle" := by decide +kernel
def EM (sa sv : Nat → Nat) (dc : Nat) : zE := fun A U H => EX sa A U H ∧ (va_AO "java/lang/Object" U ∧ va_AOA .boolean U) ∧ (∀ (k : Nat) (q : String × MethodName × MethodName), FWN[k]? = some q → va_Fw q.1 q.2.1 q.2.2 U) ∧ (va_Z "java/util/ArrayList" "DEFAULTCAPACITY_EMPTY_ELEMENTDATA" "[Ljava/lang/Object;" (.ref dc) A U H ∧ va_T (.object "java/lang/Object") dc 0 (fun _ => .null) A U H) ∧ ∀ (k : Nat) (q : Nat × List Int32), SM[k]? = some q → ES (sa q.1) (sv k) q.2 A U H
theorem AOA_moved {ty : FieldType} {u U : State} (hvm : u.vm.Alike U.vm) (h : va_AOA ty u) : va_AOA ty U := by
  have h2 : (Cond.arrayOver (.array ty)).before #[] (u.setVm U.vm) = true := by
    rw [Cond.arrayOver_setVmC hvm]
    exact h
  have e : (Cond.arrayOver (.array ty)).before #[] (u.setVm U.vm) = (Cond.arrayOver (.array ty)).before #[] U := by
    simp only [Cond.before, Cond.holds, Cond.value, State.vm_setVm]
    rfl
  exact e.symm.trans h2
theorem EM_ok {sa sv : Nat → Nat} {dc : Nat} : zOK (EM sa sv dc) := fun A B s U H hW h hAB hk => by
  obtain ⟨h1, ⟨h2, h3⟩, h4, ⟨h5, h6⟩, h7⟩ := h
  exact ⟨EX_ok A B s U H hW h1 hAB hk, ⟨va_AO.moved hW.alike h2, AOA_moved hW.alike h3⟩, fun k q hq => va_Fw.moved (FWN_ok q (List.mem_of_getElem? hq)) hW.alike (h4 k q hq), ⟨va_Z.moved hW.alike ((h5.kept hk).narrow hAB), va_T.moved hW.alike ((h6.kept hk).narrow hAB)⟩, fun k q hq => ES_ok A B s U H hW (h7 k q hq) hAB hk⟩
theorem gF {own C : String} {idx : Nat} {x y : MethodName} {w0 : Cond} (h1 : Cond.methodLink own idx x ∈ ALL) (h2 : Cond.selects C x y ∈ ALL) (h3 : Cond.instanceMethod y ∈ ALL) (h4 : Cond.initialized y.cls ∈ ALL) (h5 : w0 ∈ ALL) : GoodIn ALL (va_wsF own idx C x y (w0 :: ALL)) := by
  refine gA (fun w h => ?_)
  simp only [va_wsF, List.cons_append, List.nil_append, List.mem_cons] at h
  rcases h with rfl | rfl | rfl | rfl | rfl | h
  · exact h1
  · exact h2
  · exact h3
  · exact h4
  · exact h5
  · exact h
def inL (v lo hi : Int64) : Int32 := if v < lo then 0 else if hi < v then 0 else 1
def ixg (L : List Int32) (c : Int32) (k : Int32) : Int32 := match L with
  | [] => -1
  | x :: r => if x = c then k else ixg r c (k + 1)
section BASE3
variable {p : Program} {l : Launch} {e : Env} {R : Room} {s : State} {m : MethodId} {args : Array Value} {below : List Frame} {meth : Method} {c : Code} {H : Heap} {locs : List Loc} {cells slots : Nat} {Q : State → Prop}
variable {D : va_G} {cl : List vw_C} {tys : List (ClassId × FieldType)} {E : zE} {av : List Value} {ws wc wr wx : va_W} {sz mc ms pc : Nat} {A : Nat → Prop} {ls : Array Slot} {st0 rest : List Value} {a : Array Value}
theorem recvS {C : String} {t : Nat} (h : va_O C t A s s.heap) (hS : va_S A s.heap H locs) : ∃ cell : Cell, H[t]? = some cell ∧ cell.vm.isStatics = false ∧ s.vm.findClass C = some cell.cls := by
  obtain ⟨cell, h1, h2, h3, -⟩ := h.kept hS.2.1
  exact ⟨cell, h1, h2, h3⟩
theorem z_callFiJ {S : Type} {post : Int32 → S → Prop} {w1 : S → va_W} (hr : va_Run5 p l e R s m args below meth c H locs cells slots mc ms (F0 m pc ls st0) rest (va_Qi post (zB D cl tys w1 (va_A wc H.size)) (va_A wc H.size) a) (va_A wc H.size)) (hP : va_P D cl ws H) (hD : va_D A ws) (hS : va_S A s.heap H locs) (hA : ∀ q, s.heap.size ≤ q → A q)
    (isC isR : List Nat) (hC : isC.map (fun i => ws[i]?) = wc.map some) (hR : isR.map (fun i => ws[i]?) = wr.map some) (hn : va_nd isR = true) (hdis : ∀ i ∈ isR, i ∉ isC)
    (kk : ∀ (r : Int32) (u : S) (H1 : Heap) (locs1 : List Loc), post r u → va_P D cl (wr ++ w1 u) H1 → va_D A (wr ++ w1 u) → va_S A s.heap H1 locs1 → W p l e R s m args below meth c H1 locs1 (cells + mc) (slots + ms) Q (F0 m (pc + 5) ls (.int r :: rest))) : W p l e R s m args below meth c H locs cells slots Q (F0 m pc ls st0) :=
  va_callFi hr hS (fun q _ h => va_free hD hS hA isC hC q h) (va_free hD hS hA isC hC) (fun r u t H1 locs1 ht hvm hw hB hz hk hS1 => by
    obtain ⟨hP1, -, hD1⟩ := hB
    rw [ht] at hP1
    obtain ⟨h1, h2⟩ := va_join hP hD isC isR hC hR hn hdis hk (va_free hD hS hA isC hC) hP1 hD1
    exact kk r u H1 locs1 hw h1 h2 hS1)
theorem z_callFvJ {S : Type} {post : S → Prop} {w1 : S → va_W} (hr : va_Run5 p l e R s m args below meth c H locs cells slots mc ms (F0 m pc ls st0) rest (va_Qv post (zB D cl tys w1 (va_A wc H.size)) (va_A wc H.size) a) (va_A wc H.size)) (hP : va_P D cl ws H) (hD : va_D A ws) (hS : va_S A s.heap H locs) (hA : ∀ q, s.heap.size ≤ q → A q)
    (isC isR : List Nat) (hC : isC.map (fun i => ws[i]?) = wc.map some) (hR : isR.map (fun i => ws[i]?) = wr.map some) (hn : va_nd isR = true) (hdis : ∀ i ∈ isR, i ∉ isC)
    (kk : ∀ (u : S) (H1 : Heap) (locs1 : List Loc), post u → va_P D cl (wr ++ w1 u) H1 → va_D A (wr ++ w1 u) → va_S A s.heap H1 locs1 → W p l e R s m args below meth c H1 locs1 (cells + mc) (slots + ms) Q (F0 m (pc + 5) ls rest)) : W p l e R s m args below meth c H locs cells slots Q (F0 m pc ls st0) :=
  va_callFv hr hS (fun q _ h => va_free hD hS hA isC hC q h) (va_free hD hS hA isC hC) (fun u t H1 locs1 ht hvm hw hB hz hk hS1 => by
    obtain ⟨hP1, -, hD1⟩ := hB
    rw [ht] at hP1
    obtain ⟨h1, h2⟩ := va_join hP hD isC isR hC hR hn hdis hk (va_free hD hS hA isC hC) hP1 hD1
    exact kk u H1 locs1 hw h1 h2 hS1)
theorem z_callFqJ {S : Type} {post : Option Nat → S → Prop} {w1 : S → va_W} (hr : va_Run5 p l e R s m args below meth c H locs cells slots mc ms (F0 m pc ls st0) rest (va_Qq post (zB D cl tys w1 (va_A wc H.size)) (va_A wc H.size) a) (va_A wc H.size)) (hP : va_P D cl ws H) (hD : va_D A ws) (hS : va_S A s.heap H locs) (hA : ∀ q, s.heap.size ≤ q → A q)
    (isC isR : List Nat) (hC : isC.map (fun i => ws[i]?) = wc.map some) (hR : isR.map (fun i => ws[i]?) = wr.map some) (hn : va_nd isR = true) (hdis : ∀ i ∈ isR, i ∉ isC)
    (kk : ∀ (r : Option Nat) (u : S) (H1 : Heap) (locs1 : List Loc), post r u → va_P D cl (wr ++ w1 u) H1 → va_D A (wr ++ w1 u) → va_S A s.heap H1 locs1 → W p l e R s m args below meth c H1 locs1 (cells + mc) (slots + ms) Q (F0 m (pc + 5) ls (va_rf r :: rest))) : W p l e R s m args below meth c H locs cells slots Q (F0 m pc ls st0) :=
  va_callFq hr hS (fun q _ h => va_free hD hS hA isC hC q h) (va_free hD hS hA isC hC) (fun r u t H1 locs1 ht hvm hw hB hz hk hS1 => by
    obtain ⟨hP1, -, hD1⟩ := hB
    rw [ht] at hP1
    obtain ⟨h1, h2⟩ := va_join hP hD isC isR hC hR hn hdis hk (va_free hD hS hA isC hC) hP1 hD1
    exact kk r u H1 locs1 hw h1 h2 hS1)
theorem z_retf {S : Type} {post : UInt32 → S → Prop} {w1 : S → va_W} {cc : ByteArray} {v : UInt32} (u : S) (hx : p.tables.exec = Jvm.exec) (hb : c.code = cc) (hr : meth.sig.returnType = some .float) (hlocks : meth.locks = false) (hK : va_K D cl tys s) (hpost : post v u) (hP : va_P D cl (w1 u) H) (hD : va_D A (w1 u)) (hS : va_S A s.heap H locs) (hc : cells ≤ mc) (hs : slots ≤ ms) (hdg : decode cc pc = .ok (.freturn, 1)) :
    W p l e R s m args below meth c H locs cells slots (MQ below (va_Qf post (zB D cl tys w1 A) A) args s mc ms A) (F0 m pc ls [.float v]) :=
  W.widen hc hs (W.fret hx hb hr (fun t ht hW => ⟨⟨v, u, rfl, hpost, by rw [ht]; exact hP, va_K.moved hW.alike hK, hD⟩, hS.F ht⟩) hS.2.2 hdg hlocks)
theorem z_retd {S : Type} {post : UInt64 → S → Prop} {w1 : S → va_W} {cc : ByteArray} {v : UInt64} (u : S) (hx : p.tables.exec = Jvm.exec) (hb : c.code = cc) (hr : meth.sig.returnType = some .double) (hlocks : meth.locks = false) (hK : va_K D cl tys s) (hpost : post v u) (hP : va_P D cl (w1 u) H) (hD : va_D A (w1 u)) (hS : va_S A s.heap H locs) (hc : cells ≤ mc) (hs : slots ≤ ms) (hdg : decode cc pc = .ok (.dreturn, 1)) :
    W p l e R s m args below meth c H locs cells slots (MQ below (va_Qd post (zB D cl tys w1 A) A) args s mc ms A) (F0 m pc ls [.double v]) :=
  W.widen hc hs (W.dret hx hb hr (fun t ht hW => ⟨⟨v, u, rfl, hpost, by rw [ht]; exact hP, va_K.moved hW.alike hK, hD⟩, hS.F ht⟩) hS.2.2 hdg hlocks)
theorem any_int {args : Array Value} {cy : Nat → ClassId} {q0 N v : Nat} {f : Nat → Int32} (hK : va_K D cl (TY cy) s) (hP : va_P D cl ws H) (he : ws[q0]? = some (v, .inl (cy 0, N, .inl f))) (hN : NGU s) (hw : Cond.castable "[I" "java/lang/Object" ∈ NGS) : va_Any "java/lang/Object" s H v := by
  have h1 := hP q0 _ he
  have h2 : s.vm.findClass "[I" = some (cy 0) := (hK.2 0 (cy 0, .int) rfl).2
  obtain ⟨c3, t3, w1, w2, w3⟩ := Cond.castable_spec (args := args) (va_Nw.use rfl (hN _ hw))
  cases h2.symm.trans w1
  obtain ⟨kC, hkC, -⟩ := Vm.findClass_spec h2
  exact ⟨_, h1, rfl, ⟨kC, hkC⟩, fun comp h => by cases h.symm.trans w2; exact w3⟩
end BASE3
theorem inL_nar (v lo hi : Int64) : narrow .boolean (.int (inL v lo hi)) = .int (inL v lo hi) := by
  unfold inL
  split
  · rfl
  · split <;> rfl
theorem inL_i (n a b : Int32) : inL n.toInt64 a.toInt64 b.toInt64 = if n < a then 0 else if b < n then 0 else 1 := by
  unfold inL
  simp only [Int64.lt_iff_toInt_lt, Int32.lt_iff_toInt_lt, Int32.toInt_toInt64]
theorem inL_no (n : Int32) : inL n.toInt64 0 (-1) = 0 := by
  have e0 : (0 : Int64) = (0 : Int32).toInt64 := by decide
  have e1 : (-1 : Int64) = (-1 : Int32).toInt64 := by decide
  rw [e0, e1, inL_i]
  split
  · rfl
  · rename_i h
    rw [if_pos]
    simp only [Int32.lt_iff_toInt_lt] at *
    have h1 : (-1 : Int32).toInt = -1 := rfl
    have h0 : (0 : Int32).toInt = 0 := rfl
    omega
theorem inL_bl {n a k : Int32} {a' : Int64} (e1 : a' = a.toInt64) (hk : k.toInt = a.toInt + 1) : inL n.toInt64 0 a' = bl n k := by
  have e0 : (0 : Int64) = (0 : Int32).toInt64 := by decide
  rw [e0, e1, inL_i]
  unfold bl
  split
  · rfl
  · by_cases h : a < n
    · rw [if_pos h, if_pos]
      simp only [Int32.lt_iff_toInt_lt, Int32.le_iff_toInt_le] at *
      omega
    · rw [if_neg h, if_neg]
      simp only [Int32.lt_iff_toInt_lt, Int32.le_iff_toInt_le] at *
      omega
theorem inL_4 (n : Int32) : inL n.toInt64 0 3 = bl n 4 := inL_bl (a := 3) (by decide) (by decide)
theorem inL_5 (n : Int32) : inL n.toInt64 0 4 = bl n 5 := inL_bl (a := 4) (by decide) (by decide)
theorem inL_6 (n : Int32) : inL n.toInt64 0 5 = bl n 6 := inL_bl (a := 5) (by decide) (by decide)
theorem inL_16 (n : Int32) : inL n.toInt64 0 15 = bl n 16 := inL_bl (a := 15) (by decide) (by decide)
theorem inL_60 (n : Int32) : inL n.toInt64 0 59 = bl n 60 := inL_bl (a := 59) (by decide) (by decide)
theorem inL_rg {n b : Int32} {b' : Int64} (e1 : b' = b.toInt64) (h : rg n 1 b) : inL n.toInt64 1 b' = 1 := by
  have e0 : (1 : Int64) = (1 : Int32).toInt64 := by decide
  rw [e0, e1, inL_i, if_neg h.1, if_neg]
  have h2 := h.2
  simp only [Int32.lt_iff_toInt_lt, Int32.le_iff_toInt_le] at *
  omega
theorem inL_nrg {n b : Int32} {b' : Int64} (e1 : b' = b.toInt64) (h : ¬ rg n 1 b) : inL n.toInt64 1 b' = 0 := by
  have e0 : (1 : Int64) = (1 : Int32).toInt64 := by decide
  rw [e0, e1, inL_i]
  split
  · rfl
  · rename_i h1
    rw [if_pos]
    have h2 : ¬ n ≤ b := fun z => h ⟨h1, z⟩
    simp only [Int32.lt_iff_toInt_lt, Int32.le_iff_toInt_le] at *
    omega
theorem shr0 (x : Int32) : x >>> (0 &&& 31) = x := by
  have e : ((0 : Int32) &&& 31) = 0 := by decide
  rw [e]
  exact Int32.shiftRight_zero
/-- where a letter stands among some -/
def ixf (L : List Int32) (ch : Int32) : Int32 := if ch < 0 then -1 else if 255 < ch then -1 else ixg L ch.toInt8.toInt32 0
def cE (ch : Int32) : Int32 := if ch < 0 then 0 else if 255 < ch then 0 else 1
theorem ixf_T {L : List Int32} {ch : Int32} (h : ¬ cE ch = 0) : ixg L ch.toInt8.toInt32 0 = ixf L ch := by
  unfold cE at h
  unfold ixf
  split at h
  · exact absurd rfl h
  · rename_i h1
    rw [if_neg h1]
    split at h
    · exact absurd rfl h
    · rename_i h2
      rw [if_neg h2]
theorem ixf_F {L : List Int32} {ch : Int32} (h : cE ch = 0) : -1 = ixf L ch := by
  unfold cE at h
  unfold ixf
  split at h
  · rename_i h1
    rw [if_pos h1]
  · rename_i h1
    rw [if_neg h1]
    split at h
    · rename_i h2
      rw [if_pos h2]
    · exact absurd h (by decide)
theorem ixg_no {L : List Int32} {c : Int32} : ∀ k : Int32, (∀ x ∈ L, ¬ x = c) → ixg L c k = -1 := by
  induction L with
  | nil => intro k _; rfl
  | cons x r ih =>
    intro k h
    unfold ixg
    rw [if_neg (h x List.mem_cons_self)]
    exact ih _ (fun y hy => h y (List.mem_cons_of_mem _ hy))
theorem i2b_eq {x ch : Int32} (h0 : ¬ ch < 0) (h1 : ¬ 255 < ch) (hx : 0 ≤ x.toInt ∧ x.toInt ≤ 127) (h : x = ch.toInt8.toInt32) : ch = x := by
  have e : x.toInt = ch.toInt.bmod 256 := by
    rw [h, Int8.toInt_toInt32, Int32.toInt_toInt8]
  simp only [Int32.lt_iff_toInt_lt] at h0 h1
  have z : (0 : Int32).toInt = 0 := rfl
  have y : (255 : Int32).toInt = 255 := rfl
  refine Int32.toInt_inj.mp ?_
  rw [Int.bmod_def] at e
  split at e <;> omega
theorem ixf_no {L : List Int32} {ch : Int32} (hL : ∀ x ∈ L, 0 ≤ x.toInt ∧ x.toInt ≤ 127) (h : ∀ x ∈ L, ¬ ch = x) : ixf L ch = -1 := by
  unfold ixf
  split
  · rfl
  · rename_i h0
    split
    · rfl
    · rename_i h1
      exact ixg_no _ (fun x hx e => h x hx (i2b_eq h0 h1 (hL x hx) e))
theorem SX51 : STRX[51]? = some ("UnwindlensModel", 72, "") := by decide +kernel
theorem VK51 {sa : Nat → Nat} {s : State} (h : SK STRX sa s) : vk_R RX15 72 "" (sa 51) s := h 51 ("UnwindlensModel", 72, "") SX51
theorem SX52 : STRX[52]? = some ("UnwindlensModel", 102, "ncm+-*lgspjkexrh") := by decide +kernel
theorem VK52 {sa : Nat → Nat} {s : State} (h : SK STRX sa s) : vk_R RX15 102 "ncm+-*lgspjkexrh" (sa 52) s := h 52 ("UnwindlensModel", 102, "ncm+-*lgspjkexrh") SX52
theorem SX53 : STRX[53]? = some ("UnwindlensModel", 110, "cm+-*lgspj") := by decide +kernel
theorem VK53 {sa : Nat → Nat} {s : State} (h : SK STRX sa s) : vk_R RX15 110 "cm+-*lgspj" (sa 53) s := h 53 ("UnwindlensModel", 110, "cm+-*lgspj") SX53
theorem SX54 : STRX[54]? = some ("UnwindlensModel", 114, "m+-*ls") := by decide +kernel
theorem VK54 {sa : Nat → Nat} {s : State} (h : SK STRX sa s) : vk_R RX15 114 "m+-*ls" (sa 54) s := h 54 ("UnwindlensModel", 114, "m+-*ls") SX54
theorem SX56 : STRX[56]? = some ("UnwindlensModel", 210, "ibc") := by decide +kernel
theorem VK56 {sa : Nat → Nat} {s : State} (h : SK STRX sa s) : vk_R RX15 210 "ibc" (sa 56) s := h 56 ("UnwindlensModel", 210, "ibc") SX56
