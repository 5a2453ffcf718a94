theorem SF_modCount {args : Array Value} {s : State} (hts : ∀ w ∈ ALL, w.before args s = true) : ∀ x, s.fieldFound? "java/util/AbstractList" "modCount" "I" = some x → s.fieldFound? "java/util/ArrayList" "modCount" "I" = some x := by
  intro x hx
  have h := hts _ K2051
  cases hr : s.fieldFound? "java/util/ArrayList" "modCount" "I" with
  | none => simp [Cond.before, Cond.holds, Cond.value, hr] at h
  | some y =>
    obtain ⟨c, k, i, f⟩ := y
    have h2 := Cond.sameField_spec hr h
    rw [← h2, hx]
set_option maxHeartbeats 4000000 in
set_option maxRecDepth 100000 in
theorem k_acInit (l : Launch) (D : va_G) (cy : Nat → ClassId) (sa : Nat → Nat) (sv : Nat → Nat) (dc : Nat) (h : Nat) (sz : Nat) : Met l yJxa1e45_init_da8c8 (Cond.code yJxa1e45_init_da8c8 cJxa1e45_init_da8c8 1 none :: ALL) ({ frames := 1, cells := 0, slots := 0, locals := 12 }) (zPc D vwCl (TY cy) (EM sa sv dc) [.ref h] [(h, .inr (5, [.int 0, .null, .int 0]))] sz) (va_Qv (fun _ => True) (zB D vwCl (TY cy) (S := Unit) (fun u => [(h, .inr (5, [.int 0, .null, .int 0]))]) (va_A [(h, .inr (5, [.int 0, .null, .int 0]))] sz)) (va_A [(h, .inr (5, [.int 0, .null, .int 0]))] sz)) 0 0 (va_A [(h, .inr (5, [.int 0, .null, .int 0]))] sz) := by
  refine z_start (Qc := fun A => va_Qv (fun _ => True) (zB D vwCl (TY cy) (S := Unit) (fun u => [(h, .inr (5, [.int 0, .null, .int 0]))]) A) A) PN_RJxa1e45 (Nat.le_of_ble_eq_true rfl) ?_
  intro p e s m below meth c A ls hx hb hr hml hts hown hlocks hin hA hP hK hD hS hEn hl
  have hown : s.vm.findClass RJxa1e45 = some m.cls := hown
  have hEm := hEn
  have hEn := hEn.1
  have hl : lv_has ls 1 [(0, .ref h)] := hl
  have hS0 := hS
  refine lv_aload_n hx hb dJxa1e45_init_da8c8_0 rfl (lv_at hl 0 rfl) ?_
  refine W.objInit hx hb hown (hts _ K2042) (hts _ K129) (hts _ K130) rfl (by rw [hml]; exact hl.1) rfl dJxa1e45_init_da8c8_1 (Nat.le_of_ble_eq_true rfl) (Nat.le_of_ble_eq_true rfl) ?_
  refine W.eq (g2 := F0 m 4 ls []) rfl ?_
  exact z_retv () hx hb hr hlocks hK (trivial) hP hD hS (Nat.le_of_ble_eq_true rfl) (Nat.le_of_ble_eq_true rfl) dJxa1e45_init_da8c8_4
set_option maxHeartbeats 4000000 in
set_option maxRecDepth 100000 in
theorem k_alInit (l : Launch) (D : va_G) (cy : Nat → ClassId) (sa : Nat → Nat) (sv : Nat → Nat) (dc : Nat) (h : Nat) (sz : Nat) : Met l yJxc12de_init_da8c8 (Cond.code yJxc12de_init_da8c8 cJxc12de_init_da8c8 1 none :: ALL) ({ frames := 2, cells := 0, slots := 0, locals := 32 }) (zPc D vwCl (TY cy) (EM sa sv dc) [.ref h] [(h, .inr (5, [.int 0, .null, .int 0]))] sz) (va_Qv (fun _ => True) (zB D vwCl (TY cy) (S := Unit) (fun u => [(h, .inr (5, [.int 0, .null, .int 0]))]) (va_A [(h, .inr (5, [.int 0, .null, .int 0]))] sz)) (va_A [(h, .inr (5, [.int 0, .null, .int 0]))] sz)) 0 0 (va_A [(h, .inr (5, [.int 0, .null, .int 0]))] sz) := by
  refine z_start (Qc := fun A => va_Qv (fun _ => True) (zB D vwCl (TY cy) (S := Unit) (fun u => [(h, .inr (5, [.int 0, .null, .int 0]))]) A) A) PN_RJxc12de (Nat.le_of_ble_eq_true rfl) ?_
  intro p e s m below meth c A ls hx hb hr hml hts hown hlocks hin hA hP hK hD hS hEn hl
  have hown : s.vm.findClass RJxc12de = some m.cls := hown
  have hEm := hEn
  have hEn := hEn.1
  have hl : lv_has ls 1 [(0, .ref h)] := hl
  have hS0 := hS
  refine lv_aload_n hx hb dJxc12de_init_da8c8_0 rfl (lv_at hl 0 rfl) ?_
  refine z_callv (va_runI (As := []) (rest := []) ⟨hx, hb, hml, hown, hts⟩ (k_acInit l D cy sa sv dc h _) (cwI 0 hts GI_K2041 rfl rfl rfl (hts _ K96) (hts _ K2039) (hts _ K2040) rfl HD_yJxa1e45_init_da8c8 ⟨Nat.le_of_ble_eq_true rfl, Nat.le_of_ble_eq_true rfl⟩) ⟨z_blind EM_ok, z_pre EM_ok hP hK hD hEm hS (z_free hD hS hA)⟩ rfl rfl hl.1 rfl (lv_room (Nat.le_of_ble_eq_true rfl)) dJxc12de_init_da8c8_1 ⟨Nat.le_of_ble_eq_true rfl, Nat.le_of_ble_eq_true rfl⟩) hD hS hA (fun u1 H locs hw_1 hP hD hS => ?_)
  have hP : va_P D vwCl [(h, .inr (5, [.int 0, .null, .int 0]))] H := hP
  have hD : va_D A [(h, .inr (5, [.int 0, .null, .int 0]))] := hD
  refine lv_aload_n hx hb dJxc12de_init_da8c8_4 rfl (lv_at hl 0 rfl) ?_
  refine lv_iconst (v := 0) hx hb dJxc12de_init_da8c8_5 (by decide) ?_
  refine va_put (D := D) (ci := 5) (v := .int 0) (ty := .int) (C := RJx4a65c) (T := TJx4a65c) (N := 3) hx hb hts inJx4a65c tyJx4a65c tyJx4a65c_ok nmJx4a65c hown hK hP hD hS 0 rfl rfl 0 (by decide) (hts _ K2049) (fun _ h9 => h9) rfl (by decide +kernel) rfl rfl (Nat.le_of_ble_eq_true rfl) dJxc12de_init_da8c8_6 (fun H locs hP hD hS => ?_)
  have hP : va_P D vwCl [(h, .inr (5, [.int 0, .null, .int 0]))] H := hP
  have hD : va_D A [(h, .inr (5, [.int 0, .null, .int 0]))] := hD
  exact z_retv () hx hb hr hlocks hK (trivial) hP hD hS (Nat.le_of_ble_eq_true rfl) (Nat.le_of_ble_eq_true rfl) dJxc12de_init_da8c8_9
set_option maxHeartbeats 4000000 in
set_option maxRecDepth 100000 in
theorem k_arInit (l : Launch) (D : va_G) (cy : Nat → ClassId) (sa : Nat → Nat) (sv : Nat → Nat) (dc : Nat) (h : Nat) (sz : Nat) : Met l yJx4a65c_init_da8c8 (Cond.code yJx4a65c_init_da8c8 cJx4a65c_init_da8c8 1 none :: ALL) ({ frames := 3, cells := 0, slots := 0, locals := 52 }) (zPc D vwCl (TY cy) (EM sa sv dc) [.ref h] [(h, .inr (5, [.int 0, .null, .int 0]))] sz) (va_Qv (fun _ => True) (zB D vwCl (TY cy) (S := Unit) (fun u => [(h, .inr (5, [.int 0, .ref dc, .int 0]))]) (va_A [(h, .inr (5, [.int 0, .null, .int 0]))] sz)) (va_A [(h, .inr (5, [.int 0, .null, .int 0]))] sz)) 0 0 (va_A [(h, .inr (5, [.int 0, .null, .int 0]))] sz) := by
  refine z_start (Qc := fun A => va_Qv (fun _ => True) (zB D vwCl (TY cy) (S := Unit) (fun u => [(h, .inr (5, [.int 0, .ref dc, .int 0]))]) A) A) PN_RJx4a65c (Nat.le_of_ble_eq_true rfl) ?_
  intro p e s m below meth c A ls hx hb hr hml hts hown hlocks hin hA hP hK hD hS hEn hl
  have hown : s.vm.findClass RJx4a65c = some m.cls := hown
  have hEm := hEn
  have hEn := hEn.1
  have hl : lv_has ls 1 [(0, .ref h)] := hl
  have hS0 := hS
  refine lv_aload_n hx hb dJx4a65c_init_da8c8_0 rfl (lv_at hl 0 rfl) ?_
  refine z_callv (va_runI (As := []) (rest := []) ⟨hx, hb, hml, hown, hts⟩ (k_alInit l D cy sa sv dc h _) (cwI 0 hts GI_K2038 rfl rfl rfl (hts _ K97) (hts _ K2036) (hts _ K2037) rfl HD_yJxc12de_init_da8c8 ⟨Nat.le_of_ble_eq_true rfl, Nat.le_of_ble_eq_true rfl⟩) ⟨z_blind EM_ok, z_pre EM_ok hP hK hD hEm hS (z_free hD hS hA)⟩ rfl rfl hl.1 rfl (lv_room (Nat.le_of_ble_eq_true rfl)) dJx4a65c_init_da8c8_1 ⟨Nat.le_of_ble_eq_true rfl, Nat.le_of_ble_eq_true rfl⟩) hD hS hA (fun u1 H locs hw_1 hP hD hS => ?_)
  have hP : va_P D vwCl [(h, .inr (5, [.int 0, .null, .int 0]))] H := hP
  have hD : va_D A [(h, .inr (5, [.int 0, .null, .int 0]))] := hD
  refine lv_aload_n hx hb dJx4a65c_init_da8c8_4 rfl (lv_at hl 0 rfl) ?_
  refine va_gets (C := "java/util/ArrayList") (n := "DEFAULTCAPACITY_EMPTY_ELEMENTDATA") (d := "[Ljava/lang/Object;") (v := .ref dc) hx hb hEm.2.2.2.1.1 hS hown (hts _ K2043) (fun _ h9 => h9) dJx4a65c_init_da8c8_5 ?_
  refine va_put (D := D) (ci := 5) (v := .ref dc) (ty := .array (.object "java/lang/Object")) (C := RJx4a65c) (T := TJx4a65c) (N := 3) hx hb hts inJx4a65c tyJx4a65c tyJx4a65c_ok nmJx4a65c hown hK hP hD hS 0 rfl rfl 1 (by decide) (hts _ K2045) (fun _ h9 => h9) rfl (by decide +kernel) rfl rfl (Nat.le_of_ble_eq_true rfl) dJx4a65c_init_da8c8_8 (fun H locs hP hD hS => ?_)
  have hP : va_P D vwCl [(h, .inr (5, [.int 0, .ref dc, .int 0]))] H := hP
  have hD : va_D A [(h, .inr (5, [.int 0, .ref dc, .int 0]))] := hD
  exact z_retv () hx hb hr hlocks hK (trivial) hP hD hS (Nat.le_of_ble_eq_true rfl) (Nat.le_of_ble_eq_true rfl) dJx4a65c_init_da8c8_11
set_option maxHeartbeats 4000000 in
set_option maxRecDepth 100000 in
theorem k_size (l : Launch) (D : va_G) (cy : Nat → ClassId) (sa : Nat → Nat) (sv : Nat → Nat) (dc : Nat) (h : Nat) (sz : Nat) (ed : Nat) (n mc : Int32) : Met l yJx4a65c_size_8abf5 (Cond.code yJx4a65c_size_8abf5 cJx4a65c_size_8abf5 1 (some .int) :: ALL) ({ frames := 0, cells := 0, slots := 0, locals := 0 }) (zPc D vwCl (TY cy) (EM sa sv dc) [.ref h] [(h, .inr (5, [.int mc, .ref ed, .int n]))] sz) (va_Qi (fun r _ => r = n) (zB D vwCl (TY cy) (S := Unit) (fun u => [(h, .inr (5, [.int mc, .ref ed, .int n]))]) (va_A [(h, .inr (5, [.int mc, .ref ed, .int n]))] sz)) (va_A [(h, .inr (5, [.int mc, .ref ed, .int n]))] sz)) 0 0 (va_A [(h, .inr (5, [.int mc, .ref ed, .int n]))] sz) := by
  refine z_start (Qc := fun A => va_Qi (fun r _ => r = n) (zB D vwCl (TY cy) (S := Unit) (fun u => [(h, .inr (5, [.int mc, .ref ed, .int n]))]) A) A) PN_RJx4a65c (Nat.le_of_ble_eq_true rfl) ?_
  intro p e s m below meth c A ls hx hb hr hml hts hown hlocks hin hA hP hK hD hS hEn hl
  have hown : s.vm.findClass RJx4a65c = some m.cls := hown
  have hEm := hEn
  have hEn := hEn.1
  have hl : lv_has ls 1 [(0, .ref h)] := hl
  have hS0 := hS
  refine lv_aload_n hx hb dJx4a65c_size_8abf5_0 rfl (lv_at hl 0 rfl) ?_
  refine va_get (D := D) (ci := 5) (v := .int n) (C := RJx4a65c) (T := TJx4a65c) (N := 3) hx hb hts inJx4a65c hown hK hP 0 rfl rfl 2 (by decide) (hts _ K2048) (fun _ h9 => h9) rfl dJx4a65c_size_8abf5_1 ?_
  exact z_reti () hx hb hr rfl hlocks hK (rfl) hP hD hS (Nat.le_of_ble_eq_true rfl) (Nat.le_of_ble_eq_true rfl) dJx4a65c_size_8abf5_4
set_option maxHeartbeats 4000000 in
set_option maxRecDepth 100000 in
theorem k_isEmpty (l : Launch) (D : va_G) (cy : Nat → ClassId) (sa : Nat → Nat) (sv : Nat → Nat) (dc : Nat) (h : Nat) (sz : Nat) (ed : Nat) (mc : Int32) : Met l yJx4a65c_isEmpty_aae02 (Cond.code yJx4a65c_isEmpty_aae02 cJx4a65c_isEmpty_aae02 1 (some .boolean) :: ALL) ({ frames := 0, cells := 0, slots := 0, locals := 0 }) (zPc D vwCl (TY cy) (EM sa sv dc) [.ref h] [(h, .inr (5, [.int mc, .ref ed, .int 0]))] sz) (va_Qi (fun r _ => r = 1) (zB D vwCl (TY cy) (S := Unit) (fun u => [(h, .inr (5, [.int mc, .ref ed, .int 0]))]) (va_A [(h, .inr (5, [.int mc, .ref ed, .int 0]))] sz)) (va_A [(h, .inr (5, [.int mc, .ref ed, .int 0]))] sz)) 0 0 (va_A [(h, .inr (5, [.int mc, .ref ed, .int 0]))] sz) := by
  refine z_start (Qc := fun A => va_Qi (fun r _ => r = 1) (zB D vwCl (TY cy) (S := Unit) (fun u => [(h, .inr (5, [.int mc, .ref ed, .int 0]))]) A) A) PN_RJx4a65c (Nat.le_of_ble_eq_true rfl) ?_
  intro p e s m below meth c A ls hx hb hr hml hts hown hlocks hin hA hP hK hD hS hEn hl
  have hown : s.vm.findClass RJx4a65c = some m.cls := hown
  have hEm := hEn
  have hEn := hEn.1
  have hl : lv_has ls 1 [(0, .ref h)] := hl
  have hS0 := hS
  refine lv_aload_n hx hb dJx4a65c_isEmpty_aae02_0 rfl (lv_at hl 0 rfl) ?_
  refine va_get (D := D) (ci := 5) (v := .int 0) (C := RJx4a65c) (T := TJx4a65c) (N := 3) hx hb hts inJx4a65c hown hK hP 0 rfl rfl 2 (by decide) (hts _ K2048) (fun _ h9 => h9) rfl dJx4a65c_isEmpty_aae02_1 ?_
  refine lv_if_ne (tgt := 11) hx hb dJx4a65c_isEmpty_aae02_4 (by decide) (fun c_4 => absurd (by decide) c_4) (fun _ => ?_)
  refine lv_iconst (v := 1) hx hb dJx4a65c_isEmpty_aae02_7 (by decide) ?_
  refine lv_goto (tgt := 12) hx hb dJx4a65c_isEmpty_aae02_8 (by decide) ?_
  exact z_reti () hx hb hr rfl hlocks hK (rfl) hP hD hS (Nat.le_of_ble_eq_true rfl) (Nat.le_of_ble_eq_true rfl) dJx4a65c_isEmpty_aae02_12
set_option maxHeartbeats 4000000 in
set_option maxRecDepth 100000 in
theorem k_clear (l : Launch) (D : va_G) (cy : Nat → ClassId) (sa : Nat → Nat) (sv : Nat → Nat) (dc : Nat) (h : Nat) (sz : Nat) (ed : Nat) (mc : Int32) : Met l yJx4a65c_clear_da8c8 (Cond.code yJx4a65c_clear_da8c8 cJx4a65c_clear_da8c8 4 none :: ALL) ({ frames := 0, cells := 0, slots := 0, locals := 0 }) (zPc D vwCl (TY cy) (EM sa sv dc) [.ref h] [(h, .inr (5, [.int mc, .ref ed, .int 0]))] sz) (va_Qv (fun _ => True) (zB D vwCl (TY cy) (S := Unit) (fun u => []) (va_A [(h, .inr (5, [.int mc, .ref ed, .int 0]))] sz)) (va_A [(h, .inr (5, [.int mc, .ref ed, .int 0]))] sz)) 0 0 (va_A [(h, .inr (5, [.int mc, .ref ed, .int 0]))] sz) := by
  refine z_start (Qc := fun A => va_Qv (fun _ => True) (zB D vwCl (TY cy) (S := Unit) (fun u => []) A) A) PN_RJx4a65c (Nat.le_of_ble_eq_true rfl) ?_
  intro p e s m below meth c A ls hx hb hr hml hts hown hlocks hin hA hP hK hD hS hEn hl
  have hown : s.vm.findClass RJx4a65c = some m.cls := hown
  have hEm := hEn
  have hEn := hEn.1
  have hl : lv_has ls 4 [(0, .ref h)] := hl
  have hS0 := hS
  refine lv_aload_n hx hb dJx4a65c_clear_da8c8_0 rfl (lv_at hl 0 rfl) ?_
  refine lv_dup hx hb dJx4a65c_clear_da8c8_1 rfl ?_
  refine va_get (D := D) (ci := 5) (v := .int mc) (C := RJx4a65c) (T := TJx4a65c) (N := 3) hx hb hts inJx4a65c hown hK hP 0 rfl rfl 0 (by decide) (hts _ K2052) (SF_modCount hts) rfl dJx4a65c_clear_da8c8_2 ?_
  refine lv_iconst (v := 1) hx hb dJx4a65c_clear_da8c8_5 (by decide) ?_
  refine lv_iadd hx hb dJx4a65c_clear_da8c8_6 ?_
  refine va_put (D := D) (ci := 5) (v := .int (mc + 1)) (ty := .int) (C := RJx4a65c) (T := TJx4a65c) (N := 3) hx hb hts inJx4a65c tyJx4a65c tyJx4a65c_ok nmJx4a65c hown hK hP hD hS 0 rfl rfl 0 (by decide) (hts _ K2052) (SF_modCount hts) rfl (by decide +kernel) rfl rfl (Nat.le_of_ble_eq_true rfl) dJx4a65c_clear_da8c8_7 (fun H locs hP hD hS => ?_)
  have hP : va_P D vwCl [(h, .inr (5, [.int (mc + 1), .ref ed, .int 0]))] H := hP
  have hD : va_D A [(h, .inr (5, [.int (mc + 1), .ref ed, .int 0]))] := hD
  refine lv_aload_n hx hb dJx4a65c_clear_da8c8_10 rfl (lv_at hl 0 rfl) ?_
  refine va_get (D := D) (ci := 5) (v := .ref ed) (C := RJx4a65c) (T := TJx4a65c) (N := 3) hx hb hts inJx4a65c hown hK hP 0 rfl rfl 1 (by decide) (hts _ K2045) (fun _ h9 => h9) rfl dJx4a65c_clear_da8c8_11 ?_
  refine lv_astore_n (lv' := [(1, .ref ed), (0, .ref h)]) hx hb dJx4a65c_clear_da8c8_14 rfl hl (by decide) rfl (fun ls hl => ?_)
  refine lv_aload_n hx hb dJx4a65c_clear_da8c8_15 rfl (lv_at hl 1 rfl) ?_
  refine va_get (D := D) (ci := 5) (v := .int 0) (C := RJx4a65c) (T := TJx4a65c) (N := 3) hx hb hts inJx4a65c hown hK hP 0 rfl rfl 2 (by decide) (hts _ K2048) (fun _ h9 => h9) rfl dJx4a65c_clear_da8c8_16 ?_
  refine lv_istore_n (lv' := [(2, .int 0), (1, .ref ed), (0, .ref h)]) hx hb dJx4a65c_clear_da8c8_19 rfl hl (by decide) rfl (fun ls hl => ?_)
  refine lv_aload_n hx hb dJx4a65c_clear_da8c8_20 rfl (lv_at hl 2 rfl) ?_
  refine lv_iconst (v := 0) hx hb dJx4a65c_clear_da8c8_21 (by decide) ?_
  refine lv_dup_x1 hx hb dJx4a65c_clear_da8c8_22 rfl rfl ?_
  refine va_put (D := D) (ci := 5) (v := .int 0) (ty := .int) (C := RJx4a65c) (T := TJx4a65c) (N := 3) hx hb hts inJx4a65c tyJx4a65c tyJx4a65c_ok nmJx4a65c hown hK hP hD hS 0 rfl rfl 2 (by decide) (hts _ K2048) (fun _ h9 => h9) rfl (by decide +kernel) rfl rfl (Nat.le_of_ble_eq_true rfl) dJx4a65c_clear_da8c8_23 (fun H locs hP hD hS => ?_)
  have hP : va_P D vwCl [(h, .inr (5, [.int (mc + 1), .ref ed, .int 0]))] H := hP
  have hD : va_D A [(h, .inr (5, [.int (mc + 1), .ref ed, .int 0]))] := hD
  refine lv_istore_n (lv' := [(3, .int 0), (2, .int 0), (1, .ref ed), (0, .ref h)]) hx hb dJx4a65c_clear_da8c8_26 rfl hl (by decide) rfl (fun ls hl => ?_)
  refine lv_iload_n hx hb dJx4a65c_clear_da8c8_27 rfl (lv_at hl 0 rfl) ?_
  refine lv_iload_n hx hb dJx4a65c_clear_da8c8_28 rfl (lv_at hl 1 rfl) ?_
  refine lv_icmp_ge (tgt := 42) hx hb dJx4a65c_clear_da8c8_29 (by decide) (fun _ => ?_) (fun c_29 => absurd (by decide) c_29)
  have hP := hP.sub (ws' := []) [] rfl
  have hD := hD.sub (ws' := []) [] (by decide) rfl
  exact z_retv () hx hb hr hlocks hK (trivial) hP hD hS (Nat.le_of_ble_eq_true rfl) (Nat.le_of_ble_eq_true rfl) dJx4a65c_clear_da8c8_42
set_option maxHeartbeats 4000000 in
set_option maxRecDepth 100000 in
theorem k_itInit (l : Launch) (D : va_G) (cy : Nat → ClassId) (sa : Nat → Nat) (sv : Nat → Nat) (dc : Nat) (i h : Nat) (sz : Nat) (ed : Nat) : Met l yJx35411_init_45d68 (Cond.code yJx35411_init_45d68 cJx35411_init_45d68 2 none :: ALL) ({ frames := 1, cells := 0, slots := 0, locals := 12 }) (zPc D vwCl (TY cy) (EM sa sv dc) [.ref i, .ref h] [(i, .inr (4, [.int 0, .int 0, .int 0, .null])), (h, .inr (5, [.int 0, .ref ed, .int 0]))] sz) (va_Qv (fun _ => True) (zB D vwCl (TY cy) (S := Unit) (fun u => [(i, .inr (4, [.int 0, .int (-1), .int 0, .ref h])), (h, .inr (5, [.int 0, .ref ed, .int 0]))]) (va_A [(i, .inr (4, [.int 0, .int 0, .int 0, .null])), (h, .inr (5, [.int 0, .ref ed, .int 0]))] sz)) (va_A [(i, .inr (4, [.int 0, .int 0, .int 0, .null])), (h, .inr (5, [.int 0, .ref ed, .int 0]))] sz)) 0 0 (va_A [(i, .inr (4, [.int 0, .int 0, .int 0, .null])), (h, .inr (5, [.int 0, .ref ed, .int 0]))] sz) := by
  refine z_start (Qc := fun A => va_Qv (fun _ => True) (zB D vwCl (TY cy) (S := Unit) (fun u => [(i, .inr (4, [.int 0, .int (-1), .int 0, .ref h])), (h, .inr (5, [.int 0, .ref ed, .int 0]))]) A) A) PN_RJx35411 (Nat.le_of_ble_eq_true rfl) ?_
  intro p e s m below meth c A ls hx hb hr hml hts hown hlocks hin hA hP hK hD hS hEn hl
  have hown : s.vm.findClass RJx35411 = some m.cls := hown
  have hEm := hEn
  have hEn := hEn.1
  have hl : lv_has ls 2 [(0, .ref i), (1, .ref h)] := hl
  have hS0 := hS
  refine lv_aload_n hx hb dJx35411_init_45d68_0 rfl (lv_at hl 0 rfl) ?_
  refine lv_aload_n hx hb dJx35411_init_45d68_1 rfl (lv_at hl 1 rfl) ?_
  refine va_putF (D := D) (ci := 4) (v := .ref h) (ty := .object "java/util/ArrayList") (C := RJx35411) (T := TJx35411) (N := 4) hx hb hts inJx35411 tyJx35411 tyJx35411_ok nmJx35411 hown hK hP hD hS 0 rfl rfl 3 (by decide) (hts _ K2365) (fun _ h9 => h9) rfl hin rfl (by decide +kernel) rfl rfl (Nat.le_of_ble_eq_true rfl) dJx35411_init_45d68_2 (fun H locs hP hD hS => ?_)
  have hP : va_P D vwCl [(i, .inr (4, [.int 0, .int 0, .int 0, .ref h])), (h, .inr (5, [.int 0, .ref ed, .int 0]))] H := hP
  have hD : va_D A [(i, .inr (4, [.int 0, .int 0, .int 0, .ref h])), (h, .inr (5, [.int 0, .ref ed, .int 0]))] := hD
  refine lv_aload_n hx hb dJx35411_init_45d68_5 rfl (lv_at hl 0 rfl) ?_
  refine W.objInit hx hb hown (hts _ K2361) (hts _ K129) (hts _ K130) rfl (by rw [hml]; exact hl.1) rfl dJx35411_init_45d68_6 (Nat.le_of_ble_eq_true rfl) (Nat.le_of_ble_eq_true rfl) ?_
  refine W.eq (g2 := F0 m 9 ls []) rfl ?_
  refine lv_aload_n hx hb dJx35411_init_45d68_9 rfl (lv_at hl 0 rfl) ?_
  refine lv_iconst (v := (-1)) hx hb dJx35411_init_45d68_10 (by decide) ?_
  refine va_put (D := D) (ci := 4) (v := .int (-1)) (ty := .int) (C := RJx35411) (T := TJx35411) (N := 4) hx hb hts inJx35411 tyJx35411 tyJx35411_ok nmJx35411 hown hK hP hD hS 0 rfl rfl 1 (by decide) (hts _ K2363) (fun _ h9 => h9) rfl (by decide +kernel) rfl rfl (Nat.le_of_ble_eq_true rfl) dJx35411_init_45d68_11 (fun H locs hP hD hS => ?_)
  have hP : va_P D vwCl [(i, .inr (4, [.int 0, .int (-1), .int 0, .ref h])), (h, .inr (5, [.int 0, .ref ed, .int 0]))] H := hP
  have hD : va_D A [(i, .inr (4, [.int 0, .int (-1), .int 0, .ref h])), (h, .inr (5, [.int 0, .ref ed, .int 0]))] := hD
  refine lv_aload_n hx hb dJx35411_init_45d68_14 rfl (lv_at hl 0 rfl) ?_
  refine lv_aload_n hx hb dJx35411_init_45d68_15 rfl (lv_at hl 0 rfl) ?_
  refine va_get (D := D) (ci := 4) (v := .ref h) (C := RJx35411) (T := TJx35411) (N := 4) hx hb hts inJx35411 hown hK hP 0 rfl rfl 3 (by decide) (hts _ K2365) (fun _ h9 => h9) rfl dJx35411_init_45d68_16 ?_
  refine va_get (D := D) (ci := 5) (v := .int 0) (C := RJx4a65c) (T := TJx4a65c) (N := 3) hx hb hts inJx4a65c hown hK hP 1 rfl rfl 0 (by decide) (hts _ K2050) (SF_modCount hts) rfl dJx35411_init_45d68_19 ?_
  refine va_put (D := D) (ci := 4) (v := .int 0) (ty := .int) (C := RJx35411) (T := TJx35411) (N := 4) hx hb hts inJx35411 tyJx35411 tyJx35411_ok nmJx35411 hown hK hP hD hS 0 rfl rfl 2 (by decide) (hts _ K2364) (fun _ h9 => h9) rfl (by decide +kernel) rfl rfl (Nat.le_of_ble_eq_true rfl) dJx35411_init_45d68_22 (fun H locs hP hD hS => ?_)
  have hP : va_P D vwCl [(i, .inr (4, [.int 0, .int (-1), .int 0, .ref h])), (h, .inr (5, [.int 0, .ref ed, .int 0]))] H := hP
  have hD : va_D A [(i, .inr (4, [.int 0, .int (-1), .int 0, .ref h])), (h, .inr (5, [.int 0, .ref ed, .int 0]))] := hD
  exact z_retv () hx hb hr hlocks hK (trivial) hP hD hS (Nat.le_of_ble_eq_true rfl) (Nat.le_of_ble_eq_true rfl) dJx35411_init_45d68_25
set_option maxHeartbeats 4000000 in
set_option maxRecDepth 100000 in
theorem k_hasNext (l : Launch) (D : va_G) (cy : Nat → ClassId) (sa : Nat → Nat) (sv : Nat → Nat) (dc : Nat) (i h : Nat) (sz : Nat) (ed : Nat) : Met l yJx35411_hasNext_aae02 (Cond.code yJx35411_hasNext_aae02 cJx35411_hasNext_aae02 1 (some .boolean) :: ALL) ({ frames := 0, cells := 0, slots := 0, locals := 0 }) (zPc D vwCl (TY cy) (EM sa sv dc) [.ref i] [(i, .inr (4, [.int 0, .int (-1), .int 0, .ref h])), (h, .inr (5, [.int 0, .ref ed, .int 0]))] sz) (va_Qi (fun r _ => r = 0) (zB D vwCl (TY cy) (S := Unit) (fun u => [(i, .inr (4, [.int 0, .int (-1), .int 0, .ref h])), (h, .inr (5, [.int 0, .ref ed, .int 0]))]) (va_A [(i, .inr (4, [.int 0, .int (-1), .int 0, .ref h])), (h, .inr (5, [.int 0, .ref ed, .int 0]))] sz)) (va_A [(i, .inr (4, [.int 0, .int (-1), .int 0, .ref h])), (h, .inr (5, [.int 0, .ref ed, .int 0]))] sz)) 0 0 (va_A [(i, .inr (4, [.int 0, .int (-1), .int 0, .ref h])), (h, .inr (5, [.int 0, .ref ed, .int 0]))] sz) := by
  refine z_start (Qc := fun A => va_Qi (fun r _ => r = 0) (zB D vwCl (TY cy) (S := Unit) (fun u => [(i, .inr (4, [.int 0, .int (-1), .int 0, .ref h])), (h, .inr (5, [.int 0, .ref ed, .int 0]))]) A) A) PN_RJx35411 (Nat.le_of_ble_eq_true rfl) ?_
  intro p e s m below meth c A ls hx hb hr hml hts hown hlocks hin hA hP hK hD hS hEn hl
  have hown : s.vm.findClass RJx35411 = some m.cls := hown
  have hEm := hEn
  have hEn := hEn.1
  have hl : lv_has ls 1 [(0, .ref i)] := hl
  have hS0 := hS
  refine lv_aload_n hx hb dJx35411_hasNext_aae02_0 rfl (lv_at hl 0 rfl) ?_
  refine va_get (D := D) (ci := 4) (v := .int 0) (C := RJx35411) (T := TJx35411) (N := 4) hx hb hts inJx35411 hown hK hP 0 rfl rfl 0 (by decide) (hts _ K2362) (fun _ h9 => h9) rfl dJx35411_hasNext_aae02_1 ?_
  refine lv_aload_n hx hb dJx35411_hasNext_aae02_4 rfl (lv_at hl 0 rfl) ?_
  refine va_get (D := D) (ci := 4) (v := .ref h) (C := RJx35411) (T := TJx35411) (N := 4) hx hb hts inJx35411 hown hK hP 0 rfl rfl 3 (by decide) (hts _ K2365) (fun _ h9 => h9) rfl dJx35411_hasNext_aae02_5 ?_
  refine va_getN (D := D) (ci := 5) (v := .int 0) (C := RJx4a65c) (T := TJx4a65c) (N := 3) hx hb hts inJx4a65c hown hK hP 1 rfl rfl 2 (by decide) (va_Nw.use rfl (hEn.1 _ K2047)) (fun _ h9 => h9) rfl dJx35411_hasNext_aae02_8 ?_
  refine lv_icmp_eq (tgt := 18) hx hb dJx35411_hasNext_aae02_11 (by decide) (fun _ => ?_) (fun c_11 => absurd (by decide) c_11)
  refine lv_iconst (v := 0) hx hb dJx35411_hasNext_aae02_18 (by decide) ?_
  exact z_reti () hx hb hr rfl hlocks hK (rfl) hP hD hS (Nat.le_of_ble_eq_true rfl) (Nat.le_of_ble_eq_true rfl) dJx35411_hasNext_aae02_19
set_option maxHeartbeats 4000000 in
set_option maxRecDepth 100000 in
theorem k_iterator (l : Launch) (D : va_G) (cy : Nat → ClassId) (sa : Nat → Nat) (sv : Nat → Nat) (dc : Nat) (h : Nat) (sz : Nat) (ed : Nat) : Met l yJx4a65c_iterator_32c93 (Cond.code yJx4a65c_iterator_32c93 cJx4a65c_iterator_32c93 1 (some (.object "java/util/Iterator")) :: ALL) ({ frames := 2, cells := 1, slots := 4, locals := 33 }) (zPc D vwCl (TY cy) (EM sa sv dc) [.ref h] [(h, .inr (5, [.int 0, .ref ed, .int 0]))] sz) (va_Qq (fun (r : Option Nat) (u : Nat → Nat) => r = some (u 0)) (zB D vwCl (TY cy) (S := Nat → Nat) (fun u => [(u 0, .inr (4, [.int 0, .int (-1), .int 0, .ref h])), (h, .inr (5, [.int 0, .ref ed, .int 0]))]) (va_A [(h, .inr (5, [.int 0, .ref ed, .int 0]))] sz)) (va_A [(h, .inr (5, [.int 0, .ref ed, .int 0]))] sz)) 1 4 (va_A [(h, .inr (5, [.int 0, .ref ed, .int 0]))] sz) := by
  refine z_start (Qc := fun A => va_Qq (fun (r : Option Nat) (u : Nat → Nat) => r = some (u 0)) (zB D vwCl (TY cy) (S := Nat → Nat) (fun u => [(u 0, .inr (4, [.int 0, .int (-1), .int 0, .ref h])), (h, .inr (5, [.int 0, .ref ed, .int 0]))]) A) A) PN_RJx4a65c (Nat.le_of_ble_eq_true rfl) ?_
  intro p e s m below meth c A ls hx hb hr hml hts hown hlocks hin hA hP hK hD hS hEn hl
  have hown : s.vm.findClass RJx4a65c = some m.cls := hown
  have hEm := hEn
  have hEn := hEn.1
  have hl : lv_has ls 1 [(0, .ref h)] := hl
  have hS0 := hS
  refine va_new (ci := 4) (fs := [.int 0, .int 0, .int 0, .null]) (C := RJx35411) (T := TJx35411) (N := 4) hx hb hts inJx35411 tyJx35411 tyJx35411_ok hown (hts _ K2356) (hts _ K2357) (hts _ K113) hK hP hD hS hA rfl (by decide) (Nat.le_of_ble_eq_true rfl) (Nat.le_of_ble_eq_true rfl) dJx4a65c_iterator_32c93_0 (fun q0 H hP hD hS => ?_)
  have hP : va_P D vwCl [(h, .inr (5, [.int 0, .ref ed, .int 0])), (q0, .inr (4, [.int 0, .int 0, .int 0, .null]))] H := hP
  have hD : va_D A [(h, .inr (5, [.int 0, .ref ed, .int 0])), (q0, .inr (4, [.int 0, .int 0, .int 0, .null]))] := hD
  refine W.widen (k := 1) (n := 4) (Nat.le_of_ble_eq_true rfl) (Nat.le_of_ble_eq_true rfl) ?_
  refine lv_dup hx hb dJx4a65c_iterator_32c93_3 rfl ?_
  refine lv_aload_n hx hb dJx4a65c_iterator_32c93_4 rfl (lv_at hl 0 rfl) ?_
  have hPc := hP.sub (ws' := [(q0, .inr (4, [.int 0, .int 0, .int 0, .null])), (h, .inr (5, [.int 0, .ref ed, .int 0]))]) [1, 0] rfl
  have hDc := hD.sub (ws' := [(q0, .inr (4, [.int 0, .int 0, .int 0, .null])), (h, .inr (5, [.int 0, .ref ed, .int 0]))]) [1, 0] (by decide) rfl
  have hFc := va_free (wc := [(q0, .inr (4, [.int 0, .int 0, .int 0, .null])), (h, .inr (5, [.int 0, .ref ed, .int 0]))]) hD hS hA [1, 0] rfl
  refine z_callvJ (wr := []) (va_runI (As := [.ref h]) (rest := [.ref q0]) ⟨hx, hb, hml, hown, hts⟩ (k_itInit l D cy sa sv dc q0 h _ ed) (cwI 1 hts GI_K2360 rfl rfl rfl (hts _ K113) (hts _ K2358) (hts _ K2359) rfl HD_yJx35411_init_45d68 ⟨Nat.le_of_ble_eq_true rfl, Nat.le_of_ble_eq_true rfl⟩) ⟨z_blind EM_ok, z_pre EM_ok hPc hK hDc hEm hS hFc⟩ rfl rfl hl.1 rfl (lv_room (Nat.le_of_ble_eq_true rfl)) dJx4a65c_iterator_32c93_5 ⟨Nat.le_of_ble_eq_true rfl, Nat.le_of_ble_eq_true rfl⟩) hP hD hS hA [1, 0] [] rfl rfl (by decide) (by decide) (fun u5 H locs hw_5 hP hD hS => ?_)
  have hP : va_P D vwCl [(q0, .inr (4, [.int 0, .int (-1), .int 0, .ref h])), (h, .inr (5, [.int 0, .ref ed, .int 0]))] H := hP
  have hD : va_D A [(q0, .inr (4, [.int 0, .int (-1), .int 0, .ref h])), (h, .inr (5, [.int 0, .ref ed, .int 0]))] := hD
  exact z_retq (fun k => [q0].getD k 0) hx hb hr (by first | exact Or.inl ⟨_, rfl⟩ | exact Or.inr ⟨_, rfl⟩) hlocks hK (rfl) hP hD hS (Nat.le_of_ble_eq_true rfl) (Nat.le_of_ble_eq_true rfl) dJx4a65c_iterator_32c93_8
set_option maxHeartbeats 4000000 in
set_option maxRecDepth 100000 in
theorem k_growI (l : Launch) (D : va_G) (cy : Nat → ClassId) (sa : Nat → Nat) (sv : Nat → Nat) (dc : Nat) (h : Nat) (sz : Nat) (mc : Int32) : Met l yJx4a65c_grow_92f84 (Cond.code yJx4a65c_grow_92f84 cJx4a65c_grow_92f84 4 (some (.array (.object "java/lang/Object"))) :: ALL) ({ frames := 2, cells := 1, slots := 10, locals := 22 }) (zPc D vwCl (TY cy) (EM sa sv dc) [.ref h, .int 1] [(h, .inr (5, [.int mc, .ref dc, .int 0]))] sz) (va_Qq (fun (r : Option Nat) (u : Nat → Nat) => r = some (u 0)) (zB D vwCl (TY cy) (S := Nat → Nat) (fun u => [(h, .inr (5, [.int mc, .ref (u 0), .int 0])), (u 0, .inl (cy 7, 10, .inr (.inr (.inr (.inr (fun _ => none))))))]) (va_A [(h, .inr (5, [.int mc, .ref dc, .int 0]))] sz)) (va_A [(h, .inr (5, [.int mc, .ref dc, .int 0]))] sz)) 1 10 (va_A [(h, .inr (5, [.int mc, .ref dc, .int 0]))] sz) := by
  refine z_start (Qc := fun A => va_Qq (fun (r : Option Nat) (u : Nat → Nat) => r = some (u 0)) (zB D vwCl (TY cy) (S := Nat → Nat) (fun u => [(h, .inr (5, [.int mc, .ref (u 0), .int 0])), (u 0, .inl (cy 7, 10, .inr (.inr (.inr (.inr (fun _ => none))))))]) A) A) PN_RJx4a65c (Nat.le_of_ble_eq_true rfl) ?_
  intro p e s m below meth c A ls hx hb hr hml hts hown hlocks hin hA hP hK hD hS hEn hl
  have hown : s.vm.findClass RJx4a65c = some m.cls := hown
  have hEm := hEn
  have hEn := hEn.1
  have hl : lv_has ls 4 [(0, .ref h), (1, .int 1)] := hl
  have hS0 := hS
  refine lv_aload_n hx hb dJx4a65c_grow_92f84_0 rfl (lv_at hl 0 rfl) ?_
  refine va_get (D := D) (ci := 5) (v := .ref dc) (C := RJx4a65c) (T := TJx4a65c) (N := 3) hx hb hts inJx4a65c hown hK hP 0 rfl rfl 1 (by decide) (hts _ K2045) (fun _ h9 => h9) rfl dJx4a65c_grow_92f84_1 ?_
  refine va_tlen (v := 0) hx hb hEm.2.2.2.1.2 hS rfl dJx4a65c_grow_92f84_4 ?_
  refine lv_istore_n (lv' := [(2, .int 0), (0, .ref h), (1, .int 1)]) hx hb dJx4a65c_grow_92f84_5 rfl hl (by decide) rfl (fun ls hl => ?_)
  refine lv_iload_n hx hb dJx4a65c_grow_92f84_6 rfl (lv_at hl 0 rfl) ?_
  refine lv_if_gt (tgt := 20) hx hb dJx4a65c_grow_92f84_7 (by decide) (fun c_7 => absurd c_7 (by decide)) (fun _ => ?_)
  refine lv_aload_n hx hb dJx4a65c_grow_92f84_10 rfl (lv_at hl 1 rfl) ?_
  refine va_get (D := D) (ci := 5) (v := .ref dc) (C := RJx4a65c) (T := TJx4a65c) (N := 3) hx hb hts inJx4a65c hown hK hP 0 rfl rfl 1 (by decide) (hts _ K2045) (fun _ h9 => h9) rfl dJx4a65c_grow_92f84_11 ?_
  refine va_gets (C := "java/util/ArrayList") (n := "DEFAULTCAPACITY_EMPTY_ELEMENTDATA") (d := "[Ljava/lang/Object;") (v := .ref dc) hx hb hEm.2.2.2.1.1 hS hown (hts _ K2043) (fun _ h9 => h9) dJx4a65c_grow_92f84_14 ?_
  refine W.eq (g2 := F0 m 17 ls (va_rf (some dc) :: va_rf (some dc) :: [])) rfl ?_
  refine lv_acmp_eq (tgt := 45) hx hb dJx4a65c_grow_92f84_17 (by decide) (fun _ => ?_) (fun c_17 => absurd rfl c_17)
  refine lv_aload_n hx hb dJx4a65c_grow_92f84_45 rfl (lv_at hl 1 rfl) ?_
  refine lv_bipush (v := 10) hx hb dJx4a65c_grow_92f84_46 (by decide) ?_
  refine lv_iload_n hx hb dJx4a65c_grow_92f84_48 rfl (lv_at hl 2 rfl) ?_
  refine va_mmax hx hb (hml.trans hl.1.symm) hown (hts _ K2290) (hts _ K144) (hts _ K80) (hts _ K145) (Nat.le_of_ble_eq_true rfl) (Nat.le_of_ble_eq_true rfl) (Nat.le_of_ble_eq_true rfl) (Nat.le_of_ble_eq_true rfl) dJx4a65c_grow_92f84_49 ?_
  refine lv_topi (fun v_1 hv_1 => ?_)
  obtain rfl : v_1 = 10 := hv_1.trans (by decide)
  refine z_newq (C := "java/lang/Object") (N' := 10) hx hb 7 rfl hown (hts _ K2291) hEm.2.1.1 hK hP hD hS hA (by decide) (by decide) (Nat.le_of_ble_eq_true rfl) (Nat.le_of_ble_eq_true rfl) (Nat.le_of_ble_eq_true rfl) dJx4a65c_grow_92f84_52 (fun q52 H hP hD hS => ?_)
  have hP : va_P D vwCl [(h, .inr (5, [.int mc, .ref dc, .int 0])), (q52, .inl (cy 7, 10, .inr (.inr (.inr (.inr (fun _ => none))))))] H := hP
  have hD : va_D A [(h, .inr (5, [.int mc, .ref dc, .int 0])), (q52, .inl (cy 7, 10, .inr (.inr (.inr (.inr (fun _ => none))))))] := hD
  refine W.widen (k := 1) (n := 10) (Nat.le_of_ble_eq_true rfl) (Nat.le_of_ble_eq_true rfl) ?_
  refine lv_dup_x1 hx hb dJx4a65c_grow_92f84_55 rfl rfl ?_
  refine va_put (D := D) (ci := 5) (v := .ref q52) (ty := .array (.object "java/lang/Object")) (C := RJx4a65c) (T := TJx4a65c) (N := 3) hx hb hts inJx4a65c tyJx4a65c tyJx4a65c_ok nmJx4a65c hown hK hP hD hS 0 rfl rfl 1 (by decide) (hts _ K2045) (fun _ h9 => h9) rfl (by decide +kernel) rfl rfl (Nat.le_of_ble_eq_true rfl) dJx4a65c_grow_92f84_56 (fun H locs hP hD hS => ?_)
  have hP : va_P D vwCl [(h, .inr (5, [.int mc, .ref q52, .int 0])), (q52, .inl (cy 7, 10, .inr (.inr (.inr (.inr (fun _ => none))))))] H := hP
  have hD : va_D A [(h, .inr (5, [.int mc, .ref q52, .int 0])), (q52, .inl (cy 7, 10, .inr (.inr (.inr (.inr (fun _ => none))))))] := hD
  exact z_retq (fun k => [q52].getD k 0) hx hb hr (by first | exact Or.inl ⟨_, rfl⟩ | exact Or.inr ⟨_, rfl⟩) hlocks hK (rfl) hP hD hS (Nat.le_of_ble_eq_true rfl) (Nat.le_of_ble_eq_true rfl) dJx4a65c_grow_92f84_59
set_option maxHeartbeats 4000000 in
set_option maxRecDepth 100000 in
theorem k_grow (l : Launch) (D : va_G) (cy : Nat → ClassId) (sa : Nat → Nat) (sv : Nat → Nat) (dc : Nat) (h : Nat) (sz : Nat) (mc : Int32) : Met l yJx4a65c_grow_d5877 (Cond.code yJx4a65c_grow_d5877 cJx4a65c_grow_d5877 1 (some (.array (.object "java/lang/Object"))) :: ALL) ({ frames := 3, cells := 1, slots := 10, locals := 45 }) (zPc D vwCl (TY cy) (EM sa sv dc) [.ref h] [(h, .inr (5, [.int mc, .ref dc, .int 0]))] sz) (va_Qq (fun (r : Option Nat) (u : Nat → Nat) => r = some (u 0)) (zB D vwCl (TY cy) (S := Nat → Nat) (fun u => [(h, .inr (5, [.int mc, .ref (u 0), .int 0])), (u 0, .inl (cy 7, 10, .inr (.inr (.inr (.inr (fun _ => none))))))]) (va_A [(h, .inr (5, [.int mc, .ref dc, .int 0]))] sz)) (va_A [(h, .inr (5, [.int mc, .ref dc, .int 0]))] sz)) 1 10 (va_A [(h, .inr (5, [.int mc, .ref dc, .int 0]))] sz) := by
  refine z_start (Qc := fun A => va_Qq (fun (r : Option Nat) (u : Nat → Nat) => r = some (u 0)) (zB D vwCl (TY cy) (S := Nat → Nat) (fun u => [(h, .inr (5, [.int mc, .ref (u 0), .int 0])), (u 0, .inl (cy 7, 10, .inr (.inr (.inr (.inr (fun _ => none))))))]) A) A) PN_RJx4a65c (Nat.le_of_ble_eq_true rfl) ?_
  intro p e s m below meth c A ls hx hb hr hml hts hown hlocks hin hA hP hK hD hS hEn hl
  have hown : s.vm.findClass RJx4a65c = some m.cls := hown
  have hEm := hEn
  have hEn := hEn.1
  have hl : lv_has ls 1 [(0, .ref h)] := hl
  have hS0 := hS
  refine lv_aload_n hx hb dJx4a65c_grow_d5877_0 rfl (lv_at hl 0 rfl) ?_
  refine lv_aload_n hx hb dJx4a65c_grow_d5877_1 rfl (lv_at hl 0 rfl) ?_
  refine va_get (D := D) (ci := 5) (v := .int 0) (C := RJx4a65c) (T := TJx4a65c) (N := 3) hx hb hts inJx4a65c hown hK hP 0 rfl rfl 2 (by decide) (hts _ K2048) (fun _ h9 => h9) rfl dJx4a65c_grow_d5877_2 ?_
  refine lv_iconst (v := 1) hx hb dJx4a65c_grow_d5877_5 (by decide) ?_
  refine lv_iadd hx hb dJx4a65c_grow_d5877_6 ?_
  refine lv_topi (fun v_1 hv_1 => ?_)
  obtain rfl : v_1 = 1 := hv_1.trans (by decide)
  refine z_callq (va_runV (As := [.int 1]) (rest := []) ⟨hx, hb, hml, hown, hts⟩ (k_growI l D cy sa sv dc h _ mc) (cwV 1 hts GV_RJx4a65c_69 rfl rfl rfl ⟨rfl, HD_yJx4a65c_grow_92f84⟩ ⟨Nat.le_of_ble_eq_true rfl, Nat.le_of_ble_eq_true rfl⟩) ⟨z_blind EM_ok, va_recv hK hP (ci := 5) (q0 := 0) rfl rfl, z_pre EM_ok hP hK hD hEm hS (z_free hD hS hA)⟩ rfl rfl hl.1 rfl (lv_room (Nat.le_of_ble_eq_true rfl)) dJx4a65c_grow_d5877_7 ⟨Nat.le_of_ble_eq_true rfl, Nat.le_of_ble_eq_true rfl⟩) hD hS hA (fun r_7 u7 H locs hw_7 hP hD hS => ?_)
  have hP : va_P D vwCl [(h, .inr (5, [.int mc, .ref (u7 0), .int 0])), (u7 0, .inl (cy 7, 10, .inr (.inr (.inr (.inr (fun _ => none))))))] H := hP
  have hD : va_D A [(h, .inr (5, [.int mc, .ref (u7 0), .int 0])), (u7 0, .inl (cy 7, 10, .inr (.inr (.inr (.inr (fun _ => none))))))] := hD
  refine W.widen (k := 1) (n := 10) (Nat.le_of_ble_eq_true rfl) (Nat.le_of_ble_eq_true rfl) ?_
  obtain rfl := hw_7
  refine W.eq (g2 := F0 m 10 ls [.ref (u7 0)]) rfl ?_
  exact z_retq (fun k => [u7 0].getD k 0) hx hb hr (by first | exact Or.inl ⟨_, rfl⟩ | exact Or.inr ⟨_, rfl⟩) hlocks hK (rfl) hP hD hS (Nat.le_of_ble_eq_true rfl) (Nat.le_of_ble_eq_true rfl) dJx4a65c_grow_d5877_10
set_option maxHeartbeats 4000000 in
set_option maxRecDepth 100000 in
theorem k_add3 (l : Launch) (D : va_G) (cy : Nat → ClassId) (sa : Nat → Nat) (sv : Nat → Nat) (dc : Nat) (h v : Nat) (sz : Nat) (mc : Int32) (n : Nat) (f : Nat → Int32) : Met l yJx4a65c_add_72be8 (Cond.code yJx4a65c_add_72be8 cJx4a65c_add_72be8 4 none :: ALL) ({ frames := 4, cells := 1, slots := 10, locals := 65 }) (zPc D vwCl (TY cy) (EM sa sv dc) [.ref h, .ref v, .ref dc, .int 0] [(h, .inr (5, [.int mc, .ref dc, .int 0])), (v, .inl (cy 0, n, .inl f))] sz) (va_Qv (fun _ => True) (zB D vwCl (TY cy) (S := Nat → Nat) (fun u => [(h, .inr (5, [.int mc, .ref (u 0), .int 1]))]) (va_A [(h, .inr (5, [.int mc, .ref dc, .int 0])), (v, .inl (cy 0, n, .inl f))] sz)) (va_A [(h, .inr (5, [.int mc, .ref dc, .int 0])), (v, .inl (cy 0, n, .inl f))] sz)) 1 10 (va_A [(h, .inr (5, [.int mc, .ref dc, .int 0])), (v, .inl (cy 0, n, .inl f))] sz) := by
  refine z_start (Qc := fun A => va_Qv (fun _ => True) (zB D vwCl (TY cy) (S := Nat → Nat) (fun u => [(h, .inr (5, [.int mc, .ref (u 0), .int 1]))]) A) A) PN_RJx4a65c (Nat.le_of_ble_eq_true rfl) ?_
  intro p e s m below meth c A ls hx hb hr hml hts hown hlocks hin hA hP hK hD hS hEn hl
  have hown : s.vm.findClass RJx4a65c = some m.cls := hown
  have hEm := hEn
  have hEn := hEn.1
  have hl : lv_has ls 4 [(0, .ref h), (1, .ref v), (2, .ref dc), (3, .int 0)] := hl
  have hS0 := hS
  refine lv_iload_n hx hb dJx4a65c_add_72be8_0 rfl (lv_at hl 3 rfl) ?_
  refine lv_aload_n hx hb dJx4a65c_add_72be8_1 rfl (lv_at hl 2 rfl) ?_
  refine va_tlen (v := 0) hx hb hEm.2.2.2.1.2 hS rfl dJx4a65c_add_72be8_2 ?_
  refine lv_icmp_ne (tgt := 11) hx hb dJx4a65c_add_72be8_3 (by decide) (fun c_3 => absurd (by decide) c_3) (fun _ => ?_)
  refine lv_aload_n hx hb dJx4a65c_add_72be8_6 rfl (lv_at hl 0 rfl) ?_
  have hPc := hP.sub (ws' := [(h, .inr (5, [.int mc, .ref dc, .int 0]))]) [0] rfl
  have hDc := hD.sub (ws' := [(h, .inr (5, [.int mc, .ref dc, .int 0]))]) [0] (by decide) rfl
  have hFc := va_free (wc := [(h, .inr (5, [.int mc, .ref dc, .int 0]))]) hD hS hA [0] rfl
  refine z_callqJ (wr := [(v, .inl (cy 0, n, .inl f))]) (va_runV (As := []) (rest := []) ⟨hx, hb, hml, hown, hts⟩ (k_grow l D cy sa sv dc h _ mc) (cwV 0 hts GV_RJx4a65c_129 rfl rfl rfl ⟨rfl, HD_yJx4a65c_grow_d5877⟩ ⟨Nat.le_of_ble_eq_true rfl, Nat.le_of_ble_eq_true rfl⟩) ⟨z_blind EM_ok, va_recv hK hPc (ci := 5) (q0 := 0) rfl rfl, z_pre EM_ok hPc hK hDc hEm hS hFc⟩ rfl rfl hl.1 rfl (lv_room (Nat.le_of_ble_eq_true rfl)) dJx4a65c_add_72be8_7 ⟨Nat.le_of_ble_eq_true rfl, Nat.le_of_ble_eq_true rfl⟩) hP hD hS hA [0] [1] rfl rfl (by decide) (by decide) (fun r_7 u7 H locs hw_7 hP hD hS => ?_)
  have hP : va_P D vwCl [(v, .inl (cy 0, n, .inl f)), (h, .inr (5, [.int mc, .ref (u7 0), .int 0])), (u7 0, .inl (cy 7, 10, .inr (.inr (.inr (.inr (fun _ => none))))))] H := hP
  have hD : va_D A [(v, .inl (cy 0, n, .inl f)), (h, .inr (5, [.int mc, .ref (u7 0), .int 0])), (u7 0, .inl (cy 7, 10, .inr (.inr (.inr (.inr (fun _ => none))))))] := hD
  refine W.widen (k := 1) (n := 10) (Nat.le_of_ble_eq_true rfl) (Nat.le_of_ble_eq_true rfl) ?_
  obtain rfl := hw_7
  refine W.eq (g2 := F0 m 10 ls [.ref (u7 0)]) rfl ?_
  refine lv_astore_n (lv' := [(2, .ref (u7 0)), (0, .ref h), (1, .ref v), (3, .int 0)]) hx hb dJx4a65c_add_72be8_10 rfl hl (by decide) rfl (fun ls hl => ?_)
  refine lv_aload_n hx hb dJx4a65c_add_72be8_11 rfl (lv_at hl 0 rfl) ?_
  refine lv_iload_n hx hb dJx4a65c_add_72be8_12 rfl (lv_at hl 3 rfl) ?_
  refine lv_aload_n hx hb dJx4a65c_add_72be8_13 rfl (lv_at hl 2 rfl) ?_
  refine va_astqM hx hb hK hP hD hS 2 7 rfl rfl (any_int (args := #[]) hK hP (q0 := 0) rfl hEn.1 K2922) (by unfold vp_in; decide) dJx4a65c_add_72be8_14 (fun H locs hP hD hS => ?_)
  have hP : va_P D vwCl [(v, .inl (cy 0, n, .inl f)), (h, .inr (5, [.int mc, .ref (u7 0), .int 0])), (u7 0, .inl (cy 7, 10, .inr (.inr (.inr (.inr (va_up (fun _ => none) 0 (some v)))))))] H := hP
  have hD : va_D A [(v, .inl (cy 0, n, .inl f)), (h, .inr (5, [.int mc, .ref (u7 0), .int 0])), (u7 0, .inl (cy 7, 10, .inr (.inr (.inr (.inr (va_up (fun _ => none) 0 (some v)))))))] := hD
  refine lv_aload_n hx hb dJx4a65c_add_72be8_15 rfl (lv_at hl 1 rfl) ?_
  refine lv_iload_n hx hb dJx4a65c_add_72be8_16 rfl (lv_at hl 3 rfl) ?_
  refine lv_iconst (v := 1) hx hb dJx4a65c_add_72be8_17 (by decide) ?_
  refine lv_iadd hx hb dJx4a65c_add_72be8_18 ?_
  refine lv_topi (fun v_1 hv_1 => ?_)
  obtain rfl : v_1 = 1 := hv_1.trans (by decide)
  refine va_put (D := D) (ci := 5) (v := .int 1) (ty := .int) (C := RJx4a65c) (T := TJx4a65c) (N := 3) hx hb hts inJx4a65c tyJx4a65c tyJx4a65c_ok nmJx4a65c hown hK hP hD hS 1 rfl rfl 2 (by decide) (hts _ K2048) (fun _ h9 => h9) rfl (by decide +kernel) rfl rfl (Nat.le_of_ble_eq_true rfl) dJx4a65c_add_72be8_19 (fun H locs hP hD hS => ?_)
  have hP : va_P D vwCl [(v, .inl (cy 0, n, .inl f)), (h, .inr (5, [.int mc, .ref (u7 0), .int 1])), (u7 0, .inl (cy 7, 10, .inr (.inr (.inr (.inr (va_up (fun _ => none) 0 (some v)))))))] H := hP
  have hD : va_D A [(v, .inl (cy 0, n, .inl f)), (h, .inr (5, [.int mc, .ref (u7 0), .int 1])), (u7 0, .inl (cy 7, 10, .inr (.inr (.inr (.inr (va_up (fun _ => none) 0 (some v)))))))] := hD
  have hP := hP.sub (ws' := [(h, .inr (5, [.int mc, .ref (u7 0), .int 1]))]) [1] rfl
  have hD := hD.sub (ws' := [(h, .inr (5, [.int mc, .ref (u7 0), .int 1]))]) [1] (by decide) rfl
  exact z_retv (fun k => [u7 0].getD k 0) hx hb hr hlocks hK (trivial) hP hD hS (Nat.le_of_ble_eq_true rfl) (Nat.le_of_ble_eq_true rfl) dJx4a65c_add_72be8_22
set_option maxHeartbeats 4000000 in
set_option maxRecDepth 100000 in
theorem k_add (l : Launch) (D : va_G) (cy : Nat → ClassId) (sa : Nat → Nat) (sv : Nat → Nat) (dc : Nat) (h v : Nat) (sz : Nat) (n : Nat) (f : Nat → Int32) : Met l yJx4a65c_add_9ea2d (Cond.code yJx4a65c_add_9ea2d cJx4a65c_add_9ea2d 2 (some .boolean) :: ALL) ({ frames := 5, cells := 1, slots := 10, locals := 88 }) (zPc D vwCl (TY cy) (EM sa sv dc) [.ref h, .ref v] [(h, .inr (5, [.int 0, .ref dc, .int 0])), (v, .inl (cy 0, n, .inl f))] sz) (va_Qi (fun r _ => r = 1) (zB D vwCl (TY cy) (S := Nat → Nat) (fun u => [(h, .inr (5, [.int 1, .ref (u 0), .int 1]))]) (va_A [(h, .inr (5, [.int 0, .ref dc, .int 0])), (v, .inl (cy 0, n, .inl f))] sz)) (va_A [(h, .inr (5, [.int 0, .ref dc, .int 0])), (v, .inl (cy 0, n, .inl f))] sz)) 1 10 (va_A [(h, .inr (5, [.int 0, .ref dc, .int 0])), (v, .inl (cy 0, n, .inl f))] sz) := by
  refine z_start (Qc := fun A => va_Qi (fun r _ => r = 1) (zB D vwCl (TY cy) (S := Nat → Nat) (fun u => [(h, .inr (5, [.int 1, .ref (u 0), .int 1]))]) A) A) PN_RJx4a65c (Nat.le_of_ble_eq_true rfl) ?_
  intro p e s m below meth c A ls hx hb hr hml hts hown hlocks hin hA hP hK hD hS hEn hl
  have hown : s.vm.findClass RJx4a65c = some m.cls := hown
  have hEm := hEn
  have hEn := hEn.1
  have hl : lv_has ls 2 [(0, .ref h), (1, .ref v)] := hl
  have hS0 := hS
  refine lv_aload_n hx hb dJx4a65c_add_9ea2d_0 rfl (lv_at hl 0 rfl) ?_
  refine lv_dup hx hb dJx4a65c_add_9ea2d_1 rfl ?_
  refine va_get (D := D) (ci := 5) (v := .int 0) (C := RJx4a65c) (T := TJx4a65c) (N := 3) hx hb hts inJx4a65c hown hK hP 0 rfl rfl 0 (by decide) (hts _ K2052) (SF_modCount hts) rfl dJx4a65c_add_9ea2d_2 ?_
  refine lv_iconst (v := 1) hx hb dJx4a65c_add_9ea2d_5 (by decide) ?_
  refine lv_iadd hx hb dJx4a65c_add_9ea2d_6 ?_
  refine lv_topi (fun v_1 hv_1 => ?_)
  obtain rfl : v_1 = 1 := hv_1.trans (by decide)
  refine va_put (D := D) (ci := 5) (v := .int 1) (ty := .int) (C := RJx4a65c) (T := TJx4a65c) (N := 3) hx hb hts inJx4a65c tyJx4a65c tyJx4a65c_ok nmJx4a65c hown hK hP hD hS 0 rfl rfl 0 (by decide) (hts _ K2052) (SF_modCount hts) rfl (by decide +kernel) rfl rfl (Nat.le_of_ble_eq_true rfl) dJx4a65c_add_9ea2d_7 (fun H locs hP hD hS => ?_)
  have hP : va_P D vwCl [(h, .inr (5, [.int 1, .ref dc, .int 0])), (v, .inl (cy 0, n, .inl f))] H := hP
  have hD : va_D A [(h, .inr (5, [.int 1, .ref dc, .int 0])), (v, .inl (cy 0, n, .inl f))] := hD
  refine lv_aload_n hx hb dJx4a65c_add_9ea2d_10 rfl (lv_at hl 0 rfl) ?_
  refine lv_aload_n hx hb dJx4a65c_add_9ea2d_11 rfl (lv_at hl 1 rfl) ?_
  refine lv_aload_n hx hb dJx4a65c_add_9ea2d_12 rfl (lv_at hl 0 rfl) ?_
  refine va_get (D := D) (ci := 5) (v := .ref dc) (C := RJx4a65c) (T := TJx4a65c) (N := 3) hx hb hts inJx4a65c hown hK hP 0 rfl rfl 1 (by decide) (hts _ K2045) (fun _ h9 => h9) rfl dJx4a65c_add_9ea2d_13 ?_
  refine lv_aload_n hx hb dJx4a65c_add_9ea2d_16 rfl (lv_at hl 0 rfl) ?_
  refine va_get (D := D) (ci := 5) (v := .int 0) (C := RJx4a65c) (T := TJx4a65c) (N := 3) hx hb hts inJx4a65c hown hK hP 0 rfl rfl 2 (by decide) (hts _ K2048) (fun _ h9 => h9) rfl dJx4a65c_add_9ea2d_17 ?_
  refine z_callv (va_runV (As := [.ref v, .ref dc, .int 0]) (rest := []) ⟨hx, hb, hml, hown, hts⟩ (k_add3 l D cy sa sv dc h v _ 1 n (f)) (cwV 3 hts GV_RJx4a65c_131 rfl rfl rfl ⟨rfl, HD_yJx4a65c_add_72be8⟩ ⟨Nat.le_of_ble_eq_true rfl, Nat.le_of_ble_eq_true rfl⟩) ⟨z_blind EM_ok, va_recv hK hP (ci := 5) (q0 := 0) rfl rfl, z_pre EM_ok hP hK hD hEm hS (z_free hD hS hA)⟩ rfl rfl hl.1 rfl (lv_room (Nat.le_of_ble_eq_true rfl)) dJx4a65c_add_9ea2d_20 ⟨Nat.le_of_ble_eq_true rfl, Nat.le_of_ble_eq_true rfl⟩) hD hS hA (fun u20 H locs hw_20 hP hD hS => ?_)
  have hP : va_P D vwCl [(h, .inr (5, [.int 1, .ref (u20 0), .int 1]))] H := hP
  have hD : va_D A [(h, .inr (5, [.int 1, .ref (u20 0), .int 1]))] := hD
  refine W.widen (k := 1) (n := 10) (Nat.le_of_ble_eq_true rfl) (Nat.le_of_ble_eq_true rfl) ?_
  refine lv_iconst (v := 1) hx hb dJx4a65c_add_9ea2d_23 (by decide) ?_
  exact z_reti (fun k => [u20 0].getD k 0) hx hb hr rfl hlocks hK (rfl) hP hD hS (Nat.le_of_ble_eq_true rfl) (Nat.le_of_ble_eq_true rfl) dJx4a65c_add_9ea2d_24
