set_option maxHeartbeats 4000000 in
set_option maxRecDepth 100000 in
theorem k_tgInit (l : Launch) (D : va_G) (cy : Nat → ClassId) (sa : Nat → Nat) (sv : Nat → Nat) (dc : Nat) (h : Nat) (sz : Nat) : Met l yX14_init (Cond.code yX14_init cX14_init 1 none :: ALL) ({ frames := 4, cells := 2, slots := 19, locals := 72 }) (zPc D vwCl (TY cy) (EM sa sv dc) [.ref h] [(h, .inr (20, [.null, .null, .int 0, .int 0, .int 0]))] sz) (va_Qv (fun _ => True) (zB D vwCl (TY cy) (S := Nat → Nat) (fun u => [(h, .inr (20, [.ref (u 0), .ref (u 1), .int (-1), .int 0, .int (-1)])), (u 0, .inl (cy 0, 16, .inl (fun _ => 0))), (u 1, .inr (5, [.int 0, .ref dc, .int 0]))]) (va_A [(h, .inr (20, [.null, .null, .int 0, .int 0, .int 0]))] sz)) (va_A [(h, .inr (20, [.null, .null, .int 0, .int 0, .int 0]))] sz)) 2 19 (va_A [(h, .inr (20, [.null, .null, .int 0, .int 0, .int 0]))] sz) := by
  refine z_start (Qc := fun A => va_Qv (fun _ => True) (zB D vwCl (TY cy) (S := Nat → Nat) (fun u => [(h, .inr (20, [.ref (u 0), .ref (u 1), .int (-1), .int 0, .int (-1)])), (u 0, .inl (cy 0, 16, .inl (fun _ => 0))), (u 1, .inr (5, [.int 0, .ref dc, .int 0]))]) A) A) PN_RX14 (Nat.le_of_ble_eq_true rfl) ?_
  intro p e s m below meth c A ls hx hb hr hml hts hown hlocks hin hA hP hK hD hS hEn hl
  have hown : s.vm.findClass RX14 = some m.cls := hown
  have hEm := hEn
  have hEn := hEn.1
  have hl : lv_has ls 1 [(0, .ref h)] := hl
  have hS0 := hS
  refine lv_aload_n hx hb dX14_init_0 rfl (lv_at hl 0 rfl) ?_
  refine W.objInit hx hb hown (hts _ K2030) (hts _ K129) (hts _ K130) rfl (by rw [hml]; exact hl.1) rfl dX14_init_1 (Nat.le_of_ble_eq_true rfl) (Nat.le_of_ble_eq_true rfl) ?_
  refine W.eq (g2 := F0 m 4 ls []) rfl ?_
  refine lv_aload_n hx hb dX14_init_4 rfl (lv_at hl 0 rfl) ?_
  refine lv_bipush (v := 16) hx hb dX14_init_5 (by decide) ?_
  refine z_newa (atype := .int) (a0 := (16, .inl fun _ => 0)) (N' := 16) hx hb 0 rfl (hts _ K158) rfl hK hP hD hS hA (fun _ => rfl) (by decide) (by decide) (Nat.le_of_ble_eq_true rfl) (Nat.le_of_ble_eq_true rfl) (Nat.le_of_ble_eq_true rfl) dX14_init_7 (fun q7 H hP hD hS => ?_)
  have hP : va_P D vwCl [(h, .inr (20, [.null, .null, .int 0, .int 0, .int 0])), (q7, .inl (cy 0, 16, .inl (fun _ => 0)))] H := hP
  have hD : va_D A [(h, .inr (20, [.null, .null, .int 0, .int 0, .int 0])), (q7, .inl (cy 0, 16, .inl (fun _ => 0)))] := hD
  refine W.widen (k := 1) (n := 16) (Nat.le_of_ble_eq_true rfl) (Nat.le_of_ble_eq_true rfl) ?_
  refine va_putF (D := D) (ci := 20) (v := .ref q7) (ty := .array (.int)) (C := RX14) (T := TX14) (N := 5) hx hb hts inX14 tyX14 tyX14_ok nmX14 hown hK hP hD hS 0 rfl rfl 0 (by decide) (hts _ K2060) (fun _ h9 => h9) rfl hin rfl (by decide +kernel) rfl rfl (Nat.le_of_ble_eq_true rfl) dX14_init_9 (fun H locs hP hD hS => ?_)
  have hP : va_P D vwCl [(h, .inr (20, [.ref q7, .null, .int 0, .int 0, .int 0])), (q7, .inl (cy 0, 16, .inl (fun _ => 0)))] H := hP
  have hD : va_D A [(h, .inr (20, [.ref q7, .null, .int 0, .int 0, .int 0])), (q7, .inl (cy 0, 16, .inl (fun _ => 0)))] := hD
  refine lv_aload_n hx hb dX14_init_12 rfl (lv_at hl 0 rfl) ?_
  refine va_new (ci := 5) (fs := [.int 0, .null, .int 0]) (C := RJx4a65c) (T := TJx4a65c) (N := 3) hx hb hts inJx4a65c tyJx4a65c tyJx4a65c_ok hown (hts _ K2031) (hts _ K2032) (hts _ K98) hK hP hD hS hA rfl (by decide) (Nat.le_of_ble_eq_true rfl) (Nat.le_of_ble_eq_true rfl) dX14_init_13 (fun q13 H hP hD hS => ?_)
  have hP : va_P D vwCl [(h, .inr (20, [.ref q7, .null, .int 0, .int 0, .int 0])), (q7, .inl (cy 0, 16, .inl (fun _ => 0))), (q13, .inr (5, [.int 0, .null, .int 0]))] H := hP
  have hD : va_D A [(h, .inr (20, [.ref q7, .null, .int 0, .int 0, .int 0])), (q7, .inl (cy 0, 16, .inl (fun _ => 0))), (q13, .inr (5, [.int 0, .null, .int 0]))] := hD
  refine W.widen (k := 2) (n := 19) (Nat.le_of_ble_eq_true rfl) (Nat.le_of_ble_eq_true rfl) ?_
  refine lv_dup hx hb dX14_init_16 rfl ?_
  have hPc := hP.sub (ws' := [(q13, .inr (5, [.int 0, .null, .int 0]))]) [2] rfl
  have hDc := hD.sub (ws' := [(q13, .inr (5, [.int 0, .null, .int 0]))]) [2] (by decide) rfl
  have hFc := va_free (wc := [(q13, .inr (5, [.int 0, .null, .int 0]))]) hD hS hA [2] rfl
  refine z_callvJ (wr := [(h, .inr (20, [.ref q7, .null, .int 0, .int 0, .int 0])), (q7, .inl (cy 0, 16, .inl (fun _ => 0)))]) (va_runI (As := []) (rest := [.ref q13, .ref h]) ⟨hx, hb, hml, hown, hts⟩ (k_arInit l D cy sa sv dc q13 _) (cwI 0 hts GI_K2035 rfl rfl rfl (hts _ K98) (hts _ K2033) (hts _ K2034) rfl HD_yJx4a65c_init_da8c8 ⟨Nat.le_of_ble_eq_true rfl, Nat.le_of_ble_eq_true rfl⟩) ⟨z_blind EM_ok, z_pre EM_ok hPc hK hDc hEm hS hFc⟩ rfl rfl hl.1 rfl (lv_room (Nat.le_of_ble_eq_true rfl)) dX14_init_17 ⟨Nat.le_of_ble_eq_true rfl, Nat.le_of_ble_eq_true rfl⟩) hP hD hS hA [2] [0, 1] rfl rfl (by decide) (by decide) (fun u17 H locs hw_17 hP hD hS => ?_)
  have hP : va_P D vwCl [(h, .inr (20, [.ref q7, .null, .int 0, .int 0, .int 0])), (q7, .inl (cy 0, 16, .inl (fun _ => 0))), (q13, .inr (5, [.int 0, .ref dc, .int 0]))] H := hP
  have hD : va_D A [(h, .inr (20, [.ref q7, .null, .int 0, .int 0, .int 0])), (q7, .inl (cy 0, 16, .inl (fun _ => 0))), (q13, .inr (5, [.int 0, .ref dc, .int 0]))] := hD
  refine va_putF (D := D) (ci := 20) (v := .ref q13) (ty := .object "java/util/List") (C := RX14) (T := TX14) (N := 5) hx hb hts inX14 tyX14 tyX14_ok nmX14 hown hK hP hD hS 0 rfl rfl 1 (by decide) (hts _ K2062) (fun _ h9 => h9) rfl hin rfl (by decide +kernel) rfl rfl (Nat.le_of_ble_eq_true rfl) dX14_init_20 (fun H locs hP hD hS => ?_)
  have hP : va_P D vwCl [(h, .inr (20, [.ref q7, .ref q13, .int 0, .int 0, .int 0])), (q7, .inl (cy 0, 16, .inl (fun _ => 0))), (q13, .inr (5, [.int 0, .ref dc, .int 0]))] H := hP
  have hD : va_D A [(h, .inr (20, [.ref q7, .ref q13, .int 0, .int 0, .int 0])), (q7, .inl (cy 0, 16, .inl (fun _ => 0))), (q13, .inr (5, [.int 0, .ref dc, .int 0]))] := hD
  refine lv_aload_n hx hb dX14_init_23 rfl (lv_at hl 0 rfl) ?_
  refine lv_iconst (v := (-1)) hx hb dX14_init_24 (by decide) ?_
  refine va_put (D := D) (ci := 20) (v := .int (-1)) (ty := .int) (C := RX14) (T := TX14) (N := 5) hx hb hts inX14 tyX14 tyX14_ok nmX14 hown hK hP hD hS 0 rfl rfl 2 (by decide) (hts _ K2064) (fun _ h9 => h9) rfl (by decide +kernel) rfl rfl (Nat.le_of_ble_eq_true rfl) dX14_init_25 (fun H locs hP hD hS => ?_)
  have hP : va_P D vwCl [(h, .inr (20, [.ref q7, .ref q13, .int (-1), .int 0, .int 0])), (q7, .inl (cy 0, 16, .inl (fun _ => 0))), (q13, .inr (5, [.int 0, .ref dc, .int 0]))] H := hP
  have hD : va_D A [(h, .inr (20, [.ref q7, .ref q13, .int (-1), .int 0, .int 0])), (q7, .inl (cy 0, 16, .inl (fun _ => 0))), (q13, .inr (5, [.int 0, .ref dc, .int 0]))] := hD
  refine lv_aload_n hx hb dX14_init_28 rfl (lv_at hl 0 rfl) ?_
  refine lv_iconst (v := (-1)) hx hb dX14_init_29 (by decide) ?_
  refine va_put (D := D) (ci := 20) (v := .int (-1)) (ty := .int) (C := RX14) (T := TX14) (N := 5) hx hb hts inX14 tyX14 tyX14_ok nmX14 hown hK hP hD hS 0 rfl rfl 4 (by decide) (hts _ K2068) (fun _ h9 => h9) rfl (by decide +kernel) rfl rfl (Nat.le_of_ble_eq_true rfl) dX14_init_30 (fun H locs hP hD hS => ?_)
  have hP : va_P D vwCl [(h, .inr (20, [.ref q7, .ref q13, .int (-1), .int 0, .int (-1)])), (q7, .inl (cy 0, 16, .inl (fun _ => 0))), (q13, .inr (5, [.int 0, .ref dc, .int 0]))] H := hP
  have hD : va_D A [(h, .inr (20, [.ref q7, .ref q13, .int (-1), .int 0, .int (-1)])), (q7, .inl (cy 0, 16, .inl (fun _ => 0))), (q13, .inr (5, [.int 0, .ref dc, .int 0]))] := hD
  exact z_retv (fun k => [q7, q13].getD k 0) hx hb hr hlocks hK (trivial) hP hD hS (Nat.le_of_ble_eq_true rfl) (Nat.le_of_ble_eq_true rfl) dX14_init_33
set_option maxHeartbeats 4000000 in
set_option maxRecDepth 100000 in
theorem k_brInit (l : Launch) (D : va_G) (cy : Nat → ClassId) (sa : Nat → Nat) (sv : Nat → Nat) (dc : Nat) (h : Nat) (sz : Nat) : Met l yX12_init (Cond.code yX12_init cX12_init 1 none :: ALL) ({ frames := 1, cells := 1, slots := 60, locals := 12 }) (zPc D vwCl (TY cy) (EM sa sv dc) [.ref h] [(h, .inr (18, [.null, .int 0, .int 0, .int 0, .int 0, .int 0, .int 0]))] sz) (va_Qv (fun _ => True) (zB D vwCl (TY cy) (S := Nat → Nat) (fun u => [(h, .inr (18, [.ref (u 0), .int 45, .int 0, .int 0, .int 1, .int 0, .int 0])), (u 0, .inl (cy 2, 60, .inl (fun _ => 0)))]) (va_A [(h, .inr (18, [.null, .int 0, .int 0, .int 0, .int 0, .int 0, .int 0]))] sz)) (va_A [(h, .inr (18, [.null, .int 0, .int 0, .int 0, .int 0, .int 0, .int 0]))] sz)) 1 60 (va_A [(h, .inr (18, [.null, .int 0, .int 0, .int 0, .int 0, .int 0, .int 0]))] sz) := by
  refine z_start (Qc := fun A => va_Qv (fun _ => True) (zB D vwCl (TY cy) (S := Nat → Nat) (fun u => [(h, .inr (18, [.ref (u 0), .int 45, .int 0, .int 0, .int 1, .int 0, .int 0])), (u 0, .inl (cy 2, 60, .inl (fun _ => 0)))]) A) A) PN_RX12 (Nat.le_of_ble_eq_true rfl) ?_
  intro p e s m below meth c A ls hx hb hr hml hts hown hlocks hin hA hP hK hD hS hEn hl
  have hown : s.vm.findClass RX12 = some m.cls := hown
  have hEm := hEn
  have hEn := hEn.1
  have hl : lv_has ls 1 [(0, .ref h)] := hl
  have hS0 := hS
  refine lv_aload_n hx hb dX12_init_0 rfl (lv_at hl 0 rfl) ?_
  refine W.objInit hx hb hown (hts _ K2647) (hts _ K129) (hts _ K130) rfl (by rw [hml]; exact hl.1) rfl dX12_init_1 (Nat.le_of_ble_eq_true rfl) (Nat.le_of_ble_eq_true rfl) ?_
  refine W.eq (g2 := F0 m 4 ls []) rfl ?_
  refine lv_aload_n hx hb dX12_init_4 rfl (lv_at hl 0 rfl) ?_
  refine lv_bipush (v := 60) hx hb dX12_init_5 (by decide) ?_
  refine z_newa (atype := .boolean) (a0 := (60, .inl fun _ => 0)) (N' := 60) hx hb 2 rfl (hts _ K347) rfl hK hP hD hS hA (fun _ => rfl) (by decide) (by decide) (Nat.le_of_ble_eq_true rfl) (Nat.le_of_ble_eq_true rfl) (Nat.le_of_ble_eq_true rfl) dX12_init_7 (fun q7 H hP hD hS => ?_)
  have hP : va_P D vwCl [(h, .inr (18, [.null, .int 0, .int 0, .int 0, .int 0, .int 0, .int 0])), (q7, .inl (cy 2, 60, .inl (fun _ => 0)))] H := hP
  have hD : va_D A [(h, .inr (18, [.null, .int 0, .int 0, .int 0, .int 0, .int 0, .int 0])), (q7, .inl (cy 2, 60, .inl (fun _ => 0)))] := hD
  refine W.widen (k := 1) (n := 60) (Nat.le_of_ble_eq_true rfl) (Nat.le_of_ble_eq_true rfl) ?_
  refine va_putF (D := D) (ci := 18) (v := .ref q7) (ty := .array (.boolean)) (C := RX12) (T := TX12) (N := 7) hx hb hts inX12 tyX12 tyX12_ok nmX12 hown hK hP hD hS 0 rfl rfl 0 (by decide) (hts _ K2648) (fun _ h9 => h9) rfl hin rfl (by decide +kernel) rfl rfl (Nat.le_of_ble_eq_true rfl) dX12_init_9 (fun H locs hP hD hS => ?_)
  have hP : va_P D vwCl [(h, .inr (18, [.ref q7, .int 0, .int 0, .int 0, .int 0, .int 0, .int 0])), (q7, .inl (cy 2, 60, .inl (fun _ => 0)))] H := hP
  have hD : va_D A [(h, .inr (18, [.ref q7, .int 0, .int 0, .int 0, .int 0, .int 0, .int 0])), (q7, .inl (cy 2, 60, .inl (fun _ => 0)))] := hD
  refine lv_aload_n hx hb dX12_init_12 rfl (lv_at hl 0 rfl) ?_
  refine lv_bipush (v := 45) hx hb dX12_init_13 (by decide) ?_
  refine va_put (D := D) (ci := 18) (v := .int 45) (ty := .char) (C := RX12) (T := TX12) (N := 7) hx hb hts inX12 tyX12 tyX12_ok nmX12 hown hK hP hD hS 0 rfl rfl 1 (by decide) (hts _ K2650) (fun _ h9 => h9) rfl (by decide +kernel) rfl rfl (Nat.le_of_ble_eq_true rfl) dX12_init_15 (fun H locs hP hD hS => ?_)
  have hP : va_P D vwCl [(h, .inr (18, [.ref q7, .int 45, .int 0, .int 0, .int 0, .int 0, .int 0])), (q7, .inl (cy 2, 60, .inl (fun _ => 0)))] H := hP
  have hD : va_D A [(h, .inr (18, [.ref q7, .int 45, .int 0, .int 0, .int 0, .int 0, .int 0])), (q7, .inl (cy 2, 60, .inl (fun _ => 0)))] := hD
  refine lv_aload_n hx hb dX12_init_18 rfl (lv_at hl 0 rfl) ?_
  refine lv_iconst (v := 1) hx hb dX12_init_19 (by decide) ?_
  refine va_put (D := D) (ci := 18) (v := .int 1) (ty := .boolean) (C := RX12) (T := TX12) (N := 7) hx hb hts inX12 tyX12 tyX12_ok nmX12 hown hK hP hD hS 0 rfl rfl 4 (by decide) (hts _ K2654) (fun _ h9 => h9) rfl (by decide +kernel) rfl rfl (Nat.le_of_ble_eq_true rfl) dX12_init_20 (fun H locs hP hD hS => ?_)
  have hP : va_P D vwCl [(h, .inr (18, [.ref q7, .int 45, .int 0, .int 0, .int 1, .int 0, .int 0])), (q7, .inl (cy 2, 60, .inl (fun _ => 0)))] H := hP
  have hD : va_D A [(h, .inr (18, [.ref q7, .int 45, .int 0, .int 0, .int 1, .int 0, .int 0])), (q7, .inl (cy 2, 60, .inl (fun _ => 0)))] := hD
  exact z_retv (fun k => [q7].getD k 0) hx hb hr hlocks hK (trivial) hP hD hS (Nat.le_of_ble_eq_true rfl) (Nat.le_of_ble_eq_true rfl) dX12_init_23
