set_option maxHeartbeats 4000000 in
set_option maxRecDepth 100000 in
theorem k_cell1 (l : Launch) (D : va_G) (cy : Nat → ClassId) (sa : Nat → Nat) (sv : Nat → Nat) (dc : Nat) (md mt mtc : Nat) (sz : Nat) (lkp lcd mli mru lfn mhe mma lin lsc lva lpl lbr lwa mtt : Nat) (p0 : Int32) (h : bl p0 16 = 1) : Met l yX15_cell (Cond.code yX15_cell cX15_cell 2 (some .int) :: ALL) ({ frames := 1, cells := 0, slots := 0, locals := 25 }) (zPc D vwCl (TY cy) (EM sa sv dc) [.ref md, .int p0] [(md, .inr (21, [.int 0, .ref mt, .ref lkp, .ref lcd, .ref mli, .ref mru, .ref lfn, .ref mhe, .ref mma, .ref lin, .ref lsc, .ref lva, .ref lpl, .ref (sa 51), .ref lbr, .ref lwa, .int 45, .int (-1)])), (mt, .inr (20, [.ref mtc, .ref mtt, .int (-1), .int 0, .int (-1)])), (mtc, .inl (cy 0, 16, .inl (fun _ => 0)))] sz) (va_Qi (fun r _ => r = 0) (zB D vwCl (TY cy) (S := Unit) (fun u => [(md, .inr (21, [.int 0, .ref mt, .ref lkp, .ref lcd, .ref mli, .ref mru, .ref lfn, .ref mhe, .ref mma, .ref lin, .ref lsc, .ref lva, .ref lpl, .ref (sa 51), .ref lbr, .ref lwa, .int 45, .int (-1)]))]) (va_A [(md, .inr (21, [.int 0, .ref mt, .ref lkp, .ref lcd, .ref mli, .ref mru, .ref lfn, .ref mhe, .ref mma, .ref lin, .ref lsc, .ref lva, .ref lpl, .ref (sa 51), .ref lbr, .ref lwa, .int 45, .int (-1)])), (mt, .inr (20, [.ref mtc, .ref mtt, .int (-1), .int 0, .int (-1)])), (mtc, .inl (cy 0, 16, .inl (fun _ => 0)))] sz)) (va_A [(md, .inr (21, [.int 0, .ref mt, .ref lkp, .ref lcd, .ref mli, .ref mru, .ref lfn, .ref mhe, .ref mma, .ref lin, .ref lsc, .ref lva, .ref lpl, .ref (sa 51), .ref lbr, .ref lwa, .int 45, .int (-1)])), (mt, .inr (20, [.ref mtc, .ref mtt, .int (-1), .int 0, .int (-1)])), (mtc, .inl (cy 0, 16, .inl (fun _ => 0)))] sz)) 0 0 (va_A [(md, .inr (21, [.int 0, .ref mt, .ref lkp, .ref lcd, .ref mli, .ref mru, .ref lfn, .ref mhe, .ref mma, .ref lin, .ref lsc, .ref lva, .ref lpl, .ref (sa 51), .ref lbr, .ref lwa, .int 45, .int (-1)])), (mt, .inr (20, [.ref mtc, .ref mtt, .int (-1), .int 0, .int (-1)])), (mtc, .inl (cy 0, 16, .inl (fun _ => 0)))] sz) := by
  refine z_start (Qc := fun A => va_Qi (fun r _ => r = 0) (zB D vwCl (TY cy) (S := Unit) (fun u => [(md, .inr (21, [.int 0, .ref mt, .ref lkp, .ref lcd, .ref mli, .ref mru, .ref lfn, .ref mhe, .ref mma, .ref lin, .ref lsc, .ref lva, .ref lpl, .ref (sa 51), .ref lbr, .ref lwa, .int 45, .int (-1)]))]) A) A) PN_RX15 (Nat.le_of_ble_eq_true rfl) ?_
  intro p e s m below meth c A ls hx hb hr hml hts hown hlocks hin hA hP hK hD hS hEn hl
  have hown : s.vm.findClass RX15 = some m.cls := hown
  have hEm := hEn
  have hEn := hEn.1
  have hl : lv_has ls 2 [(0, .ref md), (1, .int p0)] := hl
  have hS0 := hS
  refine lv_aload_n hx hb dX15_cell_0 rfl (lv_at hl 0 rfl) ?_
  have hPc := hP.sub (ws' := [(md, .inr (21, [.int 0, .ref mt, .ref lkp, .ref lcd, .ref mli, .ref mru, .ref lfn, .ref mhe, .ref mma, .ref lin, .ref lsc, .ref lva, .ref lpl, .ref (sa 51), .ref lbr, .ref lwa, .int 45, .int (-1)]))]) [0] rfl
  have hDc := hD.sub (ws' := [(md, .inr (21, [.int 0, .ref mt, .ref lkp, .ref lcd, .ref mli, .ref mru, .ref lfn, .ref mhe, .ref mma, .ref lin, .ref lsc, .ref lva, .ref lpl, .ref (sa 51), .ref lbr, .ref lwa, .int 45, .int (-1)]))]) [0] (by decide) rfl
  have hFc := va_free (wc := [(md, .inr (21, [.int 0, .ref mt, .ref lkp, .ref lcd, .ref mli, .ref mru, .ref lfn, .ref mhe, .ref mma, .ref lin, .ref lsc, .ref lva, .ref lpl, .ref (sa 51), .ref lbr, .ref lwa, .int 45, .int (-1)]))]) hD hS hA [0] rfl
  refine z_callvJ (wr := [(mt, .inr (20, [.ref mtc, .ref mtt, .int (-1), .int 0, .int (-1)])), (mtc, .inl (cy 0, 16, .inl (fun _ => 0)))]) (va_runV (As := []) (rest := []) ⟨hx, hb, hml, hown, hts⟩ (k_begins l D cy sa sv dc md _ mt lkp lcd mli mru lfn mhe mma lin lsc lva lpl lbr lwa) (cwV 0 hts GV_RX15_124 rfl rfl rfl ⟨rfl, HD_yX15_begins⟩ ⟨Nat.le_of_ble_eq_true rfl, Nat.le_of_ble_eq_true rfl⟩) ⟨z_blind EM_ok, va_recv hK hPc (ci := 21) (q0 := 0) rfl rfl, z_pre EM_ok hPc hK hDc hEm hS hFc⟩ rfl rfl hl.1 rfl (lv_room (Nat.le_of_ble_eq_true rfl)) dX15_cell_1 ⟨Nat.le_of_ble_eq_true rfl, Nat.le_of_ble_eq_true rfl⟩) hP hD hS hA [0] [1, 2] rfl rfl (by decide) (by decide) (fun u1 H locs hw_1 hP hD hS => ?_)
  have hP : va_P D vwCl [(mt, .inr (20, [.ref mtc, .ref mtt, .int (-1), .int 0, .int (-1)])), (mtc, .inl (cy 0, 16, .inl (fun _ => 0))), (md, .inr (21, [.int 0, .ref mt, .ref lkp, .ref lcd, .ref mli, .ref mru, .ref lfn, .ref mhe, .ref mma, .ref lin, .ref lsc, .ref lva, .ref lpl, .ref (sa 51), .ref lbr, .ref lwa, .int 45, .int (-1)]))] H := hP
  have hD : va_D A [(mt, .inr (20, [.ref mtc, .ref mtt, .int (-1), .int 0, .int (-1)])), (mtc, .inl (cy 0, 16, .inl (fun _ => 0))), (md, .inr (21, [.int 0, .ref mt, .ref lkp, .ref lcd, .ref mli, .ref mru, .ref lfn, .ref mhe, .ref mma, .ref lin, .ref lsc, .ref lva, .ref lpl, .ref (sa 51), .ref lbr, .ref lwa, .int 45, .int (-1)]))] := hD
  refine lv_aload_n hx hb dX15_cell_4 rfl (lv_at hl 0 rfl) ?_
  refine lv_iload_n hx hb dX15_cell_5 rfl (lv_at hl 1 rfl) ?_
  refine lv_i2l hx hb dX15_cell_6 rfl ?_
  refine lv_lconst (v := 0) hx hb dX15_cell_7 (by decide) ?_
  refine lv_ldc2 hx hb hown (hts _ K2209) dX15_cell_8 ?_
  have hPc := hP.sub (ws' := []) [] rfl
  have hDc := hD.sub (ws' := []) [] (by decide) rfl
  have hFc := va_free (wc := []) hD hS hA [] rfl
  refine z_calliJ (wr := [(mt, .inr (20, [.ref mtc, .ref mtt, .int (-1), .int 0, .int (-1)])), (mtc, .inl (cy 0, 16, .inl (fun _ => 0))), (md, .inr (21, [.int 0, .ref mt, .ref lkp, .ref lcd, .ref mli, .ref mru, .ref lfn, .ref mhe, .ref mma, .ref lin, .ref lsc, .ref lva, .ref lpl, .ref (sa 51), .ref lbr, .ref lwa, .int 45, .int (-1)]))]) (va_runS (As := [.long p0.toInt64, .long 0, .long 15]) (rest := [.ref md]) ⟨hx, hb, hml, hown, hts⟩ (k_in l D cy sa sv dc _ (p0.toInt64) 0 15) (va_cwS 3 hts GS_RX15_13 rfl rfl rfl HD_yX15_in ⟨Nat.le_of_ble_eq_true rfl, Nat.le_of_ble_eq_true rfl⟩) ⟨z_blind EM_ok, z_pre EM_ok hPc hK hDc hEm hS hFc⟩ rfl rfl hl.1 rfl (lv_room (Nat.le_of_ble_eq_true rfl)) dX15_cell_11 ⟨Nat.le_of_ble_eq_true rfl, Nat.le_of_ble_eq_true rfl⟩) hP hD hS hA [] [0, 1, 2] rfl rfl (by decide) (by decide) (fun r_11 u11 H locs hw_11 hP hD hS => ?_)
  have hP : va_P D vwCl [(mt, .inr (20, [.ref mtc, .ref mtt, .int (-1), .int 0, .int (-1)])), (mtc, .inl (cy 0, 16, .inl (fun _ => 0))), (md, .inr (21, [.int 0, .ref mt, .ref lkp, .ref lcd, .ref mli, .ref mru, .ref lfn, .ref mhe, .ref mma, .ref lin, .ref lsc, .ref lva, .ref lpl, .ref (sa 51), .ref lbr, .ref lwa, .int 45, .int (-1)]))] H := hP
  have hD : va_D A [(mt, .inr (20, [.ref mtc, .ref mtt, .int (-1), .int 0, .int (-1)])), (mtc, .inl (cy 0, 16, .inl (fun _ => 0))), (md, .inr (21, [.int 0, .ref mt, .ref lkp, .ref lcd, .ref mli, .ref mru, .ref lfn, .ref mhe, .ref mma, .ref lin, .ref lsc, .ref lva, .ref lpl, .ref (sa 51), .ref lbr, .ref lwa, .int 45, .int (-1)]))] := hD
  obtain rfl := hw_11
  refine lv_if_ne (tgt := 21) hx hb dX15_cell_14 (by decide) (fun _ => ?_) (fun c_14 => absurd c_14 (fun z => absurd (((inL_16 p0).trans h).symm.trans z) (by decide)))
  refine lv_iconst (v := 0) hx hb dX15_cell_21 (by decide) ?_
  refine lv_iconst (v := 1) hx hb dX15_cell_22 (by decide) ?_
  have hPc := hP.sub (ws' := [(md, .inr (21, [.int 0, .ref mt, .ref lkp, .ref lcd, .ref mli, .ref mru, .ref lfn, .ref mhe, .ref mma, .ref lin, .ref lsc, .ref lva, .ref lpl, .ref (sa 51), .ref lbr, .ref lwa, .int 45, .int (-1)]))]) [2] rfl
  have hDc := hD.sub (ws' := [(md, .inr (21, [.int 0, .ref mt, .ref lkp, .ref lcd, .ref mli, .ref mru, .ref lfn, .ref mhe, .ref mma, .ref lin, .ref lsc, .ref lva, .ref lpl, .ref (sa 51), .ref lbr, .ref lwa, .int 45, .int (-1)]))]) [2] (by decide) rfl
  have hFc := va_free (wc := [(md, .inr (21, [.int 0, .ref mt, .ref lkp, .ref lcd, .ref mli, .ref mru, .ref lfn, .ref mhe, .ref mma, .ref lin, .ref lsc, .ref lva, .ref lpl, .ref (sa 51), .ref lbr, .ref lwa, .int 45, .int (-1)]))]) hD hS hA [2] rfl
  refine z_calliJ (wr := [(mt, .inr (20, [.ref mtc, .ref mtt, .int (-1), .int 0, .int (-1)])), (mtc, .inl (cy 0, 16, .inl (fun _ => 0)))]) (va_runV (As := [.int 0, .int 1]) (rest := []) ⟨hx, hb, hml, hown, hts⟩ (k_fails0 l D cy sa sv dc md _ mt lkp lcd mli mru lfn mhe mma lin lsc lva lpl lbr lwa 1) (cwV 2 hts GV_RX15_98 rfl rfl rfl ⟨rfl, HD_yX15_fails⟩ ⟨Nat.le_of_ble_eq_true rfl, Nat.le_of_ble_eq_true rfl⟩) ⟨z_blind EM_ok, va_recv hK hPc (ci := 21) (q0 := 0) rfl rfl, z_pre EM_ok hPc hK hDc hEm hS hFc⟩ rfl rfl hl.1 rfl (lv_room (Nat.le_of_ble_eq_true rfl)) dX15_cell_23 ⟨Nat.le_of_ble_eq_true rfl, Nat.le_of_ble_eq_true rfl⟩) hP hD hS hA [2] [0, 1] rfl rfl (by decide) (by decide) (fun r_23 u23 H locs hw_23 hP hD hS => ?_)
  have hP : va_P D vwCl [(mt, .inr (20, [.ref mtc, .ref mtt, .int (-1), .int 0, .int (-1)])), (mtc, .inl (cy 0, 16, .inl (fun _ => 0))), (md, .inr (21, [.int 0, .ref mt, .ref lkp, .ref lcd, .ref mli, .ref mru, .ref lfn, .ref mhe, .ref mma, .ref lin, .ref lsc, .ref lva, .ref lpl, .ref (sa 51), .ref lbr, .ref lwa, .int 45, .int (-1)]))] H := hP
  have hD : va_D A [(mt, .inr (20, [.ref mtc, .ref mtt, .int (-1), .int 0, .int (-1)])), (mtc, .inl (cy 0, 16, .inl (fun _ => 0))), (md, .inr (21, [.int 0, .ref mt, .ref lkp, .ref lcd, .ref mli, .ref mru, .ref lfn, .ref mhe, .ref mma, .ref lin, .ref lsc, .ref lva, .ref lpl, .ref (sa 51), .ref lbr, .ref lwa, .int 45, .int (-1)]))] := hD
  obtain rfl := hw_23
  refine lv_if_eq (tgt := 33) hx hb dX15_cell_26 (by decide) (fun _ => ?_) (fun c_26 => absurd (by decide) c_26)
  refine lv_aload_n hx hb dX15_cell_33 rfl (lv_at hl 0 rfl) ?_
  refine va_get (D := D) (ci := 21) (v := .ref mt) (C := RX15) (T := TX15) (N := 18) hx hb hts inX15 hown hK hP 2 rfl rfl 1 (by decide) (hts _ K2087) (fun _ h9 => h9) rfl dX15_cell_34 ?_
  refine va_getN (D := D) (ci := 20) (v := .ref mtc) (C := RX14) (T := TX14) (N := 5) hx hb hts inX14 hown hK hP 0 rfl rfl 0 (by decide) (va_Nw.use rfl (hEn.1 _ K2061)) (fun _ h9 => h9) rfl dX15_cell_37 ?_
  refine lv_iload_n hx hb dX15_cell_40 rfl (lv_at hl 1 rfl) ?_
  refine va_iald hx hb hK hP 1 0 rfl rfl (bl_in16 h) dX15_cell_41 ?_
  refine W.eq (g2 := F0 m 42 ls [.int 0]) rfl ?_
  have hP := hP.sub (ws' := [(md, .inr (21, [.int 0, .ref mt, .ref lkp, .ref lcd, .ref mli, .ref mru, .ref lfn, .ref mhe, .ref mma, .ref lin, .ref lsc, .ref lva, .ref lpl, .ref (sa 51), .ref lbr, .ref lwa, .int 45, .int (-1)]))]) [2] rfl
  have hD := hD.sub (ws' := [(md, .inr (21, [.int 0, .ref mt, .ref lkp, .ref lcd, .ref mli, .ref mru, .ref lfn, .ref mhe, .ref mma, .ref lin, .ref lsc, .ref lva, .ref lpl, .ref (sa 51), .ref lbr, .ref lwa, .int 45, .int (-1)]))]) [2] (by decide) rfl
  exact z_reti () hx hb hr rfl hlocks hK (rfl) hP hD hS (Nat.le_of_ble_eq_true rfl) (Nat.le_of_ble_eq_true rfl) dX15_cell_42
set_option maxHeartbeats 4000000 in
set_option maxRecDepth 100000 in
theorem k_cell0 (l : Launch) (D : va_G) (cy : Nat → ClassId) (sa : Nat → Nat) (sv : Nat → Nat) (dc : Nat) (md : Nat) (sz : Nat) (mt lkp lcd mli mru lfn mhe mma lin lsc lva lpl lbr lwa : Nat) (p0 : Int32) (h : bl p0 16 = 0) : Met l yX15_cell (Cond.code yX15_cell cX15_cell 2 (some .int) :: ALL) ({ frames := 1, cells := 0, slots := 0, locals := 25 }) (zPc D vwCl (TY cy) (EM sa sv dc) [.ref md, .int p0] [(md, .inr (21, [.int 0, .ref mt, .ref lkp, .ref lcd, .ref mli, .ref mru, .ref lfn, .ref mhe, .ref mma, .ref lin, .ref lsc, .ref lva, .ref lpl, .ref (sa 51), .ref lbr, .ref lwa, .int 45, .int (-1)]))] sz) (va_Qi (fun r _ => r = (-1)) (zB D vwCl (TY cy) (S := Unit) (fun u => [(md, .inr (21, [.int 1, .ref mt, .ref lkp, .ref lcd, .ref mli, .ref mru, .ref lfn, .ref mhe, .ref mma, .ref lin, .ref lsc, .ref lva, .ref lpl, .ref (sa 51), .ref lbr, .ref lwa, .int 45, .int (-1)]))]) (va_A [(md, .inr (21, [.int 0, .ref mt, .ref lkp, .ref lcd, .ref mli, .ref mru, .ref lfn, .ref mhe, .ref mma, .ref lin, .ref lsc, .ref lva, .ref lpl, .ref (sa 51), .ref lbr, .ref lwa, .int 45, .int (-1)]))] sz)) (va_A [(md, .inr (21, [.int 0, .ref mt, .ref lkp, .ref lcd, .ref mli, .ref mru, .ref lfn, .ref mhe, .ref mma, .ref lin, .ref lsc, .ref lva, .ref lpl, .ref (sa 51), .ref lbr, .ref lwa, .int 45, .int (-1)]))] sz)) 0 0 (va_A [(md, .inr (21, [.int 0, .ref mt, .ref lkp, .ref lcd, .ref mli, .ref mru, .ref lfn, .ref mhe, .ref mma, .ref lin, .ref lsc, .ref lva, .ref lpl, .ref (sa 51), .ref lbr, .ref lwa, .int 45, .int (-1)]))] sz) := by
  refine z_start (Qc := fun A => va_Qi (fun r _ => r = (-1)) (zB D vwCl (TY cy) (S := Unit) (fun u => [(md, .inr (21, [.int 1, .ref mt, .ref lkp, .ref lcd, .ref mli, .ref mru, .ref lfn, .ref mhe, .ref mma, .ref lin, .ref lsc, .ref lva, .ref lpl, .ref (sa 51), .ref lbr, .ref lwa, .int 45, .int (-1)]))]) A) A) PN_RX15 (Nat.le_of_ble_eq_true rfl) ?_
  intro p e s m below meth c A ls hx hb hr hml hts hown hlocks hin hA hP hK hD hS hEn hl
  have hown : s.vm.findClass RX15 = some m.cls := hown
  have hEm := hEn
  have hEn := hEn.1
  have hl : lv_has ls 2 [(0, .ref md), (1, .int p0)] := hl
  have hS0 := hS
  refine lv_aload_n hx hb dX15_cell_0 rfl (lv_at hl 0 rfl) ?_
  refine z_callv (va_runV (As := []) (rest := []) ⟨hx, hb, hml, hown, hts⟩ (k_begins l D cy sa sv dc md _ mt lkp lcd mli mru lfn mhe mma lin lsc lva lpl lbr lwa) (cwV 0 hts GV_RX15_124 rfl rfl rfl ⟨rfl, HD_yX15_begins⟩ ⟨Nat.le_of_ble_eq_true rfl, Nat.le_of_ble_eq_true rfl⟩) ⟨z_blind EM_ok, va_recv hK hP (ci := 21) (q0 := 0) rfl rfl, z_pre EM_ok hP hK hD hEm hS (z_free hD hS hA)⟩ rfl rfl hl.1 rfl (lv_room (Nat.le_of_ble_eq_true rfl)) dX15_cell_1 ⟨Nat.le_of_ble_eq_true rfl, Nat.le_of_ble_eq_true rfl⟩) hD hS hA (fun u1 H locs hw_1 hP hD hS => ?_)
  have hP : va_P D vwCl [(md, .inr (21, [.int 0, .ref mt, .ref lkp, .ref lcd, .ref mli, .ref mru, .ref lfn, .ref mhe, .ref mma, .ref lin, .ref lsc, .ref lva, .ref lpl, .ref (sa 51), .ref lbr, .ref lwa, .int 45, .int (-1)]))] H := hP
  have hD : va_D A [(md, .inr (21, [.int 0, .ref mt, .ref lkp, .ref lcd, .ref mli, .ref mru, .ref lfn, .ref mhe, .ref mma, .ref lin, .ref lsc, .ref lva, .ref lpl, .ref (sa 51), .ref lbr, .ref lwa, .int 45, .int (-1)]))] := hD
  refine lv_aload_n hx hb dX15_cell_4 rfl (lv_at hl 0 rfl) ?_
  refine lv_iload_n hx hb dX15_cell_5 rfl (lv_at hl 1 rfl) ?_
  refine lv_i2l hx hb dX15_cell_6 rfl ?_
  refine lv_lconst (v := 0) hx hb dX15_cell_7 (by decide) ?_
  refine lv_ldc2 hx hb hown (hts _ K2209) dX15_cell_8 ?_
  have hPc := hP.sub (ws' := []) [] rfl
  have hDc := hD.sub (ws' := []) [] (by decide) rfl
  have hFc := va_free (wc := []) hD hS hA [] rfl
  refine z_calliJ (wr := [(md, .inr (21, [.int 0, .ref mt, .ref lkp, .ref lcd, .ref mli, .ref mru, .ref lfn, .ref mhe, .ref mma, .ref lin, .ref lsc, .ref lva, .ref lpl, .ref (sa 51), .ref lbr, .ref lwa, .int 45, .int (-1)]))]) (va_runS (As := [.long p0.toInt64, .long 0, .long 15]) (rest := [.ref md]) ⟨hx, hb, hml, hown, hts⟩ (k_in l D cy sa sv dc _ (p0.toInt64) 0 15) (va_cwS 3 hts GS_RX15_13 rfl rfl rfl HD_yX15_in ⟨Nat.le_of_ble_eq_true rfl, Nat.le_of_ble_eq_true rfl⟩) ⟨z_blind EM_ok, z_pre EM_ok hPc hK hDc hEm hS hFc⟩ rfl rfl hl.1 rfl (lv_room (Nat.le_of_ble_eq_true rfl)) dX15_cell_11 ⟨Nat.le_of_ble_eq_true rfl, Nat.le_of_ble_eq_true rfl⟩) hP hD hS hA [] [0] rfl rfl (by decide) (by decide) (fun r_11 u11 H locs hw_11 hP hD hS => ?_)
  have hP : va_P D vwCl [(md, .inr (21, [.int 0, .ref mt, .ref lkp, .ref lcd, .ref mli, .ref mru, .ref lfn, .ref mhe, .ref mma, .ref lin, .ref lsc, .ref lva, .ref lpl, .ref (sa 51), .ref lbr, .ref lwa, .int 45, .int (-1)]))] H := hP
  have hD : va_D A [(md, .inr (21, [.int 0, .ref mt, .ref lkp, .ref lcd, .ref mli, .ref mru, .ref lfn, .ref mhe, .ref mma, .ref lin, .ref lsc, .ref lva, .ref lpl, .ref (sa 51), .ref lbr, .ref lwa, .int 45, .int (-1)]))] := hD
  obtain rfl := hw_11
  refine lv_if_ne (tgt := 21) hx hb dX15_cell_14 (by decide) (fun c_14 => absurd ((inL_16 p0).trans h) c_14) (fun _ => ?_)
  refine lv_iconst (v := 1) hx hb dX15_cell_17 (by decide) ?_
  refine lv_goto (tgt := 22) hx hb dX15_cell_18 (by decide) ?_
  refine lv_iconst (v := 1) hx hb dX15_cell_22 (by decide) ?_
  refine z_calli (va_runV (As := [.int 1, .int 1]) (rest := []) ⟨hx, hb, hml, hown, hts⟩ (k_fails1 l D cy sa sv dc md _ mt lkp lcd mli mru lfn mhe mma lin lsc lva lpl lbr lwa) (cwV 2 hts GV_RX15_98 rfl rfl rfl ⟨rfl, HD_yX15_fails⟩ ⟨Nat.le_of_ble_eq_true rfl, Nat.le_of_ble_eq_true rfl⟩) ⟨z_blind EM_ok, va_recv hK hP (ci := 21) (q0 := 0) rfl rfl, z_pre EM_ok hP hK hD hEm hS (z_free hD hS hA)⟩ rfl rfl hl.1 rfl (lv_room (Nat.le_of_ble_eq_true rfl)) dX15_cell_23 ⟨Nat.le_of_ble_eq_true rfl, Nat.le_of_ble_eq_true rfl⟩) hD hS hA (fun r_23 u23 H locs hw_23 hP hD hS => ?_)
  have hP : va_P D vwCl [(md, .inr (21, [.int 1, .ref mt, .ref lkp, .ref lcd, .ref mli, .ref mru, .ref lfn, .ref mhe, .ref mma, .ref lin, .ref lsc, .ref lva, .ref lpl, .ref (sa 51), .ref lbr, .ref lwa, .int 45, .int (-1)]))] H := hP
  have hD : va_D A [(md, .inr (21, [.int 1, .ref mt, .ref lkp, .ref lcd, .ref mli, .ref mru, .ref lfn, .ref mhe, .ref mma, .ref lin, .ref lsc, .ref lva, .ref lpl, .ref (sa 51), .ref lbr, .ref lwa, .int 45, .int (-1)]))] := hD
  obtain rfl := hw_23
  refine lv_if_eq (tgt := 33) hx hb dX15_cell_26 (by decide) (fun c_26 => absurd c_26 (by decide)) (fun _ => ?_)
  refine lv_iconst (v := (-1)) hx hb dX15_cell_29 (by decide) ?_
  refine lv_goto (tgt := 42) hx hb dX15_cell_30 (by decide) ?_
  exact z_reti () hx hb hr rfl hlocks hK (rfl) hP hD hS (Nat.le_of_ble_eq_true rfl) (Nat.le_of_ble_eq_true rfl) dX15_cell_42
set_option maxHeartbeats 4000000 in
set_option maxRecDepth 100000 in
theorem k_watch1 (l : Launch) (D : va_G) (cy : Nat → ClassId) (sa : Nat → Nat) (sv : Nat → Nat) (dc : Nat) (md mt mtc lwa : Nat) (sz : Nat) (lkp lcd mli mru lfn mhe mma lin lsc lva lpl lbr mtt : Nat) (p0 : Int32) (h : bl p0 16 = 1) : Met l yX15_watch (Cond.code yX15_watch cX15_watch 2 (some .int) :: ALL) ({ frames := 6, cells := 2, slots := 15, locals := 109 }) (zPc D vwCl (TY cy) (EM sa sv dc) [.ref md, .int p0] [(md, .inr (21, [.int 0, .ref mt, .ref lkp, .ref lcd, .ref mli, .ref mru, .ref lfn, .ref mhe, .ref mma, .ref lin, .ref lsc, .ref lva, .ref lpl, .ref (sa 51), .ref lbr, .ref lwa, .int 45, .int (-1)])), (mt, .inr (20, [.ref mtc, .ref mtt, .int (-1), .int 0, .int (-1)])), (mtc, .inl (cy 0, 16, .inl (fun _ => 0))), (lwa, .inr (5, [.int 0, .ref dc, .int 0]))] sz) (va_Qi (fun r _ => r = 0) (zB D vwCl (TY cy) (S := Unit) (fun u => [(md, .inr (21, [.int 0, .ref mt, .ref lkp, .ref lcd, .ref mli, .ref mru, .ref lfn, .ref mhe, .ref mma, .ref lin, .ref lsc, .ref lva, .ref lpl, .ref (sa 51), .ref lbr, .ref lwa, .int 45, .int (-1)]))]) (va_A [(md, .inr (21, [.int 0, .ref mt, .ref lkp, .ref lcd, .ref mli, .ref mru, .ref lfn, .ref mhe, .ref mma, .ref lin, .ref lsc, .ref lva, .ref lpl, .ref (sa 51), .ref lbr, .ref lwa, .int 45, .int (-1)])), (mt, .inr (20, [.ref mtc, .ref mtt, .int (-1), .int 0, .int (-1)])), (mtc, .inl (cy 0, 16, .inl (fun _ => 0))), (lwa, .inr (5, [.int 0, .ref dc, .int 0]))] sz)) (va_A [(md, .inr (21, [.int 0, .ref mt, .ref lkp, .ref lcd, .ref mli, .ref mru, .ref lfn, .ref mhe, .ref mma, .ref lin, .ref lsc, .ref lva, .ref lpl, .ref (sa 51), .ref lbr, .ref lwa, .int 45, .int (-1)])), (mt, .inr (20, [.ref mtc, .ref mtt, .int (-1), .int 0, .int (-1)])), (mtc, .inl (cy 0, 16, .inl (fun _ => 0))), (lwa, .inr (5, [.int 0, .ref dc, .int 0]))] sz)) 2 15 (va_A [(md, .inr (21, [.int 0, .ref mt, .ref lkp, .ref lcd, .ref mli, .ref mru, .ref lfn, .ref mhe, .ref mma, .ref lin, .ref lsc, .ref lva, .ref lpl, .ref (sa 51), .ref lbr, .ref lwa, .int 45, .int (-1)])), (mt, .inr (20, [.ref mtc, .ref mtt, .int (-1), .int 0, .int (-1)])), (mtc, .inl (cy 0, 16, .inl (fun _ => 0))), (lwa, .inr (5, [.int 0, .ref dc, .int 0]))] sz) := by
  refine z_start (Qc := fun A => va_Qi (fun r _ => r = 0) (zB D vwCl (TY cy) (S := Unit) (fun u => [(md, .inr (21, [.int 0, .ref mt, .ref lkp, .ref lcd, .ref mli, .ref mru, .ref lfn, .ref mhe, .ref mma, .ref lin, .ref lsc, .ref lva, .ref lpl, .ref (sa 51), .ref lbr, .ref lwa, .int 45, .int (-1)]))]) A) A) PN_RX15 (Nat.le_of_ble_eq_true rfl) ?_
  intro p e s m below meth c A ls hx hb hr hml hts hown hlocks hin hA hP hK hD hS hEn hl
  have hown : s.vm.findClass RX15 = some m.cls := hown
  have hEm := hEn
  have hEn := hEn.1
  have hl : lv_has ls 2 [(0, .ref md), (1, .int p0)] := hl
  have hS0 := hS
  refine lv_aload_n hx hb dX15_watch_0 rfl (lv_at hl 0 rfl) ?_
  have hPc := hP.sub (ws' := [(md, .inr (21, [.int 0, .ref mt, .ref lkp, .ref lcd, .ref mli, .ref mru, .ref lfn, .ref mhe, .ref mma, .ref lin, .ref lsc, .ref lva, .ref lpl, .ref (sa 51), .ref lbr, .ref lwa, .int 45, .int (-1)]))]) [0] rfl
  have hDc := hD.sub (ws' := [(md, .inr (21, [.int 0, .ref mt, .ref lkp, .ref lcd, .ref mli, .ref mru, .ref lfn, .ref mhe, .ref mma, .ref lin, .ref lsc, .ref lva, .ref lpl, .ref (sa 51), .ref lbr, .ref lwa, .int 45, .int (-1)]))]) [0] (by decide) rfl
  have hFc := va_free (wc := [(md, .inr (21, [.int 0, .ref mt, .ref lkp, .ref lcd, .ref mli, .ref mru, .ref lfn, .ref mhe, .ref mma, .ref lin, .ref lsc, .ref lva, .ref lpl, .ref (sa 51), .ref lbr, .ref lwa, .int 45, .int (-1)]))]) hD hS hA [0] rfl
  refine z_callvJ (wr := [(mt, .inr (20, [.ref mtc, .ref mtt, .int (-1), .int 0, .int (-1)])), (mtc, .inl (cy 0, 16, .inl (fun _ => 0))), (lwa, .inr (5, [.int 0, .ref dc, .int 0]))]) (va_runV (As := []) (rest := []) ⟨hx, hb, hml, hown, hts⟩ (k_begins l D cy sa sv dc md _ mt lkp lcd mli mru lfn mhe mma lin lsc lva lpl lbr lwa) (cwV 0 hts GV_RX15_124 rfl rfl rfl ⟨rfl, HD_yX15_begins⟩ ⟨Nat.le_of_ble_eq_true rfl, Nat.le_of_ble_eq_true rfl⟩) ⟨z_blind EM_ok, va_recv hK hPc (ci := 21) (q0 := 0) rfl rfl, z_pre EM_ok hPc hK hDc hEm hS hFc⟩ rfl rfl hl.1 rfl (lv_room (Nat.le_of_ble_eq_true rfl)) dX15_watch_1 ⟨Nat.le_of_ble_eq_true rfl, Nat.le_of_ble_eq_true rfl⟩) hP hD hS hA [0] [1, 2, 3] rfl rfl (by decide) (by decide) (fun u1 H locs hw_1 hP hD hS => ?_)
  have hP : va_P D vwCl [(mt, .inr (20, [.ref mtc, .ref mtt, .int (-1), .int 0, .int (-1)])), (mtc, .inl (cy 0, 16, .inl (fun _ => 0))), (lwa, .inr (5, [.int 0, .ref dc, .int 0])), (md, .inr (21, [.int 0, .ref mt, .ref lkp, .ref lcd, .ref mli, .ref mru, .ref lfn, .ref mhe, .ref mma, .ref lin, .ref lsc, .ref lva, .ref lpl, .ref (sa 51), .ref lbr, .ref lwa, .int 45, .int (-1)]))] H := hP
  have hD : va_D A [(mt, .inr (20, [.ref mtc, .ref mtt, .int (-1), .int 0, .int (-1)])), (mtc, .inl (cy 0, 16, .inl (fun _ => 0))), (lwa, .inr (5, [.int 0, .ref dc, .int 0])), (md, .inr (21, [.int 0, .ref mt, .ref lkp, .ref lcd, .ref mli, .ref mru, .ref lfn, .ref mhe, .ref mma, .ref lin, .ref lsc, .ref lva, .ref lpl, .ref (sa 51), .ref lbr, .ref lwa, .int 45, .int (-1)]))] := hD
  refine lv_aload_n hx hb dX15_watch_4 rfl (lv_at hl 0 rfl) ?_
  refine lv_iload_n hx hb dX15_watch_5 rfl (lv_at hl 1 rfl) ?_
  refine lv_i2l hx hb dX15_watch_6 rfl ?_
  refine lv_lconst (v := 0) hx hb dX15_watch_7 (by decide) ?_
  refine lv_ldc2 hx hb hown (hts _ K2209) dX15_watch_8 ?_
  have hPc := hP.sub (ws' := []) [] rfl
  have hDc := hD.sub (ws' := []) [] (by decide) rfl
  have hFc := va_free (wc := []) hD hS hA [] rfl
  refine z_calliJ (wr := [(mt, .inr (20, [.ref mtc, .ref mtt, .int (-1), .int 0, .int (-1)])), (mtc, .inl (cy 0, 16, .inl (fun _ => 0))), (lwa, .inr (5, [.int 0, .ref dc, .int 0])), (md, .inr (21, [.int 0, .ref mt, .ref lkp, .ref lcd, .ref mli, .ref mru, .ref lfn, .ref mhe, .ref mma, .ref lin, .ref lsc, .ref lva, .ref lpl, .ref (sa 51), .ref lbr, .ref lwa, .int 45, .int (-1)]))]) (va_runS (As := [.long p0.toInt64, .long 0, .long 15]) (rest := [.ref md]) ⟨hx, hb, hml, hown, hts⟩ (k_in l D cy sa sv dc _ (p0.toInt64) 0 15) (va_cwS 3 hts GS_RX15_13 rfl rfl rfl HD_yX15_in ⟨Nat.le_of_ble_eq_true rfl, Nat.le_of_ble_eq_true rfl⟩) ⟨z_blind EM_ok, z_pre EM_ok hPc hK hDc hEm hS hFc⟩ rfl rfl hl.1 rfl (lv_room (Nat.le_of_ble_eq_true rfl)) dX15_watch_11 ⟨Nat.le_of_ble_eq_true rfl, Nat.le_of_ble_eq_true rfl⟩) hP hD hS hA [] [0, 1, 2, 3] rfl rfl (by decide) (by decide) (fun r_11 u11 H locs hw_11 hP hD hS => ?_)
  have hP : va_P D vwCl [(mt, .inr (20, [.ref mtc, .ref mtt, .int (-1), .int 0, .int (-1)])), (mtc, .inl (cy 0, 16, .inl (fun _ => 0))), (lwa, .inr (5, [.int 0, .ref dc, .int 0])), (md, .inr (21, [.int 0, .ref mt, .ref lkp, .ref lcd, .ref mli, .ref mru, .ref lfn, .ref mhe, .ref mma, .ref lin, .ref lsc, .ref lva, .ref lpl, .ref (sa 51), .ref lbr, .ref lwa, .int 45, .int (-1)]))] H := hP
  have hD : va_D A [(mt, .inr (20, [.ref mtc, .ref mtt, .int (-1), .int 0, .int (-1)])), (mtc, .inl (cy 0, 16, .inl (fun _ => 0))), (lwa, .inr (5, [.int 0, .ref dc, .int 0])), (md, .inr (21, [.int 0, .ref mt, .ref lkp, .ref lcd, .ref mli, .ref mru, .ref lfn, .ref mhe, .ref mma, .ref lin, .ref lsc, .ref lva, .ref lpl, .ref (sa 51), .ref lbr, .ref lwa, .int 45, .int (-1)]))] := hD
  obtain rfl := hw_11
  refine lv_if_ne (tgt := 21) hx hb dX15_watch_14 (by decide) (fun _ => ?_) (fun c_14 => absurd c_14 (fun z => absurd (((inL_16 p0).trans h).symm.trans z) (by decide)))
  refine lv_iconst (v := 0) hx hb dX15_watch_21 (by decide) ?_
  refine lv_iconst (v := 1) hx hb dX15_watch_22 (by decide) ?_
  have hPc := hP.sub (ws' := [(md, .inr (21, [.int 0, .ref mt, .ref lkp, .ref lcd, .ref mli, .ref mru, .ref lfn, .ref mhe, .ref mma, .ref lin, .ref lsc, .ref lva, .ref lpl, .ref (sa 51), .ref lbr, .ref lwa, .int 45, .int (-1)]))]) [3] rfl
  have hDc := hD.sub (ws' := [(md, .inr (21, [.int 0, .ref mt, .ref lkp, .ref lcd, .ref mli, .ref mru, .ref lfn, .ref mhe, .ref mma, .ref lin, .ref lsc, .ref lva, .ref lpl, .ref (sa 51), .ref lbr, .ref lwa, .int 45, .int (-1)]))]) [3] (by decide) rfl
  have hFc := va_free (wc := [(md, .inr (21, [.int 0, .ref mt, .ref lkp, .ref lcd, .ref mli, .ref mru, .ref lfn, .ref mhe, .ref mma, .ref lin, .ref lsc, .ref lva, .ref lpl, .ref (sa 51), .ref lbr, .ref lwa, .int 45, .int (-1)]))]) hD hS hA [3] rfl
  refine z_calliJ (wr := [(mt, .inr (20, [.ref mtc, .ref mtt, .int (-1), .int 0, .int (-1)])), (mtc, .inl (cy 0, 16, .inl (fun _ => 0))), (lwa, .inr (5, [.int 0, .ref dc, .int 0]))]) (va_runV (As := [.int 0, .int 1]) (rest := []) ⟨hx, hb, hml, hown, hts⟩ (k_fails0 l D cy sa sv dc md _ mt lkp lcd mli mru lfn mhe mma lin lsc lva lpl lbr lwa 1) (cwV 2 hts GV_RX15_98 rfl rfl rfl ⟨rfl, HD_yX15_fails⟩ ⟨Nat.le_of_ble_eq_true rfl, Nat.le_of_ble_eq_true rfl⟩) ⟨z_blind EM_ok, va_recv hK hPc (ci := 21) (q0 := 0) rfl rfl, z_pre EM_ok hPc hK hDc hEm hS hFc⟩ rfl rfl hl.1 rfl (lv_room (Nat.le_of_ble_eq_true rfl)) dX15_watch_23 ⟨Nat.le_of_ble_eq_true rfl, Nat.le_of_ble_eq_true rfl⟩) hP hD hS hA [3] [0, 1, 2] rfl rfl (by decide) (by decide) (fun r_23 u23 H locs hw_23 hP hD hS => ?_)
  have hP : va_P D vwCl [(mt, .inr (20, [.ref mtc, .ref mtt, .int (-1), .int 0, .int (-1)])), (mtc, .inl (cy 0, 16, .inl (fun _ => 0))), (lwa, .inr (5, [.int 0, .ref dc, .int 0])), (md, .inr (21, [.int 0, .ref mt, .ref lkp, .ref lcd, .ref mli, .ref mru, .ref lfn, .ref mhe, .ref mma, .ref lin, .ref lsc, .ref lva, .ref lpl, .ref (sa 51), .ref lbr, .ref lwa, .int 45, .int (-1)]))] H := hP
  have hD : va_D A [(mt, .inr (20, [.ref mtc, .ref mtt, .int (-1), .int 0, .int (-1)])), (mtc, .inl (cy 0, 16, .inl (fun _ => 0))), (lwa, .inr (5, [.int 0, .ref dc, .int 0])), (md, .inr (21, [.int 0, .ref mt, .ref lkp, .ref lcd, .ref mli, .ref mru, .ref lfn, .ref mhe, .ref mma, .ref lin, .ref lsc, .ref lva, .ref lpl, .ref (sa 51), .ref lbr, .ref lwa, .int 45, .int (-1)]))] := hD
  obtain rfl := hw_23
  refine lv_if_ne (tgt := 55) hx hb dX15_watch_26 (by decide) (fun c_26 => absurd (by decide) c_26) (fun _ => ?_)
  refine lv_aload_n hx hb dX15_watch_29 rfl (lv_at hl 0 rfl) ?_
  refine lv_aload_n hx hb dX15_watch_30 rfl (lv_at hl 0 rfl) ?_
  refine va_get (D := D) (ci := 21) (v := .ref lwa) (C := RX15) (T := TX15) (N := 18) hx hb hts inX15 hown hK hP 3 rfl rfl 15 (by decide) (hts _ K2101) (fun _ h9 => h9) rfl dX15_watch_31 ?_
  have hPc := hP.sub (ws' := [(lwa, .inr (5, [.int 0, .ref dc, .int 0]))]) [2] rfl
  have hDc := hD.sub (ws' := [(lwa, .inr (5, [.int 0, .ref dc, .int 0]))]) [2] (by decide) rfl
  have hFc := va_free (wc := [(lwa, .inr (5, [.int 0, .ref dc, .int 0]))]) hD hS hA [2] rfl
  refine z_callFiJ (wr := [(mt, .inr (20, [.ref mtc, .ref mtt, .int (-1), .int 0, .int (-1)])), (mtc, .inl (cy 0, 16, .inl (fun _ => 0))), (md, .inr (21, [.int 0, .ref mt, .ref lkp, .ref lcd, .ref mli, .ref mru, .ref lfn, .ref mhe, .ref mma, .ref lin, .ref lsc, .ref lva, .ref lpl, .ref (sa 51), .ref lbr, .ref lwa, .int 45, .int (-1)]))]) (va_runF (As := []) (rest := [.ref md]) (hK.1 5 _ rfl).2 ⟨hx, hb, hml, hown, hts⟩ (k_size l D cy sa sv dc lwa _ dc 0 0) (va_cwF 0 hts GF_RX15_7 rfl rfl rfl (hEm.2.2.1 0 _ rfl) HD___java_util_List____size______I__ ⟨Nat.le_of_ble_eq_true rfl, Nat.le_of_ble_eq_true rfl⟩) ⟨z_blind EM_ok, va_recv hK hPc (ci := 5) (q0 := 0) rfl rfl, z_pre EM_ok hPc hK hDc hEm hS hFc⟩ rfl rfl hl.1 rfl (lv_room (Nat.le_of_ble_eq_true rfl)) dX15_watch_34 ⟨Nat.le_of_ble_eq_true rfl, Nat.le_of_ble_eq_true rfl⟩) hP hD hS hA [2] [0, 1, 3] rfl rfl (by decide) (by decide) (fun r_34 u34 H locs hw_34 hP hD hS => ?_)
  have hP : va_P D vwCl [(mt, .inr (20, [.ref mtc, .ref mtt, .int (-1), .int 0, .int (-1)])), (mtc, .inl (cy 0, 16, .inl (fun _ => 0))), (md, .inr (21, [.int 0, .ref mt, .ref lkp, .ref lcd, .ref mli, .ref mru, .ref lfn, .ref mhe, .ref mma, .ref lin, .ref lsc, .ref lva, .ref lpl, .ref (sa 51), .ref lbr, .ref lwa, .int 45, .int (-1)])), (lwa, .inr (5, [.int 0, .ref dc, .int 0]))] H := hP
  have hD : va_D A [(mt, .inr (20, [.ref mtc, .ref mtt, .int (-1), .int 0, .int (-1)])), (mtc, .inl (cy 0, 16, .inl (fun _ => 0))), (md, .inr (21, [.int 0, .ref mt, .ref lkp, .ref lcd, .ref mli, .ref mru, .ref lfn, .ref mhe, .ref mma, .ref lin, .ref lsc, .ref lva, .ref lpl, .ref (sa 51), .ref lbr, .ref lwa, .int 45, .int (-1)])), (lwa, .inr (5, [.int 0, .ref dc, .int 0]))] := hD
  obtain rfl := hw_34
  refine lv_iconst (v := 4) hx hb dX15_watch_39 (by decide) ?_
  refine lv_icmp_ne (tgt := 47) hx hb dX15_watch_40 (by decide) (fun _ => ?_) (fun c_40 => absurd c_40 (by decide))
  refine lv_iconst (v := 0) hx hb dX15_watch_47 (by decide) ?_
  refine lv_iconst (v := 2) hx hb dX15_watch_48 (by decide) ?_
  have hPc := hP.sub (ws' := [(md, .inr (21, [.int 0, .ref mt, .ref lkp, .ref lcd, .ref mli, .ref mru, .ref lfn, .ref mhe, .ref mma, .ref lin, .ref lsc, .ref lva, .ref lpl, .ref (sa 51), .ref lbr, .ref lwa, .int 45, .int (-1)]))]) [2] rfl
  have hDc := hD.sub (ws' := [(md, .inr (21, [.int 0, .ref mt, .ref lkp, .ref lcd, .ref mli, .ref mru, .ref lfn, .ref mhe, .ref mma, .ref lin, .ref lsc, .ref lva, .ref lpl, .ref (sa 51), .ref lbr, .ref lwa, .int 45, .int (-1)]))]) [2] (by decide) rfl
  have hFc := va_free (wc := [(md, .inr (21, [.int 0, .ref mt, .ref lkp, .ref lcd, .ref mli, .ref mru, .ref lfn, .ref mhe, .ref mma, .ref lin, .ref lsc, .ref lva, .ref lpl, .ref (sa 51), .ref lbr, .ref lwa, .int 45, .int (-1)]))]) hD hS hA [2] rfl
  refine z_calliJ (wr := [(mt, .inr (20, [.ref mtc, .ref mtt, .int (-1), .int 0, .int (-1)])), (mtc, .inl (cy 0, 16, .inl (fun _ => 0))), (lwa, .inr (5, [.int 0, .ref dc, .int 0]))]) (va_runV (As := [.int 0, .int 2]) (rest := []) ⟨hx, hb, hml, hown, hts⟩ (k_fails0 l D cy sa sv dc md _ mt lkp lcd mli mru lfn mhe mma lin lsc lva lpl lbr lwa 2) (cwV 2 hts GV_RX15_98 rfl rfl rfl ⟨rfl, HD_yX15_fails⟩ ⟨Nat.le_of_ble_eq_true rfl, Nat.le_of_ble_eq_true rfl⟩) ⟨z_blind EM_ok, va_recv hK hPc (ci := 21) (q0 := 0) rfl rfl, z_pre EM_ok hPc hK hDc hEm hS hFc⟩ rfl rfl hl.1 rfl (lv_room (Nat.le_of_ble_eq_true rfl)) dX15_watch_49 ⟨Nat.le_of_ble_eq_true rfl, Nat.le_of_ble_eq_true rfl⟩) hP hD hS hA [2] [0, 1, 3] rfl rfl (by decide) (by decide) (fun r_49 u49 H locs hw_49 hP hD hS => ?_)
  have hP : va_P D vwCl [(mt, .inr (20, [.ref mtc, .ref mtt, .int (-1), .int 0, .int (-1)])), (mtc, .inl (cy 0, 16, .inl (fun _ => 0))), (lwa, .inr (5, [.int 0, .ref dc, .int 0])), (md, .inr (21, [.int 0, .ref mt, .ref lkp, .ref lcd, .ref mli, .ref mru, .ref lfn, .ref mhe, .ref mma, .ref lin, .ref lsc, .ref lva, .ref lpl, .ref (sa 51), .ref lbr, .ref lwa, .int 45, .int (-1)]))] H := hP
  have hD : va_D A [(mt, .inr (20, [.ref mtc, .ref mtt, .int (-1), .int 0, .int (-1)])), (mtc, .inl (cy 0, 16, .inl (fun _ => 0))), (lwa, .inr (5, [.int 0, .ref dc, .int 0])), (md, .inr (21, [.int 0, .ref mt, .ref lkp, .ref lcd, .ref mli, .ref mru, .ref lfn, .ref mhe, .ref mma, .ref lin, .ref lsc, .ref lva, .ref lpl, .ref (sa 51), .ref lbr, .ref lwa, .int 45, .int (-1)]))] := hD
  obtain rfl := hw_49
  refine lv_if_eq (tgt := 57) hx hb dX15_watch_52 (by decide) (fun _ => ?_) (fun c_52 => absurd (by decide) c_52)
  refine lv_aload_n hx hb dX15_watch_57 rfl (lv_at hl 0 rfl) ?_
  refine va_get (D := D) (ci := 21) (v := .ref lwa) (C := RX15) (T := TX15) (N := 18) hx hb hts inX15 hown hK hP 3 rfl rfl 15 (by decide) (hts _ K2101) (fun _ h9 => h9) rfl dX15_watch_58 ?_
  refine lv_iconst (v := 5) hx hb dX15_watch_61 (by decide) ?_
  refine z_newa (atype := .int) (a0 := (5, .inl fun _ => 0)) (N' := 5) hx hb 0 rfl (hts _ K158) rfl hK hP hD hS hA (fun _ => rfl) (by decide) (by decide) (Nat.le_of_ble_eq_true rfl) (Nat.le_of_ble_eq_true rfl) (Nat.le_of_ble_eq_true rfl) dX15_watch_62 (fun q62 H hP hD hS => ?_)
  have hP : va_P D vwCl [(mt, .inr (20, [.ref mtc, .ref mtt, .int (-1), .int 0, .int (-1)])), (mtc, .inl (cy 0, 16, .inl (fun _ => 0))), (lwa, .inr (5, [.int 0, .ref dc, .int 0])), (md, .inr (21, [.int 0, .ref mt, .ref lkp, .ref lcd, .ref mli, .ref mru, .ref lfn, .ref mhe, .ref mma, .ref lin, .ref lsc, .ref lva, .ref lpl, .ref (sa 51), .ref lbr, .ref lwa, .int 45, .int (-1)])), (q62, .inl (cy 0, 5, .inl (fun _ => 0)))] H := hP
  have hD : va_D A [(mt, .inr (20, [.ref mtc, .ref mtt, .int (-1), .int 0, .int (-1)])), (mtc, .inl (cy 0, 16, .inl (fun _ => 0))), (lwa, .inr (5, [.int 0, .ref dc, .int 0])), (md, .inr (21, [.int 0, .ref mt, .ref lkp, .ref lcd, .ref mli, .ref mru, .ref lfn, .ref mhe, .ref mma, .ref lin, .ref lsc, .ref lva, .ref lpl, .ref (sa 51), .ref lbr, .ref lwa, .int 45, .int (-1)])), (q62, .inl (cy 0, 5, .inl (fun _ => 0)))] := hD
  refine W.widen (k := 1) (n := 5) (Nat.le_of_ble_eq_true rfl) (Nat.le_of_ble_eq_true rfl) ?_
  refine lv_dup hx hb dX15_watch_64 rfl ?_
  refine lv_iconst (v := 0) hx hb dX15_watch_65 (by decide) ?_
  refine lv_bipush (v := 103) hx hb dX15_watch_66 (by decide) ?_
  refine va_iast hx hb hK hP hD hS 4 0 rfl rfl (by unfold vp_in; decide) dX15_watch_68 (fun H locs hP hD hS => ?_)
  have hP : va_P D vwCl [(mt, .inr (20, [.ref mtc, .ref mtt, .int (-1), .int 0, .int (-1)])), (mtc, .inl (cy 0, 16, .inl (fun _ => 0))), (lwa, .inr (5, [.int 0, .ref dc, .int 0])), (md, .inr (21, [.int 0, .ref mt, .ref lkp, .ref lcd, .ref mli, .ref mru, .ref lfn, .ref mhe, .ref mma, .ref lin, .ref lsc, .ref lva, .ref lpl, .ref (sa 51), .ref lbr, .ref lwa, .int 45, .int (-1)])), (q62, .inl (cy 0, 5, .inl (upd (fun _ => 0) 0 103)))] H := hP
  have hD : va_D A [(mt, .inr (20, [.ref mtc, .ref mtt, .int (-1), .int 0, .int (-1)])), (mtc, .inl (cy 0, 16, .inl (fun _ => 0))), (lwa, .inr (5, [.int 0, .ref dc, .int 0])), (md, .inr (21, [.int 0, .ref mt, .ref lkp, .ref lcd, .ref mli, .ref mru, .ref lfn, .ref mhe, .ref mma, .ref lin, .ref lsc, .ref lva, .ref lpl, .ref (sa 51), .ref lbr, .ref lwa, .int 45, .int (-1)])), (q62, .inl (cy 0, 5, .inl (upd (fun _ => 0) 0 103)))] := hD
  generalize upd (fun _ => 0) 0 103 = g_1 at hP hD
  have hP : va_P D vwCl [(mt, .inr (20, [.ref mtc, .ref mtt, .int (-1), .int 0, .int (-1)])), (mtc, .inl (cy 0, 16, .inl (fun _ => 0))), (lwa, .inr (5, [.int 0, .ref dc, .int 0])), (md, .inr (21, [.int 0, .ref mt, .ref lkp, .ref lcd, .ref mli, .ref mru, .ref lfn, .ref mhe, .ref mma, .ref lin, .ref lsc, .ref lva, .ref lpl, .ref (sa 51), .ref lbr, .ref lwa, .int 45, .int (-1)])), (q62, .inl (cy 0, 5, .inl g_1))] H := hP
  have hD : va_D A [(mt, .inr (20, [.ref mtc, .ref mtt, .int (-1), .int 0, .int (-1)])), (mtc, .inl (cy 0, 16, .inl (fun _ => 0))), (lwa, .inr (5, [.int 0, .ref dc, .int 0])), (md, .inr (21, [.int 0, .ref mt, .ref lkp, .ref lcd, .ref mli, .ref mru, .ref lfn, .ref mhe, .ref mma, .ref lin, .ref lsc, .ref lva, .ref lpl, .ref (sa 51), .ref lbr, .ref lwa, .int 45, .int (-1)])), (q62, .inl (cy 0, 5, .inl g_1))] := hD
  refine lv_dup hx hb dX15_watch_69 rfl ?_
  refine lv_iconst (v := 1) hx hb dX15_watch_70 (by decide) ?_
  refine lv_iconst (v := (-1)) hx hb dX15_watch_71 (by decide) ?_
  refine va_iast hx hb hK hP hD hS 4 0 rfl rfl (by unfold vp_in; decide) dX15_watch_72 (fun H locs hP hD hS => ?_)
  have hP : va_P D vwCl [(mt, .inr (20, [.ref mtc, .ref mtt, .int (-1), .int 0, .int (-1)])), (mtc, .inl (cy 0, 16, .inl (fun _ => 0))), (lwa, .inr (5, [.int 0, .ref dc, .int 0])), (md, .inr (21, [.int 0, .ref mt, .ref lkp, .ref lcd, .ref mli, .ref mru, .ref lfn, .ref mhe, .ref mma, .ref lin, .ref lsc, .ref lva, .ref lpl, .ref (sa 51), .ref lbr, .ref lwa, .int 45, .int (-1)])), (q62, .inl (cy 0, 5, .inl (upd g_1 1 (-1))))] H := hP
  have hD : va_D A [(mt, .inr (20, [.ref mtc, .ref mtt, .int (-1), .int 0, .int (-1)])), (mtc, .inl (cy 0, 16, .inl (fun _ => 0))), (lwa, .inr (5, [.int 0, .ref dc, .int 0])), (md, .inr (21, [.int 0, .ref mt, .ref lkp, .ref lcd, .ref mli, .ref mru, .ref lfn, .ref mhe, .ref mma, .ref lin, .ref lsc, .ref lva, .ref lpl, .ref (sa 51), .ref lbr, .ref lwa, .int 45, .int (-1)])), (q62, .inl (cy 0, 5, .inl (upd g_1 1 (-1))))] := hD
  generalize upd g_1 1 (-1) = g_2 at hP hD
  have hP : va_P D vwCl [(mt, .inr (20, [.ref mtc, .ref mtt, .int (-1), .int 0, .int (-1)])), (mtc, .inl (cy 0, 16, .inl (fun _ => 0))), (lwa, .inr (5, [.int 0, .ref dc, .int 0])), (md, .inr (21, [.int 0, .ref mt, .ref lkp, .ref lcd, .ref mli, .ref mru, .ref lfn, .ref mhe, .ref mma, .ref lin, .ref lsc, .ref lva, .ref lpl, .ref (sa 51), .ref lbr, .ref lwa, .int 45, .int (-1)])), (q62, .inl (cy 0, 5, .inl g_2))] H := hP
  have hD : va_D A [(mt, .inr (20, [.ref mtc, .ref mtt, .int (-1), .int 0, .int (-1)])), (mtc, .inl (cy 0, 16, .inl (fun _ => 0))), (lwa, .inr (5, [.int 0, .ref dc, .int 0])), (md, .inr (21, [.int 0, .ref mt, .ref lkp, .ref lcd, .ref mli, .ref mru, .ref lfn, .ref mhe, .ref mma, .ref lin, .ref lsc, .ref lva, .ref lpl, .ref (sa 51), .ref lbr, .ref lwa, .int 45, .int (-1)])), (q62, .inl (cy 0, 5, .inl g_2))] := hD
  refine lv_dup hx hb dX15_watch_73 rfl ?_
  refine lv_iconst (v := 2) hx hb dX15_watch_74 (by decide) ?_
  refine lv_iload_n hx hb dX15_watch_75 rfl (lv_at hl 1 rfl) ?_
  refine va_iast hx hb hK hP hD hS 4 0 rfl rfl (by unfold vp_in; decide) dX15_watch_76 (fun H locs hP hD hS => ?_)
  have hP : va_P D vwCl [(mt, .inr (20, [.ref mtc, .ref mtt, .int (-1), .int 0, .int (-1)])), (mtc, .inl (cy 0, 16, .inl (fun _ => 0))), (lwa, .inr (5, [.int 0, .ref dc, .int 0])), (md, .inr (21, [.int 0, .ref mt, .ref lkp, .ref lcd, .ref mli, .ref mru, .ref lfn, .ref mhe, .ref mma, .ref lin, .ref lsc, .ref lva, .ref lpl, .ref (sa 51), .ref lbr, .ref lwa, .int 45, .int (-1)])), (q62, .inl (cy 0, 5, .inl (upd g_2 2 p0)))] H := hP
  have hD : va_D A [(mt, .inr (20, [.ref mtc, .ref mtt, .int (-1), .int 0, .int (-1)])), (mtc, .inl (cy 0, 16, .inl (fun _ => 0))), (lwa, .inr (5, [.int 0, .ref dc, .int 0])), (md, .inr (21, [.int 0, .ref mt, .ref lkp, .ref lcd, .ref mli, .ref mru, .ref lfn, .ref mhe, .ref mma, .ref lin, .ref lsc, .ref lva, .ref lpl, .ref (sa 51), .ref lbr, .ref lwa, .int 45, .int (-1)])), (q62, .inl (cy 0, 5, .inl (upd g_2 2 p0)))] := hD
  generalize upd g_2 2 p0 = g_3 at hP hD
  have hP : va_P D vwCl [(mt, .inr (20, [.ref mtc, .ref mtt, .int (-1), .int 0, .int (-1)])), (mtc, .inl (cy 0, 16, .inl (fun _ => 0))), (lwa, .inr (5, [.int 0, .ref dc, .int 0])), (md, .inr (21, [.int 0, .ref mt, .ref lkp, .ref lcd, .ref mli, .ref mru, .ref lfn, .ref mhe, .ref mma, .ref lin, .ref lsc, .ref lva, .ref lpl, .ref (sa 51), .ref lbr, .ref lwa, .int 45, .int (-1)])), (q62, .inl (cy 0, 5, .inl g_3))] H := hP
  have hD : va_D A [(mt, .inr (20, [.ref mtc, .ref mtt, .int (-1), .int 0, .int (-1)])), (mtc, .inl (cy 0, 16, .inl (fun _ => 0))), (lwa, .inr (5, [.int 0, .ref dc, .int 0])), (md, .inr (21, [.int 0, .ref mt, .ref lkp, .ref lcd, .ref mli, .ref mru, .ref lfn, .ref mhe, .ref mma, .ref lin, .ref lsc, .ref lva, .ref lpl, .ref (sa 51), .ref lbr, .ref lwa, .int 45, .int (-1)])), (q62, .inl (cy 0, 5, .inl g_3))] := hD
  refine lv_dup hx hb dX15_watch_77 rfl ?_
  refine lv_iconst (v := 3) hx hb dX15_watch_78 (by decide) ?_
  refine lv_aload_n hx hb dX15_watch_79 rfl (lv_at hl 0 rfl) ?_
  refine va_get (D := D) (ci := 21) (v := .ref mt) (C := RX15) (T := TX15) (N := 18) hx hb hts inX15 hown hK hP 3 rfl rfl 1 (by decide) (hts _ K2087) (fun _ h9 => h9) rfl dX15_watch_80 ?_
  refine va_getN (D := D) (ci := 20) (v := .ref mtc) (C := RX14) (T := TX14) (N := 5) hx hb hts inX14 hown hK hP 0 rfl rfl 0 (by decide) (va_Nw.use rfl (hEn.1 _ K2061)) (fun _ h9 => h9) rfl dX15_watch_83 ?_
  refine lv_iload_n hx hb dX15_watch_86 rfl (lv_at hl 1 rfl) ?_
  refine va_iald hx hb hK hP 1 0 rfl rfl (bl_in16 h) dX15_watch_87 ?_
  refine W.eq (g2 := F0 m 88 ls [.int 0, .int 3, .ref q62, .ref q62, .ref lwa]) rfl ?_
  refine va_iast hx hb hK hP hD hS 4 0 rfl rfl (by unfold vp_in; decide) dX15_watch_88 (fun H locs hP hD hS => ?_)
  have hP : va_P D vwCl [(mt, .inr (20, [.ref mtc, .ref mtt, .int (-1), .int 0, .int (-1)])), (mtc, .inl (cy 0, 16, .inl (fun _ => 0))), (lwa, .inr (5, [.int 0, .ref dc, .int 0])), (md, .inr (21, [.int 0, .ref mt, .ref lkp, .ref lcd, .ref mli, .ref mru, .ref lfn, .ref mhe, .ref mma, .ref lin, .ref lsc, .ref lva, .ref lpl, .ref (sa 51), .ref lbr, .ref lwa, .int 45, .int (-1)])), (q62, .inl (cy 0, 5, .inl (upd g_3 3 0)))] H := hP
  have hD : va_D A [(mt, .inr (20, [.ref mtc, .ref mtt, .int (-1), .int 0, .int (-1)])), (mtc, .inl (cy 0, 16, .inl (fun _ => 0))), (lwa, .inr (5, [.int 0, .ref dc, .int 0])), (md, .inr (21, [.int 0, .ref mt, .ref lkp, .ref lcd, .ref mli, .ref mru, .ref lfn, .ref mhe, .ref mma, .ref lin, .ref lsc, .ref lva, .ref lpl, .ref (sa 51), .ref lbr, .ref lwa, .int 45, .int (-1)])), (q62, .inl (cy 0, 5, .inl (upd g_3 3 0)))] := hD
  generalize upd g_3 3 0 = g_4 at hP hD
  have hP : va_P D vwCl [(mt, .inr (20, [.ref mtc, .ref mtt, .int (-1), .int 0, .int (-1)])), (mtc, .inl (cy 0, 16, .inl (fun _ => 0))), (lwa, .inr (5, [.int 0, .ref dc, .int 0])), (md, .inr (21, [.int 0, .ref mt, .ref lkp, .ref lcd, .ref mli, .ref mru, .ref lfn, .ref mhe, .ref mma, .ref lin, .ref lsc, .ref lva, .ref lpl, .ref (sa 51), .ref lbr, .ref lwa, .int 45, .int (-1)])), (q62, .inl (cy 0, 5, .inl g_4))] H := hP
  have hD : va_D A [(mt, .inr (20, [.ref mtc, .ref mtt, .int (-1), .int 0, .int (-1)])), (mtc, .inl (cy 0, 16, .inl (fun _ => 0))), (lwa, .inr (5, [.int 0, .ref dc, .int 0])), (md, .inr (21, [.int 0, .ref mt, .ref lkp, .ref lcd, .ref mli, .ref mru, .ref lfn, .ref mhe, .ref mma, .ref lin, .ref lsc, .ref lva, .ref lpl, .ref (sa 51), .ref lbr, .ref lwa, .int 45, .int (-1)])), (q62, .inl (cy 0, 5, .inl g_4))] := hD
  refine lv_dup hx hb dX15_watch_89 rfl ?_
  refine lv_iconst (v := 4) hx hb dX15_watch_90 (by decide) ?_
  refine lv_iconst (v := 0) hx hb dX15_watch_91 (by decide) ?_
  refine va_iast hx hb hK hP hD hS 4 0 rfl rfl (by unfold vp_in; decide) dX15_watch_92 (fun H locs hP hD hS => ?_)
  have hP : va_P D vwCl [(mt, .inr (20, [.ref mtc, .ref mtt, .int (-1), .int 0, .int (-1)])), (mtc, .inl (cy 0, 16, .inl (fun _ => 0))), (lwa, .inr (5, [.int 0, .ref dc, .int 0])), (md, .inr (21, [.int 0, .ref mt, .ref lkp, .ref lcd, .ref mli, .ref mru, .ref lfn, .ref mhe, .ref mma, .ref lin, .ref lsc, .ref lva, .ref lpl, .ref (sa 51), .ref lbr, .ref lwa, .int 45, .int (-1)])), (q62, .inl (cy 0, 5, .inl (upd g_4 4 0)))] H := hP
  have hD : va_D A [(mt, .inr (20, [.ref mtc, .ref mtt, .int (-1), .int 0, .int (-1)])), (mtc, .inl (cy 0, 16, .inl (fun _ => 0))), (lwa, .inr (5, [.int 0, .ref dc, .int 0])), (md, .inr (21, [.int 0, .ref mt, .ref lkp, .ref lcd, .ref mli, .ref mru, .ref lfn, .ref mhe, .ref mma, .ref lin, .ref lsc, .ref lva, .ref lpl, .ref (sa 51), .ref lbr, .ref lwa, .int 45, .int (-1)])), (q62, .inl (cy 0, 5, .inl (upd g_4 4 0)))] := hD
  generalize upd g_4 4 0 = g_5 at hP hD
  have hP : va_P D vwCl [(mt, .inr (20, [.ref mtc, .ref mtt, .int (-1), .int 0, .int (-1)])), (mtc, .inl (cy 0, 16, .inl (fun _ => 0))), (lwa, .inr (5, [.int 0, .ref dc, .int 0])), (md, .inr (21, [.int 0, .ref mt, .ref lkp, .ref lcd, .ref mli, .ref mru, .ref lfn, .ref mhe, .ref mma, .ref lin, .ref lsc, .ref lva, .ref lpl, .ref (sa 51), .ref lbr, .ref lwa, .int 45, .int (-1)])), (q62, .inl (cy 0, 5, .inl g_5))] H := hP
  have hD : va_D A [(mt, .inr (20, [.ref mtc, .ref mtt, .int (-1), .int 0, .int (-1)])), (mtc, .inl (cy 0, 16, .inl (fun _ => 0))), (lwa, .inr (5, [.int 0, .ref dc, .int 0])), (md, .inr (21, [.int 0, .ref mt, .ref lkp, .ref lcd, .ref mli, .ref mru, .ref lfn, .ref mhe, .ref mma, .ref lin, .ref lsc, .ref lva, .ref lpl, .ref (sa 51), .ref lbr, .ref lwa, .int 45, .int (-1)])), (q62, .inl (cy 0, 5, .inl g_5))] := hD
  have hPc := hP.sub (ws' := [(lwa, .inr (5, [.int 0, .ref dc, .int 0])), (q62, .inl (cy 0, 5, .inl g_5))]) [2, 4] rfl
  have hDc := hD.sub (ws' := [(lwa, .inr (5, [.int 0, .ref dc, .int 0])), (q62, .inl (cy 0, 5, .inl g_5))]) [2, 4] (by decide) rfl
  have hFc := va_free (wc := [(lwa, .inr (5, [.int 0, .ref dc, .int 0])), (q62, .inl (cy 0, 5, .inl g_5))]) hD hS hA [2, 4] rfl
  refine z_callFiJ (wr := [(mt, .inr (20, [.ref mtc, .ref mtt, .int (-1), .int 0, .int (-1)])), (mtc, .inl (cy 0, 16, .inl (fun _ => 0))), (md, .inr (21, [.int 0, .ref mt, .ref lkp, .ref lcd, .ref mli, .ref mru, .ref lfn, .ref mhe, .ref mma, .ref lin, .ref lsc, .ref lva, .ref lpl, .ref (sa 51), .ref lbr, .ref lwa, .int 45, .int (-1)]))]) (va_runF (As := [.ref q62]) (rest := []) (hK.1 5 _ rfl).2 ⟨hx, hb, hml, hown, hts⟩ (k_add l D cy sa sv dc lwa q62 _ 5 (g_5)) (va_cwF 1 hts GF_RX15_131 rfl rfl rfl (hEm.2.2.1 1 _ rfl) HD___java_util_List____add_____Ljava_lang_Object__Z__ ⟨Nat.le_of_ble_eq_true rfl, Nat.le_of_ble_eq_true rfl⟩) ⟨z_blind EM_ok, va_recv hK hPc (ci := 5) (q0 := 0) rfl rfl, z_pre EM_ok hPc hK hDc hEm hS hFc⟩ rfl rfl hl.1 rfl (lv_room (Nat.le_of_ble_eq_true rfl)) dX15_watch_93 ⟨Nat.le_of_ble_eq_true rfl, Nat.le_of_ble_eq_true rfl⟩) hP hD hS hA [2, 4] [0, 1, 3] rfl rfl (by decide) (by decide) (fun r_93 u93 H locs hw_93 hP hD hS => ?_)
  have hP : va_P D vwCl [(mt, .inr (20, [.ref mtc, .ref mtt, .int (-1), .int 0, .int (-1)])), (mtc, .inl (cy 0, 16, .inl (fun _ => 0))), (md, .inr (21, [.int 0, .ref mt, .ref lkp, .ref lcd, .ref mli, .ref mru, .ref lfn, .ref mhe, .ref mma, .ref lin, .ref lsc, .ref lva, .ref lpl, .ref (sa 51), .ref lbr, .ref lwa, .int 45, .int (-1)])), (lwa, .inr (5, [.int 1, .ref (u93 0), .int 1]))] H := hP
  have hD : va_D A [(mt, .inr (20, [.ref mtc, .ref mtt, .int (-1), .int 0, .int (-1)])), (mtc, .inl (cy 0, 16, .inl (fun _ => 0))), (md, .inr (21, [.int 0, .ref mt, .ref lkp, .ref lcd, .ref mli, .ref mru, .ref lfn, .ref mhe, .ref mma, .ref lin, .ref lsc, .ref lva, .ref lpl, .ref (sa 51), .ref lbr, .ref lwa, .int 45, .int (-1)])), (lwa, .inr (5, [.int 1, .ref (u93 0), .int 1]))] := hD
  refine W.widen (k := 2) (n := 15) (Nat.le_of_ble_eq_true rfl) (Nat.le_of_ble_eq_true rfl) ?_
  obtain rfl := hw_93
  refine lv_pop hx hb dX15_watch_98 rfl ?_
  refine lv_aload_n hx hb dX15_watch_99 rfl (lv_at hl 0 rfl) ?_
  refine va_get (D := D) (ci := 21) (v := .ref lwa) (C := RX15) (T := TX15) (N := 18) hx hb hts inX15 hown hK hP 2 rfl rfl 15 (by decide) (hts _ K2101) (fun _ h9 => h9) rfl dX15_watch_100 ?_
  have hPc := hP.sub (ws' := [(lwa, .inr (5, [.int 1, .ref (u93 0), .int 1]))]) [3] rfl
  have hDc := hD.sub (ws' := [(lwa, .inr (5, [.int 1, .ref (u93 0), .int 1]))]) [3] (by decide) rfl
  have hFc := va_free (wc := [(lwa, .inr (5, [.int 1, .ref (u93 0), .int 1]))]) hD hS hA [3] rfl
  refine z_callFiJ (wr := [(mt, .inr (20, [.ref mtc, .ref mtt, .int (-1), .int 0, .int (-1)])), (mtc, .inl (cy 0, 16, .inl (fun _ => 0))), (md, .inr (21, [.int 0, .ref mt, .ref lkp, .ref lcd, .ref mli, .ref mru, .ref lfn, .ref mhe, .ref mma, .ref lin, .ref lsc, .ref lva, .ref lpl, .ref (sa 51), .ref lbr, .ref lwa, .int 45, .int (-1)]))]) (va_runF (As := []) (rest := []) (hK.1 5 _ rfl).2 ⟨hx, hb, hml, hown, hts⟩ (k_size l D cy sa sv dc lwa _ (u93 0) 1 1) (va_cwF 0 hts GF_RX15_7 rfl rfl rfl (hEm.2.2.1 0 _ rfl) HD___java_util_List____size______I__ ⟨Nat.le_of_ble_eq_true rfl, Nat.le_of_ble_eq_true rfl⟩) ⟨z_blind EM_ok, va_recv hK hPc (ci := 5) (q0 := 0) rfl rfl, z_pre EM_ok hPc hK hDc hEm hS hFc⟩ rfl rfl hl.1 rfl (lv_room (Nat.le_of_ble_eq_true rfl)) dX15_watch_103 ⟨Nat.le_of_ble_eq_true rfl, Nat.le_of_ble_eq_true rfl⟩) hP hD hS hA [3] [0, 1, 2] rfl rfl (by decide) (by decide) (fun r_103 u103 H locs hw_103 hP hD hS => ?_)
  have hP : va_P D vwCl [(mt, .inr (20, [.ref mtc, .ref mtt, .int (-1), .int 0, .int (-1)])), (mtc, .inl (cy 0, 16, .inl (fun _ => 0))), (md, .inr (21, [.int 0, .ref mt, .ref lkp, .ref lcd, .ref mli, .ref mru, .ref lfn, .ref mhe, .ref mma, .ref lin, .ref lsc, .ref lva, .ref lpl, .ref (sa 51), .ref lbr, .ref lwa, .int 45, .int (-1)])), (lwa, .inr (5, [.int 1, .ref (u93 0), .int 1]))] H := hP
  have hD : va_D A [(mt, .inr (20, [.ref mtc, .ref mtt, .int (-1), .int 0, .int (-1)])), (mtc, .inl (cy 0, 16, .inl (fun _ => 0))), (md, .inr (21, [.int 0, .ref mt, .ref lkp, .ref lcd, .ref mli, .ref mru, .ref lfn, .ref mhe, .ref mma, .ref lin, .ref lsc, .ref lva, .ref lpl, .ref (sa 51), .ref lbr, .ref lwa, .int 45, .int (-1)])), (lwa, .inr (5, [.int 1, .ref (u93 0), .int 1]))] := hD
  obtain rfl := hw_103
  refine lv_iconst (v := 1) hx hb dX15_watch_108 (by decide) ?_
  refine lv_isub hx hb dX15_watch_109 ?_
  refine lv_topi (fun v_6 hv_6 => ?_)
  obtain rfl : v_6 = 0 := hv_6.trans (by decide)
  have hP := hP.sub (ws' := [(md, .inr (21, [.int 0, .ref mt, .ref lkp, .ref lcd, .ref mli, .ref mru, .ref lfn, .ref mhe, .ref mma, .ref lin, .ref lsc, .ref lva, .ref lpl, .ref (sa 51), .ref lbr, .ref lwa, .int 45, .int (-1)]))]) [2] rfl
  have hD := hD.sub (ws' := [(md, .inr (21, [.int 0, .ref mt, .ref lkp, .ref lcd, .ref mli, .ref mru, .ref lfn, .ref mhe, .ref mma, .ref lin, .ref lsc, .ref lva, .ref lpl, .ref (sa 51), .ref lbr, .ref lwa, .int 45, .int (-1)]))]) [2] (by decide) rfl
  exact z_reti () hx hb hr rfl hlocks hK (rfl) hP hD hS (Nat.le_of_ble_eq_true rfl) (Nat.le_of_ble_eq_true rfl) dX15_watch_110
set_option maxHeartbeats 4000000 in
set_option maxRecDepth 100000 in
theorem k_watch0 (l : Launch) (D : va_G) (cy : Nat → ClassId) (sa : Nat → Nat) (sv : Nat → Nat) (dc : Nat) (md : Nat) (sz : Nat) (mt lkp lcd mli mru lfn mhe mma lin lsc lva lpl lbr lwa : Nat) (p0 : Int32) (h : bl p0 16 = 0) : Met l yX15_watch (Cond.code yX15_watch cX15_watch 2 (some .int) :: ALL) ({ frames := 1, cells := 0, slots := 0, locals := 25 }) (zPc D vwCl (TY cy) (EM sa sv dc) [.ref md, .int p0] [(md, .inr (21, [.int 0, .ref mt, .ref lkp, .ref lcd, .ref mli, .ref mru, .ref lfn, .ref mhe, .ref mma, .ref lin, .ref lsc, .ref lva, .ref lpl, .ref (sa 51), .ref lbr, .ref lwa, .int 45, .int (-1)]))] sz) (va_Qi (fun r _ => r = (-1)) (zB D vwCl (TY cy) (S := Unit) (fun u => [(md, .inr (21, [.int 1, .ref mt, .ref lkp, .ref lcd, .ref mli, .ref mru, .ref lfn, .ref mhe, .ref mma, .ref lin, .ref lsc, .ref lva, .ref lpl, .ref (sa 51), .ref lbr, .ref lwa, .int 45, .int (-1)]))]) (va_A [(md, .inr (21, [.int 0, .ref mt, .ref lkp, .ref lcd, .ref mli, .ref mru, .ref lfn, .ref mhe, .ref mma, .ref lin, .ref lsc, .ref lva, .ref lpl, .ref (sa 51), .ref lbr, .ref lwa, .int 45, .int (-1)]))] sz)) (va_A [(md, .inr (21, [.int 0, .ref mt, .ref lkp, .ref lcd, .ref mli, .ref mru, .ref lfn, .ref mhe, .ref mma, .ref lin, .ref lsc, .ref lva, .ref lpl, .ref (sa 51), .ref lbr, .ref lwa, .int 45, .int (-1)]))] sz)) 0 0 (va_A [(md, .inr (21, [.int 0, .ref mt, .ref lkp, .ref lcd, .ref mli, .ref mru, .ref lfn, .ref mhe, .ref mma, .ref lin, .ref lsc, .ref lva, .ref lpl, .ref (sa 51), .ref lbr, .ref lwa, .int 45, .int (-1)]))] sz) := by
  refine z_start (Qc := fun A => va_Qi (fun r _ => r = (-1)) (zB D vwCl (TY cy) (S := Unit) (fun u => [(md, .inr (21, [.int 1, .ref mt, .ref lkp, .ref lcd, .ref mli, .ref mru, .ref lfn, .ref mhe, .ref mma, .ref lin, .ref lsc, .ref lva, .ref lpl, .ref (sa 51), .ref lbr, .ref lwa, .int 45, .int (-1)]))]) A) A) PN_RX15 (Nat.le_of_ble_eq_true rfl) ?_
  intro p e s m below meth c A ls hx hb hr hml hts hown hlocks hin hA hP hK hD hS hEn hl
  have hown : s.vm.findClass RX15 = some m.cls := hown
  have hEm := hEn
  have hEn := hEn.1
  have hl : lv_has ls 2 [(0, .ref md), (1, .int p0)] := hl
  have hS0 := hS
  refine lv_aload_n hx hb dX15_watch_0 rfl (lv_at hl 0 rfl) ?_
  refine z_callv (va_runV (As := []) (rest := []) ⟨hx, hb, hml, hown, hts⟩ (k_begins l D cy sa sv dc md _ mt lkp lcd mli mru lfn mhe mma lin lsc lva lpl lbr lwa) (cwV 0 hts GV_RX15_124 rfl rfl rfl ⟨rfl, HD_yX15_begins⟩ ⟨Nat.le_of_ble_eq_true rfl, Nat.le_of_ble_eq_true rfl⟩) ⟨z_blind EM_ok, va_recv hK hP (ci := 21) (q0 := 0) rfl rfl, z_pre EM_ok hP hK hD hEm hS (z_free hD hS hA)⟩ rfl rfl hl.1 rfl (lv_room (Nat.le_of_ble_eq_true rfl)) dX15_watch_1 ⟨Nat.le_of_ble_eq_true rfl, Nat.le_of_ble_eq_true rfl⟩) hD hS hA (fun u1 H locs hw_1 hP hD hS => ?_)
  have hP : va_P D vwCl [(md, .inr (21, [.int 0, .ref mt, .ref lkp, .ref lcd, .ref mli, .ref mru, .ref lfn, .ref mhe, .ref mma, .ref lin, .ref lsc, .ref lva, .ref lpl, .ref (sa 51), .ref lbr, .ref lwa, .int 45, .int (-1)]))] H := hP
  have hD : va_D A [(md, .inr (21, [.int 0, .ref mt, .ref lkp, .ref lcd, .ref mli, .ref mru, .ref lfn, .ref mhe, .ref mma, .ref lin, .ref lsc, .ref lva, .ref lpl, .ref (sa 51), .ref lbr, .ref lwa, .int 45, .int (-1)]))] := hD
  refine lv_aload_n hx hb dX15_watch_4 rfl (lv_at hl 0 rfl) ?_
  refine lv_iload_n hx hb dX15_watch_5 rfl (lv_at hl 1 rfl) ?_
  refine lv_i2l hx hb dX15_watch_6 rfl ?_
  refine lv_lconst (v := 0) hx hb dX15_watch_7 (by decide) ?_
  refine lv_ldc2 hx hb hown (hts _ K2209) dX15_watch_8 ?_
  have hPc := hP.sub (ws' := []) [] rfl
  have hDc := hD.sub (ws' := []) [] (by decide) rfl
  have hFc := va_free (wc := []) hD hS hA [] rfl
  refine z_calliJ (wr := [(md, .inr (21, [.int 0, .ref mt, .ref lkp, .ref lcd, .ref mli, .ref mru, .ref lfn, .ref mhe, .ref mma, .ref lin, .ref lsc, .ref lva, .ref lpl, .ref (sa 51), .ref lbr, .ref lwa, .int 45, .int (-1)]))]) (va_runS (As := [.long p0.toInt64, .long 0, .long 15]) (rest := [.ref md]) ⟨hx, hb, hml, hown, hts⟩ (k_in l D cy sa sv dc _ (p0.toInt64) 0 15) (va_cwS 3 hts GS_RX15_13 rfl rfl rfl HD_yX15_in ⟨Nat.le_of_ble_eq_true rfl, Nat.le_of_ble_eq_true rfl⟩) ⟨z_blind EM_ok, z_pre EM_ok hPc hK hDc hEm hS hFc⟩ rfl rfl hl.1 rfl (lv_room (Nat.le_of_ble_eq_true rfl)) dX15_watch_11 ⟨Nat.le_of_ble_eq_true rfl, Nat.le_of_ble_eq_true rfl⟩) hP hD hS hA [] [0] rfl rfl (by decide) (by decide) (fun r_11 u11 H locs hw_11 hP hD hS => ?_)
  have hP : va_P D vwCl [(md, .inr (21, [.int 0, .ref mt, .ref lkp, .ref lcd, .ref mli, .ref mru, .ref lfn, .ref mhe, .ref mma, .ref lin, .ref lsc, .ref lva, .ref lpl, .ref (sa 51), .ref lbr, .ref lwa, .int 45, .int (-1)]))] H := hP
  have hD : va_D A [(md, .inr (21, [.int 0, .ref mt, .ref lkp, .ref lcd, .ref mli, .ref mru, .ref lfn, .ref mhe, .ref mma, .ref lin, .ref lsc, .ref lva, .ref lpl, .ref (sa 51), .ref lbr, .ref lwa, .int 45, .int (-1)]))] := hD
  obtain rfl := hw_11
  refine lv_if_ne (tgt := 21) hx hb dX15_watch_14 (by decide) (fun c_14 => absurd ((inL_16 p0).trans h) c_14) (fun _ => ?_)
  refine lv_iconst (v := 1) hx hb dX15_watch_17 (by decide) ?_
  refine lv_goto (tgt := 22) hx hb dX15_watch_18 (by decide) ?_
  refine lv_iconst (v := 1) hx hb dX15_watch_22 (by decide) ?_
  refine z_calli (va_runV (As := [.int 1, .int 1]) (rest := []) ⟨hx, hb, hml, hown, hts⟩ (k_fails1 l D cy sa sv dc md _ mt lkp lcd mli mru lfn mhe mma lin lsc lva lpl lbr lwa) (cwV 2 hts GV_RX15_98 rfl rfl rfl ⟨rfl, HD_yX15_fails⟩ ⟨Nat.le_of_ble_eq_true rfl, Nat.le_of_ble_eq_true rfl⟩) ⟨z_blind EM_ok, va_recv hK hP (ci := 21) (q0 := 0) rfl rfl, z_pre EM_ok hP hK hD hEm hS (z_free hD hS hA)⟩ rfl rfl hl.1 rfl (lv_room (Nat.le_of_ble_eq_true rfl)) dX15_watch_23 ⟨Nat.le_of_ble_eq_true rfl, Nat.le_of_ble_eq_true rfl⟩) hD hS hA (fun r_23 u23 H locs hw_23 hP hD hS => ?_)
  have hP : va_P D vwCl [(md, .inr (21, [.int 1, .ref mt, .ref lkp, .ref lcd, .ref mli, .ref mru, .ref lfn, .ref mhe, .ref mma, .ref lin, .ref lsc, .ref lva, .ref lpl, .ref (sa 51), .ref lbr, .ref lwa, .int 45, .int (-1)]))] H := hP
  have hD : va_D A [(md, .inr (21, [.int 1, .ref mt, .ref lkp, .ref lcd, .ref mli, .ref mru, .ref lfn, .ref mhe, .ref mma, .ref lin, .ref lsc, .ref lva, .ref lpl, .ref (sa 51), .ref lbr, .ref lwa, .int 45, .int (-1)]))] := hD
  obtain rfl := hw_23
  refine lv_if_ne (tgt := 55) hx hb dX15_watch_26 (by decide) (fun _ => ?_) (fun c_26 => absurd c_26 (by decide))
  refine lv_iconst (v := (-1)) hx hb dX15_watch_55 (by decide) ?_
  exact z_reti () hx hb hr rfl hlocks hK (rfl) hP hD hS (Nat.le_of_ble_eq_true rfl) (Nat.le_of_ble_eq_true rfl) dX15_watch_56
set_option maxHeartbeats 4000000 in
set_option maxRecDepth 100000 in
theorem k_run1 (l : Launch) (D : va_G) (cy : Nat → ClassId) (sa : Nat → Nat) (sv : Nat → Nat) (dc : Nat) (md mt mtt : Nat) (sz : Nat) (lkp lcd mli mru lfn mhe mma lin lsc lva lpl lbr lwa mtc : Nat) (p0 : Int32) (h : rg p0 1 500) : Met l yX15_run (Cond.code yX15_run cX15_run 4 (some .int) :: ALL) ({ frames := 2, cells := 0, slots := 0, locals := 43 }) (zPc D vwCl (TY cy) (EM sa sv dc) [.ref md, .int p0] [(md, .inr (21, [.int 0, .ref mt, .ref lkp, .ref lcd, .ref mli, .ref mru, .ref lfn, .ref mhe, .ref mma, .ref lin, .ref lsc, .ref lva, .ref lpl, .ref (sa 51), .ref lbr, .ref lwa, .int 45, .int (-1)])), (mt, .inr (20, [.ref mtc, .ref mtt, .int (-1), .int 0, .int (-1)])), (mtt, .inr (5, [.int 0, .ref dc, .int 0]))] sz) (va_Qi (fun r _ => r = 0) (zB D vwCl (TY cy) (S := Unit) (fun u => [(md, .inr (21, [.int 0, .ref mt, .ref lkp, .ref lcd, .ref mli, .ref mru, .ref lfn, .ref mhe, .ref mma, .ref lin, .ref lsc, .ref lva, .ref lpl, .ref (sa 51), .ref lbr, .ref lwa, .int 100, .int (-1)]))]) (va_A [(md, .inr (21, [.int 0, .ref mt, .ref lkp, .ref lcd, .ref mli, .ref mru, .ref lfn, .ref mhe, .ref mma, .ref lin, .ref lsc, .ref lva, .ref lpl, .ref (sa 51), .ref lbr, .ref lwa, .int 45, .int (-1)])), (mt, .inr (20, [.ref mtc, .ref mtt, .int (-1), .int 0, .int (-1)])), (mtt, .inr (5, [.int 0, .ref dc, .int 0]))] sz)) (va_A [(md, .inr (21, [.int 0, .ref mt, .ref lkp, .ref lcd, .ref mli, .ref mru, .ref lfn, .ref mhe, .ref mma, .ref lin, .ref lsc, .ref lva, .ref lpl, .ref (sa 51), .ref lbr, .ref lwa, .int 45, .int (-1)])), (mt, .inr (20, [.ref mtc, .ref mtt, .int (-1), .int 0, .int (-1)])), (mtt, .inr (5, [.int 0, .ref dc, .int 0]))] sz)) 0 0 (va_A [(md, .inr (21, [.int 0, .ref mt, .ref lkp, .ref lcd, .ref mli, .ref mru, .ref lfn, .ref mhe, .ref mma, .ref lin, .ref lsc, .ref lva, .ref lpl, .ref (sa 51), .ref lbr, .ref lwa, .int 45, .int (-1)])), (mt, .inr (20, [.ref mtc, .ref mtt, .int (-1), .int 0, .int (-1)])), (mtt, .inr (5, [.int 0, .ref dc, .int 0]))] sz) := by
  refine z_start (Qc := fun A => va_Qi (fun r _ => r = 0) (zB D vwCl (TY cy) (S := Unit) (fun u => [(md, .inr (21, [.int 0, .ref mt, .ref lkp, .ref lcd, .ref mli, .ref mru, .ref lfn, .ref mhe, .ref mma, .ref lin, .ref lsc, .ref lva, .ref lpl, .ref (sa 51), .ref lbr, .ref lwa, .int 100, .int (-1)]))]) A) A) PN_RX15 (Nat.le_of_ble_eq_true rfl) ?_
  intro p e s m below meth c A ls hx hb hr hml hts hown hlocks hin hA hP hK hD hS hEn hl
  have hown : s.vm.findClass RX15 = some m.cls := hown
  have hEm := hEn
  have hEn := hEn.1
  have hl : lv_has ls 4 [(0, .ref md), (1, .int p0)] := hl
  have hS0 := hS
  refine lv_aload_n hx hb dX15_run_0 rfl (lv_at hl 0 rfl) ?_
  have hPc := hP.sub (ws' := [(md, .inr (21, [.int 0, .ref mt, .ref lkp, .ref lcd, .ref mli, .ref mru, .ref lfn, .ref mhe, .ref mma, .ref lin, .ref lsc, .ref lva, .ref lpl, .ref (sa 51), .ref lbr, .ref lwa, .int 45, .int (-1)]))]) [0] rfl
  have hDc := hD.sub (ws' := [(md, .inr (21, [.int 0, .ref mt, .ref lkp, .ref lcd, .ref mli, .ref mru, .ref lfn, .ref mhe, .ref mma, .ref lin, .ref lsc, .ref lva, .ref lpl, .ref (sa 51), .ref lbr, .ref lwa, .int 45, .int (-1)]))]) [0] (by decide) rfl
  have hFc := va_free (wc := [(md, .inr (21, [.int 0, .ref mt, .ref lkp, .ref lcd, .ref mli, .ref mru, .ref lfn, .ref mhe, .ref mma, .ref lin, .ref lsc, .ref lva, .ref lpl, .ref (sa 51), .ref lbr, .ref lwa, .int 45, .int (-1)]))]) hD hS hA [0] rfl
  refine z_callvJ (wr := [(mt, .inr (20, [.ref mtc, .ref mtt, .int (-1), .int 0, .int (-1)])), (mtt, .inr (5, [.int 0, .ref dc, .int 0]))]) (va_runV (As := []) (rest := []) ⟨hx, hb, hml, hown, hts⟩ (k_begins l D cy sa sv dc md _ mt lkp lcd mli mru lfn mhe mma lin lsc lva lpl lbr lwa) (cwV 0 hts GV_RX15_124 rfl rfl rfl ⟨rfl, HD_yX15_begins⟩ ⟨Nat.le_of_ble_eq_true rfl, Nat.le_of_ble_eq_true rfl⟩) ⟨z_blind EM_ok, va_recv hK hPc (ci := 21) (q0 := 0) rfl rfl, z_pre EM_ok hPc hK hDc hEm hS hFc⟩ rfl rfl hl.1 rfl (lv_room (Nat.le_of_ble_eq_true rfl)) dX15_run_1 ⟨Nat.le_of_ble_eq_true rfl, Nat.le_of_ble_eq_true rfl⟩) hP hD hS hA [0] [1, 2] rfl rfl (by decide) (by decide) (fun u1 H locs hw_1 hP hD hS => ?_)
  have hP : va_P D vwCl [(mt, .inr (20, [.ref mtc, .ref mtt, .int (-1), .int 0, .int (-1)])), (mtt, .inr (5, [.int 0, .ref dc, .int 0])), (md, .inr (21, [.int 0, .ref mt, .ref lkp, .ref lcd, .ref mli, .ref mru, .ref lfn, .ref mhe, .ref mma, .ref lin, .ref lsc, .ref lva, .ref lpl, .ref (sa 51), .ref lbr, .ref lwa, .int 45, .int (-1)]))] H := hP
  have hD : va_D A [(mt, .inr (20, [.ref mtc, .ref mtt, .int (-1), .int 0, .int (-1)])), (mtt, .inr (5, [.int 0, .ref dc, .int 0])), (md, .inr (21, [.int 0, .ref mt, .ref lkp, .ref lcd, .ref mli, .ref mru, .ref lfn, .ref mhe, .ref mma, .ref lin, .ref lsc, .ref lva, .ref lpl, .ref (sa 51), .ref lbr, .ref lwa, .int 45, .int (-1)]))] := hD
  refine lv_aload_n hx hb dX15_run_4 rfl (lv_at hl 0 rfl) ?_
  refine lv_iload_n hx hb dX15_run_5 rfl (lv_at hl 1 rfl) ?_
  refine lv_i2l hx hb dX15_run_6 rfl ?_
  refine lv_lconst (v := 1) hx hb dX15_run_7 (by decide) ?_
  refine lv_ldc2 hx hb hown (hts _ K2718) dX15_run_8 ?_
  have hPc := hP.sub (ws' := []) [] rfl
  have hDc := hD.sub (ws' := []) [] (by decide) rfl
  have hFc := va_free (wc := []) hD hS hA [] rfl
  refine z_calliJ (wr := [(mt, .inr (20, [.ref mtc, .ref mtt, .int (-1), .int 0, .int (-1)])), (mtt, .inr (5, [.int 0, .ref dc, .int 0])), (md, .inr (21, [.int 0, .ref mt, .ref lkp, .ref lcd, .ref mli, .ref mru, .ref lfn, .ref mhe, .ref mma, .ref lin, .ref lsc, .ref lva, .ref lpl, .ref (sa 51), .ref lbr, .ref lwa, .int 45, .int (-1)]))]) (va_runS (As := [.long p0.toInt64, .long 1, .long 500]) (rest := [.ref md]) ⟨hx, hb, hml, hown, hts⟩ (k_in l D cy sa sv dc _ (p0.toInt64) 1 500) (va_cwS 3 hts GS_RX15_13 rfl rfl rfl HD_yX15_in ⟨Nat.le_of_ble_eq_true rfl, Nat.le_of_ble_eq_true rfl⟩) ⟨z_blind EM_ok, z_pre EM_ok hPc hK hDc hEm hS hFc⟩ rfl rfl hl.1 rfl (lv_room (Nat.le_of_ble_eq_true rfl)) dX15_run_11 ⟨Nat.le_of_ble_eq_true rfl, Nat.le_of_ble_eq_true rfl⟩) hP hD hS hA [] [0, 1, 2] rfl rfl (by decide) (by decide) (fun r_11 u11 H locs hw_11 hP hD hS => ?_)
  have hP : va_P D vwCl [(mt, .inr (20, [.ref mtc, .ref mtt, .int (-1), .int 0, .int (-1)])), (mtt, .inr (5, [.int 0, .ref dc, .int 0])), (md, .inr (21, [.int 0, .ref mt, .ref lkp, .ref lcd, .ref mli, .ref mru, .ref lfn, .ref mhe, .ref mma, .ref lin, .ref lsc, .ref lva, .ref lpl, .ref (sa 51), .ref lbr, .ref lwa, .int 45, .int (-1)]))] H := hP
  have hD : va_D A [(mt, .inr (20, [.ref mtc, .ref mtt, .int (-1), .int 0, .int (-1)])), (mtt, .inr (5, [.int 0, .ref dc, .int 0])), (md, .inr (21, [.int 0, .ref mt, .ref lkp, .ref lcd, .ref mli, .ref mru, .ref lfn, .ref mhe, .ref mma, .ref lin, .ref lsc, .ref lva, .ref lpl, .ref (sa 51), .ref lbr, .ref lwa, .int 45, .int (-1)]))] := hD
  obtain rfl := hw_11
  refine lv_if_ne (tgt := 21) hx hb dX15_run_14 (by decide) (fun _ => ?_) (fun c_14 => absurd c_14 (fun z => absurd ((inL_rg (b := 500) (by decide) h).symm.trans z) (by decide)))
  refine lv_iconst (v := 0) hx hb dX15_run_21 (by decide) ?_
  refine lv_iconst (v := 1) hx hb dX15_run_22 (by decide) ?_
  have hPc := hP.sub (ws' := [(md, .inr (21, [.int 0, .ref mt, .ref lkp, .ref lcd, .ref mli, .ref mru, .ref lfn, .ref mhe, .ref mma, .ref lin, .ref lsc, .ref lva, .ref lpl, .ref (sa 51), .ref lbr, .ref lwa, .int 45, .int (-1)]))]) [2] rfl
  have hDc := hD.sub (ws' := [(md, .inr (21, [.int 0, .ref mt, .ref lkp, .ref lcd, .ref mli, .ref mru, .ref lfn, .ref mhe, .ref mma, .ref lin, .ref lsc, .ref lva, .ref lpl, .ref (sa 51), .ref lbr, .ref lwa, .int 45, .int (-1)]))]) [2] (by decide) rfl
  have hFc := va_free (wc := [(md, .inr (21, [.int 0, .ref mt, .ref lkp, .ref lcd, .ref mli, .ref mru, .ref lfn, .ref mhe, .ref mma, .ref lin, .ref lsc, .ref lva, .ref lpl, .ref (sa 51), .ref lbr, .ref lwa, .int 45, .int (-1)]))]) hD hS hA [2] rfl
  refine z_calliJ (wr := [(mt, .inr (20, [.ref mtc, .ref mtt, .int (-1), .int 0, .int (-1)])), (mtt, .inr (5, [.int 0, .ref dc, .int 0]))]) (va_runV (As := [.int 0, .int 1]) (rest := []) ⟨hx, hb, hml, hown, hts⟩ (k_fails0 l D cy sa sv dc md _ mt lkp lcd mli mru lfn mhe mma lin lsc lva lpl lbr lwa 1) (cwV 2 hts GV_RX15_98 rfl rfl rfl ⟨rfl, HD_yX15_fails⟩ ⟨Nat.le_of_ble_eq_true rfl, Nat.le_of_ble_eq_true rfl⟩) ⟨z_blind EM_ok, va_recv hK hPc (ci := 21) (q0 := 0) rfl rfl, z_pre EM_ok hPc hK hDc hEm hS hFc⟩ rfl rfl hl.1 rfl (lv_room (Nat.le_of_ble_eq_true rfl)) dX15_run_23 ⟨Nat.le_of_ble_eq_true rfl, Nat.le_of_ble_eq_true rfl⟩) hP hD hS hA [2] [0, 1] rfl rfl (by decide) (by decide) (fun r_23 u23 H locs hw_23 hP hD hS => ?_)
  have hP : va_P D vwCl [(mt, .inr (20, [.ref mtc, .ref mtt, .int (-1), .int 0, .int (-1)])), (mtt, .inr (5, [.int 0, .ref dc, .int 0])), (md, .inr (21, [.int 0, .ref mt, .ref lkp, .ref lcd, .ref mli, .ref mru, .ref lfn, .ref mhe, .ref mma, .ref lin, .ref lsc, .ref lva, .ref lpl, .ref (sa 51), .ref lbr, .ref lwa, .int 45, .int (-1)]))] H := hP
  have hD : va_D A [(mt, .inr (20, [.ref mtc, .ref mtt, .int (-1), .int 0, .int (-1)])), (mtt, .inr (5, [.int 0, .ref dc, .int 0])), (md, .inr (21, [.int 0, .ref mt, .ref lkp, .ref lcd, .ref mli, .ref mru, .ref lfn, .ref mhe, .ref mma, .ref lin, .ref lsc, .ref lva, .ref lpl, .ref (sa 51), .ref lbr, .ref lwa, .int 45, .int (-1)]))] := hD
  obtain rfl := hw_23
  refine lv_if_eq (tgt := 31) hx hb dX15_run_26 (by decide) (fun _ => ?_) (fun c_26 => absurd (by decide) c_26)
  refine lv_iconst (v := 0) hx hb dX15_run_31 (by decide) ?_
  refine lv_istore_n (lv' := [(2, .int 0), (0, .ref md), (1, .int p0)]) hx hb dX15_run_32 rfl hl (by decide) rfl (fun ls hl => ?_)
  refine lv_iload_n hx hb dX15_run_33 rfl (lv_at hl 0 rfl) ?_
  refine lv_iload_n hx hb dX15_run_34 rfl (lv_at hl 2 rfl) ?_
  refine lv_icmp_ge (tgt := 45) hx hb dX15_run_35 (by decide) (fun c_35 => absurd c_35 (run0 h.1)) (fun _ => ?_)
  refine lv_aload_n hx hb dX15_run_38 rfl (lv_at hl 1 rfl) ?_
  have hPc := hP.sub (ws' := [(md, .inr (21, [.int 0, .ref mt, .ref lkp, .ref lcd, .ref mli, .ref mru, .ref lfn, .ref mhe, .ref mma, .ref lin, .ref lsc, .ref lva, .ref lpl, .ref (sa 51), .ref lbr, .ref lwa, .int 45, .int (-1)])), (mt, .inr (20, [.ref mtc, .ref mtt, .int (-1), .int 0, .int (-1)])), (mtt, .inr (5, [.int 0, .ref dc, .int 0]))]) [2, 0, 1] rfl
  have hDc := hD.sub (ws' := [(md, .inr (21, [.int 0, .ref mt, .ref lkp, .ref lcd, .ref mli, .ref mru, .ref lfn, .ref mhe, .ref mma, .ref lin, .ref lsc, .ref lva, .ref lpl, .ref (sa 51), .ref lbr, .ref lwa, .int 45, .int (-1)])), (mt, .inr (20, [.ref mtc, .ref mtt, .int (-1), .int 0, .int (-1)])), (mtt, .inr (5, [.int 0, .ref dc, .int 0]))]) [2, 0, 1] (by decide) rfl
  have hFc := va_free (wc := [(md, .inr (21, [.int 0, .ref mt, .ref lkp, .ref lcd, .ref mli, .ref mru, .ref lfn, .ref mhe, .ref mma, .ref lin, .ref lsc, .ref lva, .ref lpl, .ref (sa 51), .ref lbr, .ref lwa, .int 45, .int (-1)])), (mt, .inr (20, [.ref mtc, .ref mtt, .int (-1), .int 0, .int (-1)])), (mtt, .inr (5, [.int 0, .ref dc, .int 0]))]) hD hS hA [2, 0, 1] rfl
  refine z_calliJ (wr := []) (va_runV (As := []) (rest := []) ⟨hx, hb, hml, hown, hts⟩ (k_next l D cy sa sv dc md mt mtt _ lkp lcd mli mru lfn mhe mma lin lsc lva lpl lbr lwa mtc) (cwV 0 hts GV_RX15_413 rfl rfl rfl ⟨rfl, HD_yX15_next⟩ ⟨Nat.le_of_ble_eq_true rfl, Nat.le_of_ble_eq_true rfl⟩) ⟨z_blind EM_ok, va_recv hK hPc (ci := 21) (q0 := 0) rfl rfl, z_pre EM_ok hPc hK hDc hEm hS hFc⟩ rfl rfl hl.1 rfl (lv_room (Nat.le_of_ble_eq_true rfl)) dX15_run_39 ⟨Nat.le_of_ble_eq_true rfl, Nat.le_of_ble_eq_true rfl⟩) hP hD hS hA [2, 0, 1] [] rfl rfl (by decide) (by decide) (fun r_39 u39 H locs hw_39 hP hD hS => ?_)
  have hP : va_P D vwCl [(md, .inr (21, [.int 0, .ref mt, .ref lkp, .ref lcd, .ref mli, .ref mru, .ref lfn, .ref mhe, .ref mma, .ref lin, .ref lsc, .ref lva, .ref lpl, .ref (sa 51), .ref lbr, .ref lwa, .int 45, .int (-1)])), (mt, .inr (20, [.ref mtc, .ref mtt, .int (-1), .int 0, .int (-1)])), (mtt, .inr (5, [.int 0, .ref dc, .int 0]))] H := hP
  have hD : va_D A [(md, .inr (21, [.int 0, .ref mt, .ref lkp, .ref lcd, .ref mli, .ref mru, .ref lfn, .ref mhe, .ref mma, .ref lin, .ref lsc, .ref lva, .ref lpl, .ref (sa 51), .ref lbr, .ref lwa, .int 45, .int (-1)])), (mt, .inr (20, [.ref mtc, .ref mtt, .int (-1), .int 0, .int (-1)])), (mtt, .inr (5, [.int 0, .ref dc, .int 0]))] := hD
  obtain rfl := hw_39
  refine lv_goto (tgt := 46) hx hb dX15_run_42 (by decide) ?_
  refine lv_istore_n (lv' := [(3, .int (-1)), (2, .int 0), (0, .ref md), (1, .int p0)]) hx hb dX15_run_46 rfl hl (by decide) rfl (fun ls hl => ?_)
  refine lv_iload_n hx hb dX15_run_47 rfl (lv_at hl 0 rfl) ?_
  refine lv_iconst (v := (-1)) hx hb dX15_run_48 (by decide) ?_
  refine lv_icmp_ne (tgt := 71) hx hb dX15_run_49 (by decide) (fun c_49 => absurd (by decide) c_49) (fun _ => ?_)
  refine lv_aload_n hx hb dX15_run_52 rfl (lv_at hl 2 rfl) ?_
  refine lv_iload_n hx hb dX15_run_53 rfl (lv_at hl 1 rfl) ?_
  refine lv_iload_n hx hb dX15_run_54 rfl (lv_at hl 3 rfl) ?_
  refine lv_icmp_ge (tgt := 63) hx hb dX15_run_55 (by decide) (fun c_55 => absurd c_55 (run0 h.1)) (fun _ => ?_)
  refine lv_bipush (v := 100) hx hb dX15_run_58 (by decide) ?_
  refine lv_goto (tgt := 65) hx hb dX15_run_60 (by decide) ?_
  refine lv_iconst (v := (-1)) hx hb dX15_run_65 (by decide) ?_
  have hPc := hP.sub (ws' := [(md, .inr (21, [.int 0, .ref mt, .ref lkp, .ref lcd, .ref mli, .ref mru, .ref lfn, .ref mhe, .ref mma, .ref lin, .ref lsc, .ref lva, .ref lpl, .ref (sa 51), .ref lbr, .ref lwa, .int 45, .int (-1)]))]) [0] rfl
  have hDc := hD.sub (ws' := [(md, .inr (21, [.int 0, .ref mt, .ref lkp, .ref lcd, .ref mli, .ref mru, .ref lfn, .ref mhe, .ref mma, .ref lin, .ref lsc, .ref lva, .ref lpl, .ref (sa 51), .ref lbr, .ref lwa, .int 45, .int (-1)]))]) [0] (by decide) rfl
  have hFc := va_free (wc := [(md, .inr (21, [.int 0, .ref mt, .ref lkp, .ref lcd, .ref mli, .ref mru, .ref lfn, .ref mhe, .ref mma, .ref lin, .ref lsc, .ref lva, .ref lpl, .ref (sa 51), .ref lbr, .ref lwa, .int 45, .int (-1)]))]) hD hS hA [0] rfl
  refine z_callvJ (wr := [(mt, .inr (20, [.ref mtc, .ref mtt, .int (-1), .int 0, .int (-1)])), (mtt, .inr (5, [.int 0, .ref dc, .int 0]))]) (va_runV (As := [.int 100, .int (-1)]) (rest := []) ⟨hx, hb, hml, hown, hts⟩ (k_ends l D cy sa sv dc md _ mt lkp lcd mli mru lfn mhe mma lin lsc lva lpl lbr lwa) (cwV 2 hts GV_RX15_407 rfl rfl rfl ⟨rfl, HD_yX15_ends⟩ ⟨Nat.le_of_ble_eq_true rfl, Nat.le_of_ble_eq_true rfl⟩) ⟨z_blind EM_ok, va_recv hK hPc (ci := 21) (q0 := 0) rfl rfl, z_pre EM_ok hPc hK hDc hEm hS hFc⟩ rfl rfl hl.1 rfl (lv_room (Nat.le_of_ble_eq_true rfl)) dX15_run_66 ⟨Nat.le_of_ble_eq_true rfl, Nat.le_of_ble_eq_true rfl⟩) hP hD hS hA [0] [1, 2] rfl rfl (by decide) (by decide) (fun u66 H locs hw_66 hP hD hS => ?_)
  have hP : va_P D vwCl [(mt, .inr (20, [.ref mtc, .ref mtt, .int (-1), .int 0, .int (-1)])), (mtt, .inr (5, [.int 0, .ref dc, .int 0])), (md, .inr (21, [.int 0, .ref mt, .ref lkp, .ref lcd, .ref mli, .ref mru, .ref lfn, .ref mhe, .ref mma, .ref lin, .ref lsc, .ref lva, .ref lpl, .ref (sa 51), .ref lbr, .ref lwa, .int 100, .int (-1)]))] H := hP
  have hD : va_D A [(mt, .inr (20, [.ref mtc, .ref mtt, .int (-1), .int 0, .int (-1)])), (mtt, .inr (5, [.int 0, .ref dc, .int 0])), (md, .inr (21, [.int 0, .ref mt, .ref lkp, .ref lcd, .ref mli, .ref mru, .ref lfn, .ref mhe, .ref mma, .ref lin, .ref lsc, .ref lva, .ref lpl, .ref (sa 51), .ref lbr, .ref lwa, .int 100, .int (-1)]))] := hD
  refine lv_iload_n hx hb dX15_run_69 rfl (lv_at hl 1 rfl) ?_
  have hP := hP.sub (ws' := [(md, .inr (21, [.int 0, .ref mt, .ref lkp, .ref lcd, .ref mli, .ref mru, .ref lfn, .ref mhe, .ref mma, .ref lin, .ref lsc, .ref lva, .ref lpl, .ref (sa 51), .ref lbr, .ref lwa, .int 100, .int (-1)]))]) [2] rfl
  have hD := hD.sub (ws' := [(md, .inr (21, [.int 0, .ref mt, .ref lkp, .ref lcd, .ref mli, .ref mru, .ref lfn, .ref mhe, .ref mma, .ref lin, .ref lsc, .ref lva, .ref lpl, .ref (sa 51), .ref lbr, .ref lwa, .int 100, .int (-1)]))]) [2] (by decide) rfl
  exact z_reti () hx hb hr rfl hlocks hK (rfl) hP hD hS (Nat.le_of_ble_eq_true rfl) (Nat.le_of_ble_eq_true rfl) dX15_run_70
set_option maxHeartbeats 4000000 in
set_option maxRecDepth 100000 in
theorem k_run0 (l : Launch) (D : va_G) (cy : Nat → ClassId) (sa : Nat → Nat) (sv : Nat → Nat) (dc : Nat) (md : Nat) (sz : Nat) (mt lkp lcd mli mru lfn mhe mma lin lsc lva lpl lbr lwa : Nat) (p0 : Int32) (h : ¬ rg p0 1 500) : Met l yX15_run (Cond.code yX15_run cX15_run 4 (some .int) :: ALL) ({ frames := 1, cells := 0, slots := 0, locals := 25 }) (zPc D vwCl (TY cy) (EM sa sv dc) [.ref md, .int p0] [(md, .inr (21, [.int 0, .ref mt, .ref lkp, .ref lcd, .ref mli, .ref mru, .ref lfn, .ref mhe, .ref mma, .ref lin, .ref lsc, .ref lva, .ref lpl, .ref (sa 51), .ref lbr, .ref lwa, .int 45, .int (-1)]))] sz) (va_Qi (fun r _ => r = (-1)) (zB D vwCl (TY cy) (S := Unit) (fun u => [(md, .inr (21, [.int 1, .ref mt, .ref lkp, .ref lcd, .ref mli, .ref mru, .ref lfn, .ref mhe, .ref mma, .ref lin, .ref lsc, .ref lva, .ref lpl, .ref (sa 51), .ref lbr, .ref lwa, .int 45, .int (-1)]))]) (va_A [(md, .inr (21, [.int 0, .ref mt, .ref lkp, .ref lcd, .ref mli, .ref mru, .ref lfn, .ref mhe, .ref mma, .ref lin, .ref lsc, .ref lva, .ref lpl, .ref (sa 51), .ref lbr, .ref lwa, .int 45, .int (-1)]))] sz)) (va_A [(md, .inr (21, [.int 0, .ref mt, .ref lkp, .ref lcd, .ref mli, .ref mru, .ref lfn, .ref mhe, .ref mma, .ref lin, .ref lsc, .ref lva, .ref lpl, .ref (sa 51), .ref lbr, .ref lwa, .int 45, .int (-1)]))] sz)) 0 0 (va_A [(md, .inr (21, [.int 0, .ref mt, .ref lkp, .ref lcd, .ref mli, .ref mru, .ref lfn, .ref mhe, .ref mma, .ref lin, .ref lsc, .ref lva, .ref lpl, .ref (sa 51), .ref lbr, .ref lwa, .int 45, .int (-1)]))] sz) := by
  refine z_start (Qc := fun A => va_Qi (fun r _ => r = (-1)) (zB D vwCl (TY cy) (S := Unit) (fun u => [(md, .inr (21, [.int 1, .ref mt, .ref lkp, .ref lcd, .ref mli, .ref mru, .ref lfn, .ref mhe, .ref mma, .ref lin, .ref lsc, .ref lva, .ref lpl, .ref (sa 51), .ref lbr, .ref lwa, .int 45, .int (-1)]))]) A) A) PN_RX15 (Nat.le_of_ble_eq_true rfl) ?_
  intro p e s m below meth c A ls hx hb hr hml hts hown hlocks hin hA hP hK hD hS hEn hl
  have hown : s.vm.findClass RX15 = some m.cls := hown
  have hEm := hEn
  have hEn := hEn.1
  have hl : lv_has ls 4 [(0, .ref md), (1, .int p0)] := hl
  have hS0 := hS
  refine lv_aload_n hx hb dX15_run_0 rfl (lv_at hl 0 rfl) ?_
  refine z_callv (va_runV (As := []) (rest := []) ⟨hx, hb, hml, hown, hts⟩ (k_begins l D cy sa sv dc md _ mt lkp lcd mli mru lfn mhe mma lin lsc lva lpl lbr lwa) (cwV 0 hts GV_RX15_124 rfl rfl rfl ⟨rfl, HD_yX15_begins⟩ ⟨Nat.le_of_ble_eq_true rfl, Nat.le_of_ble_eq_true rfl⟩) ⟨z_blind EM_ok, va_recv hK hP (ci := 21) (q0 := 0) rfl rfl, z_pre EM_ok hP hK hD hEm hS (z_free hD hS hA)⟩ rfl rfl hl.1 rfl (lv_room (Nat.le_of_ble_eq_true rfl)) dX15_run_1 ⟨Nat.le_of_ble_eq_true rfl, Nat.le_of_ble_eq_true rfl⟩) hD hS hA (fun u1 H locs hw_1 hP hD hS => ?_)
  have hP : va_P D vwCl [(md, .inr (21, [.int 0, .ref mt, .ref lkp, .ref lcd, .ref mli, .ref mru, .ref lfn, .ref mhe, .ref mma, .ref lin, .ref lsc, .ref lva, .ref lpl, .ref (sa 51), .ref lbr, .ref lwa, .int 45, .int (-1)]))] H := hP
  have hD : va_D A [(md, .inr (21, [.int 0, .ref mt, .ref lkp, .ref lcd, .ref mli, .ref mru, .ref lfn, .ref mhe, .ref mma, .ref lin, .ref lsc, .ref lva, .ref lpl, .ref (sa 51), .ref lbr, .ref lwa, .int 45, .int (-1)]))] := hD
  refine lv_aload_n hx hb dX15_run_4 rfl (lv_at hl 0 rfl) ?_
  refine lv_iload_n hx hb dX15_run_5 rfl (lv_at hl 1 rfl) ?_
  refine lv_i2l hx hb dX15_run_6 rfl ?_
  refine lv_lconst (v := 1) hx hb dX15_run_7 (by decide) ?_
  refine lv_ldc2 hx hb hown (hts _ K2718) dX15_run_8 ?_
  have hPc := hP.sub (ws' := []) [] rfl
  have hDc := hD.sub (ws' := []) [] (by decide) rfl
  have hFc := va_free (wc := []) hD hS hA [] rfl
  refine z_calliJ (wr := [(md, .inr (21, [.int 0, .ref mt, .ref lkp, .ref lcd, .ref mli, .ref mru, .ref lfn, .ref mhe, .ref mma, .ref lin, .ref lsc, .ref lva, .ref lpl, .ref (sa 51), .ref lbr, .ref lwa, .int 45, .int (-1)]))]) (va_runS (As := [.long p0.toInt64, .long 1, .long 500]) (rest := [.ref md]) ⟨hx, hb, hml, hown, hts⟩ (k_in l D cy sa sv dc _ (p0.toInt64) 1 500) (va_cwS 3 hts GS_RX15_13 rfl rfl rfl HD_yX15_in ⟨Nat.le_of_ble_eq_true rfl, Nat.le_of_ble_eq_true rfl⟩) ⟨z_blind EM_ok, z_pre EM_ok hPc hK hDc hEm hS hFc⟩ rfl rfl hl.1 rfl (lv_room (Nat.le_of_ble_eq_true rfl)) dX15_run_11 ⟨Nat.le_of_ble_eq_true rfl, Nat.le_of_ble_eq_true rfl⟩) hP hD hS hA [] [0] rfl rfl (by decide) (by decide) (fun r_11 u11 H locs hw_11 hP hD hS => ?_)
  have hP : va_P D vwCl [(md, .inr (21, [.int 0, .ref mt, .ref lkp, .ref lcd, .ref mli, .ref mru, .ref lfn, .ref mhe, .ref mma, .ref lin, .ref lsc, .ref lva, .ref lpl, .ref (sa 51), .ref lbr, .ref lwa, .int 45, .int (-1)]))] H := hP
  have hD : va_D A [(md, .inr (21, [.int 0, .ref mt, .ref lkp, .ref lcd, .ref mli, .ref mru, .ref lfn, .ref mhe, .ref mma, .ref lin, .ref lsc, .ref lva, .ref lpl, .ref (sa 51), .ref lbr, .ref lwa, .int 45, .int (-1)]))] := hD
  obtain rfl := hw_11
  refine lv_if_ne (tgt := 21) hx hb dX15_run_14 (by decide) (fun c_14 => absurd (inL_nrg (b := 500) (by decide) h) c_14) (fun _ => ?_)
  refine lv_iconst (v := 1) hx hb dX15_run_17 (by decide) ?_
  refine lv_goto (tgt := 22) hx hb dX15_run_18 (by decide) ?_
  refine lv_iconst (v := 1) hx hb dX15_run_22 (by decide) ?_
  refine z_calli (va_runV (As := [.int 1, .int 1]) (rest := []) ⟨hx, hb, hml, hown, hts⟩ (k_fails1 l D cy sa sv dc md _ mt lkp lcd mli mru lfn mhe mma lin lsc lva lpl lbr lwa) (cwV 2 hts GV_RX15_98 rfl rfl rfl ⟨rfl, HD_yX15_fails⟩ ⟨Nat.le_of_ble_eq_true rfl, Nat.le_of_ble_eq_true rfl⟩) ⟨z_blind EM_ok, va_recv hK hP (ci := 21) (q0 := 0) rfl rfl, z_pre EM_ok hP hK hD hEm hS (z_free hD hS hA)⟩ rfl rfl hl.1 rfl (lv_room (Nat.le_of_ble_eq_true rfl)) dX15_run_23 ⟨Nat.le_of_ble_eq_true rfl, Nat.le_of_ble_eq_true rfl⟩) hD hS hA (fun r_23 u23 H locs hw_23 hP hD hS => ?_)
  have hP : va_P D vwCl [(md, .inr (21, [.int 1, .ref mt, .ref lkp, .ref lcd, .ref mli, .ref mru, .ref lfn, .ref mhe, .ref mma, .ref lin, .ref lsc, .ref lva, .ref lpl, .ref (sa 51), .ref lbr, .ref lwa, .int 45, .int (-1)]))] H := hP
  have hD : va_D A [(md, .inr (21, [.int 1, .ref mt, .ref lkp, .ref lcd, .ref mli, .ref mru, .ref lfn, .ref mhe, .ref mma, .ref lin, .ref lsc, .ref lva, .ref lpl, .ref (sa 51), .ref lbr, .ref lwa, .int 45, .int (-1)]))] := hD
  obtain rfl := hw_23
  refine lv_if_eq (tgt := 31) hx hb dX15_run_26 (by decide) (fun c_26 => absurd c_26 (by decide)) (fun _ => ?_)
  refine lv_iconst (v := (-1)) hx hb dX15_run_29 (by decide) ?_
  exact z_reti () hx hb hr rfl hlocks hK (rfl) hP hD hS (Nat.le_of_ble_eq_true rfl) (Nat.le_of_ble_eq_true rfl) dX15_run_30
set_option maxHeartbeats 4000000 in
set_option maxRecDepth 100000 in
theorem k_back0 (l : Launch) (D : va_G) (cy : Nat → ClassId) (sa : Nat → Nat) (sv : Nat → Nat) (dc : Nat) (md : Nat) (sz : Nat) (mt lkp lcd mli mru lfn mhe mma lin lsc lva lpl lbr lwa : Nat) (p0 : Int32) (h : ¬ rg p0 1 1000) : Met l yX15_back (Cond.code yX15_back cX15_back 2 (some .int) :: ALL) ({ frames := 1, cells := 0, slots := 0, locals := 25 }) (zPc D vwCl (TY cy) (EM sa sv dc) [.ref md, .int p0] [(md, .inr (21, [.int 0, .ref mt, .ref lkp, .ref lcd, .ref mli, .ref mru, .ref lfn, .ref mhe, .ref mma, .ref lin, .ref lsc, .ref lva, .ref lpl, .ref (sa 51), .ref lbr, .ref lwa, .int 45, .int (-1)]))] sz) (va_Qi (fun r _ => r = (-1)) (zB D vwCl (TY cy) (S := Unit) (fun u => [(md, .inr (21, [.int 1, .ref mt, .ref lkp, .ref lcd, .ref mli, .ref mru, .ref lfn, .ref mhe, .ref mma, .ref lin, .ref lsc, .ref lva, .ref lpl, .ref (sa 51), .ref lbr, .ref lwa, .int 45, .int (-1)]))]) (va_A [(md, .inr (21, [.int 0, .ref mt, .ref lkp, .ref lcd, .ref mli, .ref mru, .ref lfn, .ref mhe, .ref mma, .ref lin, .ref lsc, .ref lva, .ref lpl, .ref (sa 51), .ref lbr, .ref lwa, .int 45, .int (-1)]))] sz)) (va_A [(md, .inr (21, [.int 0, .ref mt, .ref lkp, .ref lcd, .ref mli, .ref mru, .ref lfn, .ref mhe, .ref mma, .ref lin, .ref lsc, .ref lva, .ref lpl, .ref (sa 51), .ref lbr, .ref lwa, .int 45, .int (-1)]))] sz)) 0 0 (va_A [(md, .inr (21, [.int 0, .ref mt, .ref lkp, .ref lcd, .ref mli, .ref mru, .ref lfn, .ref mhe, .ref mma, .ref lin, .ref lsc, .ref lva, .ref lpl, .ref (sa 51), .ref lbr, .ref lwa, .int 45, .int (-1)]))] sz) := by
  refine z_start (Qc := fun A => va_Qi (fun r _ => r = (-1)) (zB D vwCl (TY cy) (S := Unit) (fun u => [(md, .inr (21, [.int 1, .ref mt, .ref lkp, .ref lcd, .ref mli, .ref mru, .ref lfn, .ref mhe, .ref mma, .ref lin, .ref lsc, .ref lva, .ref lpl, .ref (sa 51), .ref lbr, .ref lwa, .int 45, .int (-1)]))]) A) A) PN_RX15 (Nat.le_of_ble_eq_true rfl) ?_
  intro p e s m below meth c A ls hx hb hr hml hts hown hlocks hin hA hP hK hD hS hEn hl
  have hown : s.vm.findClass RX15 = some m.cls := hown
  have hEm := hEn
  have hEn := hEn.1
  have hl : lv_has ls 2 [(0, .ref md), (1, .int p0)] := hl
  have hS0 := hS
  refine lv_aload_n hx hb dX15_back_0 rfl (lv_at hl 0 rfl) ?_
  refine z_callv (va_runV (As := []) (rest := []) ⟨hx, hb, hml, hown, hts⟩ (k_begins l D cy sa sv dc md _ mt lkp lcd mli mru lfn mhe mma lin lsc lva lpl lbr lwa) (cwV 0 hts GV_RX15_124 rfl rfl rfl ⟨rfl, HD_yX15_begins⟩ ⟨Nat.le_of_ble_eq_true rfl, Nat.le_of_ble_eq_true rfl⟩) ⟨z_blind EM_ok, va_recv hK hP (ci := 21) (q0 := 0) rfl rfl, z_pre EM_ok hP hK hD hEm hS (z_free hD hS hA)⟩ rfl rfl hl.1 rfl (lv_room (Nat.le_of_ble_eq_true rfl)) dX15_back_1 ⟨Nat.le_of_ble_eq_true rfl, Nat.le_of_ble_eq_true rfl⟩) hD hS hA (fun u1 H locs hw_1 hP hD hS => ?_)
  have hP : va_P D vwCl [(md, .inr (21, [.int 0, .ref mt, .ref lkp, .ref lcd, .ref mli, .ref mru, .ref lfn, .ref mhe, .ref mma, .ref lin, .ref lsc, .ref lva, .ref lpl, .ref (sa 51), .ref lbr, .ref lwa, .int 45, .int (-1)]))] H := hP
  have hD : va_D A [(md, .inr (21, [.int 0, .ref mt, .ref lkp, .ref lcd, .ref mli, .ref mru, .ref lfn, .ref mhe, .ref mma, .ref lin, .ref lsc, .ref lva, .ref lpl, .ref (sa 51), .ref lbr, .ref lwa, .int 45, .int (-1)]))] := hD
  refine lv_aload_n hx hb dX15_back_4 rfl (lv_at hl 0 rfl) ?_
  refine lv_iload_n hx hb dX15_back_5 rfl (lv_at hl 1 rfl) ?_
  refine lv_i2l hx hb dX15_back_6 rfl ?_
  refine lv_lconst (v := 1) hx hb dX15_back_7 (by decide) ?_
  refine lv_ldc2 hx hb hown (hts _ K2811) dX15_back_8 ?_
  have hPc := hP.sub (ws' := []) [] rfl
  have hDc := hD.sub (ws' := []) [] (by decide) rfl
  have hFc := va_free (wc := []) hD hS hA [] rfl
  refine z_calliJ (wr := [(md, .inr (21, [.int 0, .ref mt, .ref lkp, .ref lcd, .ref mli, .ref mru, .ref lfn, .ref mhe, .ref mma, .ref lin, .ref lsc, .ref lva, .ref lpl, .ref (sa 51), .ref lbr, .ref lwa, .int 45, .int (-1)]))]) (va_runS (As := [.long p0.toInt64, .long 1, .long 1000]) (rest := [.ref md]) ⟨hx, hb, hml, hown, hts⟩ (k_in l D cy sa sv dc _ (p0.toInt64) 1 1000) (va_cwS 3 hts GS_RX15_13 rfl rfl rfl HD_yX15_in ⟨Nat.le_of_ble_eq_true rfl, Nat.le_of_ble_eq_true rfl⟩) ⟨z_blind EM_ok, z_pre EM_ok hPc hK hDc hEm hS hFc⟩ rfl rfl hl.1 rfl (lv_room (Nat.le_of_ble_eq_true rfl)) dX15_back_11 ⟨Nat.le_of_ble_eq_true rfl, Nat.le_of_ble_eq_true rfl⟩) hP hD hS hA [] [0] rfl rfl (by decide) (by decide) (fun r_11 u11 H locs hw_11 hP hD hS => ?_)
  have hP : va_P D vwCl [(md, .inr (21, [.int 0, .ref mt, .ref lkp, .ref lcd, .ref mli, .ref mru, .ref lfn, .ref mhe, .ref mma, .ref lin, .ref lsc, .ref lva, .ref lpl, .ref (sa 51), .ref lbr, .ref lwa, .int 45, .int (-1)]))] H := hP
  have hD : va_D A [(md, .inr (21, [.int 0, .ref mt, .ref lkp, .ref lcd, .ref mli, .ref mru, .ref lfn, .ref mhe, .ref mma, .ref lin, .ref lsc, .ref lva, .ref lpl, .ref (sa 51), .ref lbr, .ref lwa, .int 45, .int (-1)]))] := hD
  obtain rfl := hw_11
  refine lv_if_ne (tgt := 21) hx hb dX15_back_14 (by decide) (fun c_14 => absurd (inL_nrg (b := 1000) (by decide) h) c_14) (fun _ => ?_)
  refine lv_iconst (v := 1) hx hb dX15_back_17 (by decide) ?_
  refine lv_goto (tgt := 22) hx hb dX15_back_18 (by decide) ?_
  refine lv_iconst (v := 1) hx hb dX15_back_22 (by decide) ?_
  refine z_calli (va_runV (As := [.int 1, .int 1]) (rest := []) ⟨hx, hb, hml, hown, hts⟩ (k_fails1 l D cy sa sv dc md _ mt lkp lcd mli mru lfn mhe mma lin lsc lva lpl lbr lwa) (cwV 2 hts GV_RX15_98 rfl rfl rfl ⟨rfl, HD_yX15_fails⟩ ⟨Nat.le_of_ble_eq_true rfl, Nat.le_of_ble_eq_true rfl⟩) ⟨z_blind EM_ok, va_recv hK hP (ci := 21) (q0 := 0) rfl rfl, z_pre EM_ok hP hK hD hEm hS (z_free hD hS hA)⟩ rfl rfl hl.1 rfl (lv_room (Nat.le_of_ble_eq_true rfl)) dX15_back_23 ⟨Nat.le_of_ble_eq_true rfl, Nat.le_of_ble_eq_true rfl⟩) hD hS hA (fun r_23 u23 H locs hw_23 hP hD hS => ?_)
  have hP : va_P D vwCl [(md, .inr (21, [.int 1, .ref mt, .ref lkp, .ref lcd, .ref mli, .ref mru, .ref lfn, .ref mhe, .ref mma, .ref lin, .ref lsc, .ref lva, .ref lpl, .ref (sa 51), .ref lbr, .ref lwa, .int 45, .int (-1)]))] H := hP
  have hD : va_D A [(md, .inr (21, [.int 1, .ref mt, .ref lkp, .ref lcd, .ref mli, .ref mru, .ref lfn, .ref mhe, .ref mma, .ref lin, .ref lsc, .ref lva, .ref lpl, .ref (sa 51), .ref lbr, .ref lwa, .int 45, .int (-1)]))] := hD
  obtain rfl := hw_23
  refine lv_if_ne (tgt := 55) hx hb dX15_back_26 (by decide) (fun _ => ?_) (fun c_26 => absurd c_26 (by decide))
  refine lv_iconst (v := (-1)) hx hb dX15_back_55 (by decide) ?_
  exact z_reti () hx hb hr rfl hlocks hK (rfl) hP hD hS (Nat.le_of_ble_eq_true rfl) (Nat.le_of_ble_eq_true rfl) dX15_back_56
set_option maxHeartbeats 4000000 in
set_option maxRecDepth 100000 in
theorem k_backTo (l : Launch) (D : va_G) (cy : Nat → ClassId) (sa : Nat → Nat) (sv : Nat → Nat) (dc : Nat) (md lkp : Nat) (sz : Nat) (mt lcd mli mru lfn mhe mma lin lsc lva lpl lbr lwa : Nat) : Met l yX15_backTo (Cond.code yX15_backTo cX15_backTo 6 (some .int) :: ALL) ({ frames := 1, cells := 0, slots := 0, locals := 22 }) (zPc D vwCl (TY cy) (EM sa sv dc) [.ref md] [(md, .inr (21, [.int 0, .ref mt, .ref lkp, .ref lcd, .ref mli, .ref mru, .ref lfn, .ref mhe, .ref mma, .ref lin, .ref lsc, .ref lva, .ref lpl, .ref (sa 51), .ref lbr, .ref lwa, .int 45, .int (-1)])), (lkp, .inr (5, [.int 0, .ref dc, .int 0]))] sz) (va_Qi (fun r _ => r = (-1)) (zB D vwCl (TY cy) (S := Unit) (fun u => [(md, .inr (21, [.int 1, .ref mt, .ref lkp, .ref lcd, .ref mli, .ref mru, .ref lfn, .ref mhe, .ref mma, .ref lin, .ref lsc, .ref lva, .ref lpl, .ref (sa 51), .ref lbr, .ref lwa, .int 45, .int (-1)]))]) (va_A [(md, .inr (21, [.int 0, .ref mt, .ref lkp, .ref lcd, .ref mli, .ref mru, .ref lfn, .ref mhe, .ref mma, .ref lin, .ref lsc, .ref lva, .ref lpl, .ref (sa 51), .ref lbr, .ref lwa, .int 45, .int (-1)])), (lkp, .inr (5, [.int 0, .ref dc, .int 0]))] sz)) (va_A [(md, .inr (21, [.int 0, .ref mt, .ref lkp, .ref lcd, .ref mli, .ref mru, .ref lfn, .ref mhe, .ref mma, .ref lin, .ref lsc, .ref lva, .ref lpl, .ref (sa 51), .ref lbr, .ref lwa, .int 45, .int (-1)])), (lkp, .inr (5, [.int 0, .ref dc, .int 0]))] sz)) 0 0 (va_A [(md, .inr (21, [.int 0, .ref mt, .ref lkp, .ref lcd, .ref mli, .ref mru, .ref lfn, .ref mhe, .ref mma, .ref lin, .ref lsc, .ref lva, .ref lpl, .ref (sa 51), .ref lbr, .ref lwa, .int 45, .int (-1)])), (lkp, .inr (5, [.int 0, .ref dc, .int 0]))] sz) := by
  refine z_start (Qc := fun A => va_Qi (fun r _ => r = (-1)) (zB D vwCl (TY cy) (S := Unit) (fun u => [(md, .inr (21, [.int 1, .ref mt, .ref lkp, .ref lcd, .ref mli, .ref mru, .ref lfn, .ref mhe, .ref mma, .ref lin, .ref lsc, .ref lva, .ref lpl, .ref (sa 51), .ref lbr, .ref lwa, .int 45, .int (-1)]))]) A) A) PN_RX15 (Nat.le_of_ble_eq_true rfl) ?_
  intro p e s m below meth c A ls hx hb hr hml hts hown hlocks hin hA hP hK hD hS hEn hl
  have hown : s.vm.findClass RX15 = some m.cls := hown
  have hEm := hEn
  have hEn := hEn.1
  have hl : lv_has ls 6 [(0, .ref md)] := hl
  have hS0 := hS
  refine lv_aload_n hx hb dX15_backTo_0 rfl (lv_at hl 0 rfl) ?_
  have hPc := hP.sub (ws' := [(md, .inr (21, [.int 0, .ref mt, .ref lkp, .ref lcd, .ref mli, .ref mru, .ref lfn, .ref mhe, .ref mma, .ref lin, .ref lsc, .ref lva, .ref lpl, .ref (sa 51), .ref lbr, .ref lwa, .int 45, .int (-1)]))]) [0] rfl
  have hDc := hD.sub (ws' := [(md, .inr (21, [.int 0, .ref mt, .ref lkp, .ref lcd, .ref mli, .ref mru, .ref lfn, .ref mhe, .ref mma, .ref lin, .ref lsc, .ref lva, .ref lpl, .ref (sa 51), .ref lbr, .ref lwa, .int 45, .int (-1)]))]) [0] (by decide) rfl
  have hFc := va_free (wc := [(md, .inr (21, [.int 0, .ref mt, .ref lkp, .ref lcd, .ref mli, .ref mru, .ref lfn, .ref mhe, .ref mma, .ref lin, .ref lsc, .ref lva, .ref lpl, .ref (sa 51), .ref lbr, .ref lwa, .int 45, .int (-1)]))]) hD hS hA [0] rfl
  refine z_callvJ (wr := [(lkp, .inr (5, [.int 0, .ref dc, .int 0]))]) (va_runV (As := []) (rest := []) ⟨hx, hb, hml, hown, hts⟩ (k_begins l D cy sa sv dc md _ mt lkp lcd mli mru lfn mhe mma lin lsc lva lpl lbr lwa) (cwV 0 hts GV_RX15_124 rfl rfl rfl ⟨rfl, HD_yX15_begins⟩ ⟨Nat.le_of_ble_eq_true rfl, Nat.le_of_ble_eq_true rfl⟩) ⟨z_blind EM_ok, va_recv hK hPc (ci := 21) (q0 := 0) rfl rfl, z_pre EM_ok hPc hK hDc hEm hS hFc⟩ rfl rfl hl.1 rfl (lv_room (Nat.le_of_ble_eq_true rfl)) dX15_backTo_1 ⟨Nat.le_of_ble_eq_true rfl, Nat.le_of_ble_eq_true rfl⟩) hP hD hS hA [0] [1] rfl rfl (by decide) (by decide) (fun u1 H locs hw_1 hP hD hS => ?_)
  have hP : va_P D vwCl [(lkp, .inr (5, [.int 0, .ref dc, .int 0])), (md, .inr (21, [.int 0, .ref mt, .ref lkp, .ref lcd, .ref mli, .ref mru, .ref lfn, .ref mhe, .ref mma, .ref lin, .ref lsc, .ref lva, .ref lpl, .ref (sa 51), .ref lbr, .ref lwa, .int 45, .int (-1)]))] H := hP
  have hD : va_D A [(lkp, .inr (5, [.int 0, .ref dc, .int 0])), (md, .inr (21, [.int 0, .ref mt, .ref lkp, .ref lcd, .ref mli, .ref mru, .ref lfn, .ref mhe, .ref mma, .ref lin, .ref lsc, .ref lva, .ref lpl, .ref (sa 51), .ref lbr, .ref lwa, .int 45, .int (-1)]))] := hD
  refine lv_aload_n hx hb dX15_backTo_4 rfl (lv_at hl 0 rfl) ?_
  refine va_get (D := D) (ci := 21) (v := .ref mt) (C := RX15) (T := TX15) (N := 18) hx hb hts inX15 hown hK hP 1 rfl rfl 1 (by decide) (hts _ K2087) (fun _ h9 => h9) rfl dX15_backTo_5 ?_
  refine lv_astore_n (lv' := [(1, .ref mt), (0, .ref md)]) hx hb dX15_backTo_8 rfl hl (by decide) rfl (fun ls hl => ?_)
  refine lv_iconst (v := 0) hx hb dX15_backTo_9 (by decide) ?_
  refine lv_istore_n (lv' := [(2, .int 0), (1, .ref mt), (0, .ref md)]) hx hb dX15_backTo_10 rfl hl (by decide) rfl (fun ls hl => ?_)
  refine lv_iconst (v := 1) hx hb dX15_backTo_11 (by decide) ?_
  refine lv_istore_n (lv' := [(3, .int 1), (2, .int 0), (1, .ref mt), (0, .ref md)]) hx hb dX15_backTo_12 rfl hl (by decide) rfl (fun ls hl => ?_)
  refine lv_iload_n hx hb dX15_backTo_13 rfl (lv_at hl 0 rfl) ?_
  refine lv_aload_n hx hb dX15_backTo_14 rfl (lv_at hl 3 rfl) ?_
  refine va_get (D := D) (ci := 21) (v := .ref lkp) (C := RX15) (T := TX15) (N := 18) hx hb hts inX15 hown hK hP 1 rfl rfl 2 (by decide) (hts _ K2088) (fun _ h9 => h9) rfl dX15_backTo_15 ?_
  have hPc := hP.sub (ws' := [(lkp, .inr (5, [.int 0, .ref dc, .int 0]))]) [0] rfl
  have hDc := hD.sub (ws' := [(lkp, .inr (5, [.int 0, .ref dc, .int 0]))]) [0] (by decide) rfl
  have hFc := va_free (wc := [(lkp, .inr (5, [.int 0, .ref dc, .int 0]))]) hD hS hA [0] rfl
  refine z_callFiJ (wr := [(md, .inr (21, [.int 0, .ref mt, .ref lkp, .ref lcd, .ref mli, .ref mru, .ref lfn, .ref mhe, .ref mma, .ref lin, .ref lsc, .ref lva, .ref lpl, .ref (sa 51), .ref lbr, .ref lwa, .int 45, .int (-1)]))]) (va_runF (As := []) (rest := [.int 1]) (hK.1 5 _ rfl).2 ⟨hx, hb, hml, hown, hts⟩ (k_size l D cy sa sv dc lkp _ dc 0 0) (va_cwF 0 hts GF_RX15_7 rfl rfl rfl (hEm.2.2.1 0 _ rfl) HD___java_util_List____size______I__ ⟨Nat.le_of_ble_eq_true rfl, Nat.le_of_ble_eq_true rfl⟩) ⟨z_blind EM_ok, va_recv hK hPc (ci := 5) (q0 := 0) rfl rfl, z_pre EM_ok hPc hK hDc hEm hS hFc⟩ rfl rfl hl.1 rfl (lv_room (Nat.le_of_ble_eq_true rfl)) dX15_backTo_18 ⟨Nat.le_of_ble_eq_true rfl, Nat.le_of_ble_eq_true rfl⟩) hP hD hS hA [0] [1] rfl rfl (by decide) (by decide) (fun r_18 u18 H locs hw_18 hP hD hS => ?_)
  have hP : va_P D vwCl [(md, .inr (21, [.int 0, .ref mt, .ref lkp, .ref lcd, .ref mli, .ref mru, .ref lfn, .ref mhe, .ref mma, .ref lin, .ref lsc, .ref lva, .ref lpl, .ref (sa 51), .ref lbr, .ref lwa, .int 45, .int (-1)])), (lkp, .inr (5, [.int 0, .ref dc, .int 0]))] H := hP
  have hD : va_D A [(md, .inr (21, [.int 0, .ref mt, .ref lkp, .ref lcd, .ref mli, .ref mru, .ref lfn, .ref mhe, .ref mma, .ref lin, .ref lsc, .ref lva, .ref lpl, .ref (sa 51), .ref lbr, .ref lwa, .int 45, .int (-1)])), (lkp, .inr (5, [.int 0, .ref dc, .int 0]))] := hD
  obtain rfl := hw_18
  refine lv_icmp_gt (tgt := 125) hx hb dX15_backTo_23 (by decide) (fun _ => ?_) (fun c_23 => absurd (by decide) c_23)
  refine lv_aload_n hx hb dX15_backTo_125 rfl (lv_at hl 3 rfl) ?_
  refine lv_aload_n hx hb dX15_backTo_126 rfl (lv_at hl 2 rfl) ?_
  refine va_put (D := D) (ci := 21) (v := .ref mt) (ty := .object "UnwindlensModel$Target") (C := RX15) (T := TX15) (N := 18) hx hb hts inX15 tyX15 tyX15_ok nmX15 hown hK hP hD hS 0 rfl rfl 1 (by decide) (hts _ K2087) (fun _ h9 => h9) rfl (by decide +kernel) rfl rfl (Nat.le_of_ble_eq_true rfl) dX15_backTo_127 (fun H locs hP hD hS => ?_)
  have hP : va_P D vwCl [(md, .inr (21, [.int 0, .ref mt, .ref lkp, .ref lcd, .ref mli, .ref mru, .ref lfn, .ref mhe, .ref mma, .ref lin, .ref lsc, .ref lva, .ref lpl, .ref (sa 51), .ref lbr, .ref lwa, .int 45, .int (-1)])), (lkp, .inr (5, [.int 0, .ref dc, .int 0]))] H := hP
  have hD : va_D A [(md, .inr (21, [.int 0, .ref mt, .ref lkp, .ref lcd, .ref mli, .ref mru, .ref lfn, .ref mhe, .ref mma, .ref lin, .ref lsc, .ref lva, .ref lpl, .ref (sa 51), .ref lbr, .ref lwa, .int 45, .int (-1)])), (lkp, .inr (5, [.int 0, .ref dc, .int 0]))] := hD
  refine lv_aload_n hx hb dX15_backTo_130 rfl (lv_at hl 3 rfl) ?_
  refine lv_iload_n hx hb dX15_backTo_131 rfl (lv_at hl 1 rfl) ?_
  refine lv_if_ne (tgt := 139) hx hb dX15_backTo_132 (by decide) (fun c_132 => absurd (by decide) c_132) (fun _ => ?_)
  refine lv_iconst (v := 1) hx hb dX15_backTo_135 (by decide) ?_
  refine lv_goto (tgt := 140) hx hb dX15_backTo_136 (by decide) ?_
  refine lv_iconst (v := 1) hx hb dX15_backTo_140 (by decide) ?_
  have hPc := hP.sub (ws' := [(md, .inr (21, [.int 0, .ref mt, .ref lkp, .ref lcd, .ref mli, .ref mru, .ref lfn, .ref mhe, .ref mma, .ref lin, .ref lsc, .ref lva, .ref lpl, .ref (sa 51), .ref lbr, .ref lwa, .int 45, .int (-1)]))]) [0] rfl
  have hDc := hD.sub (ws' := [(md, .inr (21, [.int 0, .ref mt, .ref lkp, .ref lcd, .ref mli, .ref mru, .ref lfn, .ref mhe, .ref mma, .ref lin, .ref lsc, .ref lva, .ref lpl, .ref (sa 51), .ref lbr, .ref lwa, .int 45, .int (-1)]))]) [0] (by decide) rfl
  have hFc := va_free (wc := [(md, .inr (21, [.int 0, .ref mt, .ref lkp, .ref lcd, .ref mli, .ref mru, .ref lfn, .ref mhe, .ref mma, .ref lin, .ref lsc, .ref lva, .ref lpl, .ref (sa 51), .ref lbr, .ref lwa, .int 45, .int (-1)]))]) hD hS hA [0] rfl
  refine z_calliJ (wr := [(lkp, .inr (5, [.int 0, .ref dc, .int 0]))]) (va_runV (As := [.int 1, .int 1]) (rest := []) ⟨hx, hb, hml, hown, hts⟩ (k_fails1 l D cy sa sv dc md _ mt lkp lcd mli mru lfn mhe mma lin lsc lva lpl lbr lwa) (cwV 2 hts GV_RX15_98 rfl rfl rfl ⟨rfl, HD_yX15_fails⟩ ⟨Nat.le_of_ble_eq_true rfl, Nat.le_of_ble_eq_true rfl⟩) ⟨z_blind EM_ok, va_recv hK hPc (ci := 21) (q0 := 0) rfl rfl, z_pre EM_ok hPc hK hDc hEm hS hFc⟩ rfl rfl hl.1 rfl (lv_room (Nat.le_of_ble_eq_true rfl)) dX15_backTo_141 ⟨Nat.le_of_ble_eq_true rfl, Nat.le_of_ble_eq_true rfl⟩) hP hD hS hA [0] [1] rfl rfl (by decide) (by decide) (fun r_141 u141 H locs hw_141 hP hD hS => ?_)
  have hP : va_P D vwCl [(lkp, .inr (5, [.int 0, .ref dc, .int 0])), (md, .inr (21, [.int 1, .ref mt, .ref lkp, .ref lcd, .ref mli, .ref mru, .ref lfn, .ref mhe, .ref mma, .ref lin, .ref lsc, .ref lva, .ref lpl, .ref (sa 51), .ref lbr, .ref lwa, .int 45, .int (-1)]))] H := hP
  have hD : va_D A [(lkp, .inr (5, [.int 0, .ref dc, .int 0])), (md, .inr (21, [.int 1, .ref mt, .ref lkp, .ref lcd, .ref mli, .ref mru, .ref lfn, .ref mhe, .ref mma, .ref lin, .ref lsc, .ref lva, .ref lpl, .ref (sa 51), .ref lbr, .ref lwa, .int 45, .int (-1)]))] := hD
  obtain rfl := hw_141
  refine lv_if_eq (tgt := 149) hx hb dX15_backTo_144 (by decide) (fun c_144 => absurd c_144 (by decide)) (fun _ => ?_)
  refine lv_iconst (v := (-1)) hx hb dX15_backTo_147 (by decide) ?_
  have hP := hP.sub (ws' := [(md, .inr (21, [.int 1, .ref mt, .ref lkp, .ref lcd, .ref mli, .ref mru, .ref lfn, .ref mhe, .ref mma, .ref lin, .ref lsc, .ref lva, .ref lpl, .ref (sa 51), .ref lbr, .ref lwa, .int 45, .int (-1)]))]) [1] rfl
  have hD := hD.sub (ws' := [(md, .inr (21, [.int 1, .ref mt, .ref lkp, .ref lcd, .ref mli, .ref mru, .ref lfn, .ref mhe, .ref mma, .ref lin, .ref lsc, .ref lva, .ref lpl, .ref (sa 51), .ref lbr, .ref lwa, .int 45, .int (-1)]))]) [1] (by decide) rfl
  exact z_reti () hx hb hr rfl hlocks hK (rfl) hP hD hS (Nat.le_of_ble_eq_true rfl) (Nat.le_of_ble_eq_true rfl) dX15_backTo_148
set_option maxHeartbeats 4000000 in
set_option maxRecDepth 100000 in
theorem k_time (l : Launch) (D : va_G) (cy : Nat → ClassId) (sa : Nat → Nat) (sv : Nat → Nat) (dc : Nat) (md mt : Nat) (sz : Nat) (lkp lcd mli mru lfn mhe mma lin lsc lva lpl lbr lwa mtc mtt : Nat) : Met l yX15_time (Cond.code yX15_time cX15_time 1 (some .int) :: ALL) ({ frames := 1, cells := 0, slots := 0, locals := 20 }) (zPc D vwCl (TY cy) (EM sa sv dc) [.ref md] [(md, .inr (21, [.int 0, .ref mt, .ref lkp, .ref lcd, .ref mli, .ref mru, .ref lfn, .ref mhe, .ref mma, .ref lin, .ref lsc, .ref lva, .ref lpl, .ref (sa 51), .ref lbr, .ref lwa, .int 45, .int (-1)])), (mt, .inr (20, [.ref mtc, .ref mtt, .int (-1), .int 0, .int (-1)]))] sz) (va_Qi (fun r _ => r = 0) (zB D vwCl (TY cy) (S := Unit) (fun u => []) (va_A [(md, .inr (21, [.int 0, .ref mt, .ref lkp, .ref lcd, .ref mli, .ref mru, .ref lfn, .ref mhe, .ref mma, .ref lin, .ref lsc, .ref lva, .ref lpl, .ref (sa 51), .ref lbr, .ref lwa, .int 45, .int (-1)])), (mt, .inr (20, [.ref mtc, .ref mtt, .int (-1), .int 0, .int (-1)]))] sz)) (va_A [(md, .inr (21, [.int 0, .ref mt, .ref lkp, .ref lcd, .ref mli, .ref mru, .ref lfn, .ref mhe, .ref mma, .ref lin, .ref lsc, .ref lva, .ref lpl, .ref (sa 51), .ref lbr, .ref lwa, .int 45, .int (-1)])), (mt, .inr (20, [.ref mtc, .ref mtt, .int (-1), .int 0, .int (-1)]))] sz)) 0 0 (va_A [(md, .inr (21, [.int 0, .ref mt, .ref lkp, .ref lcd, .ref mli, .ref mru, .ref lfn, .ref mhe, .ref mma, .ref lin, .ref lsc, .ref lva, .ref lpl, .ref (sa 51), .ref lbr, .ref lwa, .int 45, .int (-1)])), (mt, .inr (20, [.ref mtc, .ref mtt, .int (-1), .int 0, .int (-1)]))] sz) := by
  refine z_start (Qc := fun A => va_Qi (fun r _ => r = 0) (zB D vwCl (TY cy) (S := Unit) (fun u => []) A) A) PN_RX15 (Nat.le_of_ble_eq_true rfl) ?_
  intro p e s m below meth c A ls hx hb hr hml hts hown hlocks hin hA hP hK hD hS hEn hl
  have hown : s.vm.findClass RX15 = some m.cls := hown
  have hEm := hEn
  have hEn := hEn.1
  have hl : lv_has ls 1 [(0, .ref md)] := hl
  have hS0 := hS
  refine lv_aload_n hx hb dX15_time_0 rfl (lv_at hl 0 rfl) ?_
  have hPc := hP.sub (ws' := [(md, .inr (21, [.int 0, .ref mt, .ref lkp, .ref lcd, .ref mli, .ref mru, .ref lfn, .ref mhe, .ref mma, .ref lin, .ref lsc, .ref lva, .ref lpl, .ref (sa 51), .ref lbr, .ref lwa, .int 45, .int (-1)]))]) [0] rfl
  have hDc := hD.sub (ws' := [(md, .inr (21, [.int 0, .ref mt, .ref lkp, .ref lcd, .ref mli, .ref mru, .ref lfn, .ref mhe, .ref mma, .ref lin, .ref lsc, .ref lva, .ref lpl, .ref (sa 51), .ref lbr, .ref lwa, .int 45, .int (-1)]))]) [0] (by decide) rfl
  have hFc := va_free (wc := [(md, .inr (21, [.int 0, .ref mt, .ref lkp, .ref lcd, .ref mli, .ref mru, .ref lfn, .ref mhe, .ref mma, .ref lin, .ref lsc, .ref lva, .ref lpl, .ref (sa 51), .ref lbr, .ref lwa, .int 45, .int (-1)]))]) hD hS hA [0] rfl
  refine z_callvJ (wr := [(mt, .inr (20, [.ref mtc, .ref mtt, .int (-1), .int 0, .int (-1)]))]) (va_runV (As := []) (rest := []) ⟨hx, hb, hml, hown, hts⟩ (k_begins l D cy sa sv dc md _ mt lkp lcd mli mru lfn mhe mma lin lsc lva lpl lbr lwa) (cwV 0 hts GV_RX15_124 rfl rfl rfl ⟨rfl, HD_yX15_begins⟩ ⟨Nat.le_of_ble_eq_true rfl, Nat.le_of_ble_eq_true rfl⟩) ⟨z_blind EM_ok, va_recv hK hPc (ci := 21) (q0 := 0) rfl rfl, z_pre EM_ok hPc hK hDc hEm hS hFc⟩ rfl rfl hl.1 rfl (lv_room (Nat.le_of_ble_eq_true rfl)) dX15_time_1 ⟨Nat.le_of_ble_eq_true rfl, Nat.le_of_ble_eq_true rfl⟩) hP hD hS hA [0] [1] rfl rfl (by decide) (by decide) (fun u1 H locs hw_1 hP hD hS => ?_)
  have hP : va_P D vwCl [(mt, .inr (20, [.ref mtc, .ref mtt, .int (-1), .int 0, .int (-1)])), (md, .inr (21, [.int 0, .ref mt, .ref lkp, .ref lcd, .ref mli, .ref mru, .ref lfn, .ref mhe, .ref mma, .ref lin, .ref lsc, .ref lva, .ref lpl, .ref (sa 51), .ref lbr, .ref lwa, .int 45, .int (-1)]))] H := hP
  have hD : va_D A [(mt, .inr (20, [.ref mtc, .ref mtt, .int (-1), .int 0, .int (-1)])), (md, .inr (21, [.int 0, .ref mt, .ref lkp, .ref lcd, .ref mli, .ref mru, .ref lfn, .ref mhe, .ref mma, .ref lin, .ref lsc, .ref lva, .ref lpl, .ref (sa 51), .ref lbr, .ref lwa, .int 45, .int (-1)]))] := hD
  refine lv_aload_n hx hb dX15_time_4 rfl (lv_at hl 0 rfl) ?_
  refine va_get (D := D) (ci := 21) (v := .ref mt) (C := RX15) (T := TX15) (N := 18) hx hb hts inX15 hown hK hP 1 rfl rfl 1 (by decide) (hts _ K2087) (fun _ h9 => h9) rfl dX15_time_5 ?_
  refine va_getN (D := D) (ci := 20) (v := .int 0) (C := RX14) (T := TX14) (N := 5) hx hb hts inX14 hown hK hP 0 rfl rfl 3 (by decide) (va_Nw.use rfl (hEn.1 _ K2067)) (fun _ h9 => h9) rfl dX15_time_8 ?_
  have hP := hP.sub (ws' := []) [] rfl
  have hD := hD.sub (ws' := []) [] (by decide) rfl
  exact z_reti () hx hb hr rfl hlocks hK (rfl) hP hD hS (Nat.le_of_ble_eq_true rfl) (Nat.le_of_ble_eq_true rfl) dX15_time_11
set_option maxHeartbeats 4000000 in
set_option maxRecDepth 100000 in
theorem k_reason (l : Launch) (D : va_G) (cy : Nat → ClassId) (sa : Nat → Nat) (sv : Nat → Nat) (dc : Nat) (md : Nat) (sz : Nat) (mt lkp lcd mli mru lfn mhe mma lin lsc lva lpl lbr lwa : Nat) : Met l yX15_reason (Cond.code yX15_reason cX15_reason 1 (some .char) :: ALL) ({ frames := 1, cells := 0, slots := 0, locals := 20 }) (zPc D vwCl (TY cy) (EM sa sv dc) [.ref md] [(md, .inr (21, [.int 0, .ref mt, .ref lkp, .ref lcd, .ref mli, .ref mru, .ref lfn, .ref mhe, .ref mma, .ref lin, .ref lsc, .ref lva, .ref lpl, .ref (sa 51), .ref lbr, .ref lwa, .int 45, .int (-1)]))] sz) (va_Qi (fun r _ => r = 45) (zB D vwCl (TY cy) (S := Unit) (fun u => [(md, .inr (21, [.int 0, .ref mt, .ref lkp, .ref lcd, .ref mli, .ref mru, .ref lfn, .ref mhe, .ref mma, .ref lin, .ref lsc, .ref lva, .ref lpl, .ref (sa 51), .ref lbr, .ref lwa, .int 45, .int (-1)]))]) (va_A [(md, .inr (21, [.int 0, .ref mt, .ref lkp, .ref lcd, .ref mli, .ref mru, .ref lfn, .ref mhe, .ref mma, .ref lin, .ref lsc, .ref lva, .ref lpl, .ref (sa 51), .ref lbr, .ref lwa, .int 45, .int (-1)]))] sz)) (va_A [(md, .inr (21, [.int 0, .ref mt, .ref lkp, .ref lcd, .ref mli, .ref mru, .ref lfn, .ref mhe, .ref mma, .ref lin, .ref lsc, .ref lva, .ref lpl, .ref (sa 51), .ref lbr, .ref lwa, .int 45, .int (-1)]))] sz)) 0 0 (va_A [(md, .inr (21, [.int 0, .ref mt, .ref lkp, .ref lcd, .ref mli, .ref mru, .ref lfn, .ref mhe, .ref mma, .ref lin, .ref lsc, .ref lva, .ref lpl, .ref (sa 51), .ref lbr, .ref lwa, .int 45, .int (-1)]))] sz) := by
  refine z_start (Qc := fun A => va_Qi (fun r _ => r = 45) (zB D vwCl (TY cy) (S := Unit) (fun u => [(md, .inr (21, [.int 0, .ref mt, .ref lkp, .ref lcd, .ref mli, .ref mru, .ref lfn, .ref mhe, .ref mma, .ref lin, .ref lsc, .ref lva, .ref lpl, .ref (sa 51), .ref lbr, .ref lwa, .int 45, .int (-1)]))]) A) A) PN_RX15 (Nat.le_of_ble_eq_true rfl) ?_
  intro p e s m below meth c A ls hx hb hr hml hts hown hlocks hin hA hP hK hD hS hEn hl
  have hown : s.vm.findClass RX15 = some m.cls := hown
  have hEm := hEn
  have hEn := hEn.1
  have hl : lv_has ls 1 [(0, .ref md)] := hl
  have hS0 := hS
  refine lv_aload_n hx hb dX15_reason_0 rfl (lv_at hl 0 rfl) ?_
  refine z_callv (va_runV (As := []) (rest := []) ⟨hx, hb, hml, hown, hts⟩ (k_begins l D cy sa sv dc md _ mt lkp lcd mli mru lfn mhe mma lin lsc lva lpl lbr lwa) (cwV 0 hts GV_RX15_124 rfl rfl rfl ⟨rfl, HD_yX15_begins⟩ ⟨Nat.le_of_ble_eq_true rfl, Nat.le_of_ble_eq_true rfl⟩) ⟨z_blind EM_ok, va_recv hK hP (ci := 21) (q0 := 0) rfl rfl, z_pre EM_ok hP hK hD hEm hS (z_free hD hS hA)⟩ rfl rfl hl.1 rfl (lv_room (Nat.le_of_ble_eq_true rfl)) dX15_reason_1 ⟨Nat.le_of_ble_eq_true rfl, Nat.le_of_ble_eq_true rfl⟩) hD hS hA (fun u1 H locs hw_1 hP hD hS => ?_)
  have hP : va_P D vwCl [(md, .inr (21, [.int 0, .ref mt, .ref lkp, .ref lcd, .ref mli, .ref mru, .ref lfn, .ref mhe, .ref mma, .ref lin, .ref lsc, .ref lva, .ref lpl, .ref (sa 51), .ref lbr, .ref lwa, .int 45, .int (-1)]))] H := hP
  have hD : va_D A [(md, .inr (21, [.int 0, .ref mt, .ref lkp, .ref lcd, .ref mli, .ref mru, .ref lfn, .ref mhe, .ref mma, .ref lin, .ref lsc, .ref lva, .ref lpl, .ref (sa 51), .ref lbr, .ref lwa, .int 45, .int (-1)]))] := hD
  refine lv_aload_n hx hb dX15_reason_4 rfl (lv_at hl 0 rfl) ?_
  refine va_get (D := D) (ci := 21) (v := .int 45) (C := RX15) (T := TX15) (N := 18) hx hb hts inX15 hown hK hP 0 rfl rfl 16 (by decide) (hts _ K2102) (fun _ h9 => h9) rfl dX15_reason_5 ?_
  exact z_reti () hx hb hr rfl hlocks hK (rfl) hP hD hS (Nat.le_of_ble_eq_true rfl) (Nat.le_of_ble_eq_true rfl) dX15_reason_8
set_option maxHeartbeats 4000000 in
set_option maxRecDepth 100000 in
theorem k_isTrue (l : Launch) (D : va_G) (cy : Nat → ClassId) (sa : Nat → Nat) (sv : Nat → Nat) (dc : Nat) (md : Nat) (sz : Nat) (mt lkp lcd mli mru lfn mhe mma lin lsc lva lpl lbr lwa : Nat) : Met l yX15_isTrue (Cond.code yX15_isTrue cX15_isTrue 1 (some .boolean) :: ALL) ({ frames := 1, cells := 0, slots := 0, locals := 20 }) (zPc D vwCl (TY cy) (EM sa sv dc) [.ref md] [(md, .inr (21, [.int 0, .ref mt, .ref lkp, .ref lcd, .ref mli, .ref mru, .ref lfn, .ref mhe, .ref mma, .ref lin, .ref lsc, .ref lva, .ref lpl, .ref (sa 51), .ref lbr, .ref lwa, .int 45, .int (-1)]))] sz) (va_Qi (fun r _ => r = 1) (zB D vwCl (TY cy) (S := Unit) (fun u => []) (va_A [(md, .inr (21, [.int 0, .ref mt, .ref lkp, .ref lcd, .ref mli, .ref mru, .ref lfn, .ref mhe, .ref mma, .ref lin, .ref lsc, .ref lva, .ref lpl, .ref (sa 51), .ref lbr, .ref lwa, .int 45, .int (-1)]))] sz)) (va_A [(md, .inr (21, [.int 0, .ref mt, .ref lkp, .ref lcd, .ref mli, .ref mru, .ref lfn, .ref mhe, .ref mma, .ref lin, .ref lsc, .ref lva, .ref lpl, .ref (sa 51), .ref lbr, .ref lwa, .int 45, .int (-1)]))] sz)) 0 0 (va_A [(md, .inr (21, [.int 0, .ref mt, .ref lkp, .ref lcd, .ref mli, .ref mru, .ref lfn, .ref mhe, .ref mma, .ref lin, .ref lsc, .ref lva, .ref lpl, .ref (sa 51), .ref lbr, .ref lwa, .int 45, .int (-1)]))] sz) := by
  refine z_start (Qc := fun A => va_Qi (fun r _ => r = 1) (zB D vwCl (TY cy) (S := Unit) (fun u => []) A) A) PN_RX15 (Nat.le_of_ble_eq_true rfl) ?_
  intro p e s m below meth c A ls hx hb hr hml hts hown hlocks hin hA hP hK hD hS hEn hl
  have hown : s.vm.findClass RX15 = some m.cls := hown
  have hEm := hEn
  have hEn := hEn.1
  have hl : lv_has ls 1 [(0, .ref md)] := hl
  have hS0 := hS
  refine lv_aload_n hx hb dX15_isTrue_0 rfl (lv_at hl 0 rfl) ?_
  refine z_callv (va_runV (As := []) (rest := []) ⟨hx, hb, hml, hown, hts⟩ (k_begins l D cy sa sv dc md _ mt lkp lcd mli mru lfn mhe mma lin lsc lva lpl lbr lwa) (cwV 0 hts GV_RX15_124 rfl rfl rfl ⟨rfl, HD_yX15_begins⟩ ⟨Nat.le_of_ble_eq_true rfl, Nat.le_of_ble_eq_true rfl⟩) ⟨z_blind EM_ok, va_recv hK hP (ci := 21) (q0 := 0) rfl rfl, z_pre EM_ok hP hK hD hEm hS (z_free hD hS hA)⟩ rfl rfl hl.1 rfl (lv_room (Nat.le_of_ble_eq_true rfl)) dX15_isTrue_1 ⟨Nat.le_of_ble_eq_true rfl, Nat.le_of_ble_eq_true rfl⟩) hD hS hA (fun u1 H locs hw_1 hP hD hS => ?_)
  have hP : va_P D vwCl [(md, .inr (21, [.int 0, .ref mt, .ref lkp, .ref lcd, .ref mli, .ref mru, .ref lfn, .ref mhe, .ref mma, .ref lin, .ref lsc, .ref lva, .ref lpl, .ref (sa 51), .ref lbr, .ref lwa, .int 45, .int (-1)]))] H := hP
  have hD : va_D A [(md, .inr (21, [.int 0, .ref mt, .ref lkp, .ref lcd, .ref mli, .ref mru, .ref lfn, .ref mhe, .ref mma, .ref lin, .ref lsc, .ref lva, .ref lpl, .ref (sa 51), .ref lbr, .ref lwa, .int 45, .int (-1)]))] := hD
  refine lv_iconst (v := 1) hx hb dX15_isTrue_4 (by decide) ?_
  have hP := hP.sub (ws' := []) [] rfl
  have hD := hD.sub (ws' := []) [] (by decide) rfl
  exact z_reti () hx hb hr rfl hlocks hK (rfl) hP hD hS (Nat.le_of_ble_eq_true rfl) (Nat.le_of_ble_eq_true rfl) dX15_isTrue_5
set_option maxHeartbeats 4000000 in
set_option maxRecDepth 100000 in
theorem k_checksum (l : Launch) (D : va_G) (cy : Nat → ClassId) (sa : Nat → Nat) (sv : Nat → Nat) (dc : Nat) (md mt mtc mtt : Nat) (sz : Nat) (lkp lcd mli mru lfn mhe mma lin lsc lva lpl lbr lwa : Nat) : Met l yX15_checksum (Cond.code yX15_checksum cX15_checksum 9 (some .long) :: ALL) ({ frames := 3, cells := 1, slots := 4, locals := 53 }) (zPc D vwCl (TY cy) (EM sa sv dc) [.ref md] [(md, .inr (21, [.int 0, .ref mt, .ref lkp, .ref lcd, .ref mli, .ref mru, .ref lfn, .ref mhe, .ref mma, .ref lin, .ref lsc, .ref lva, .ref lpl, .ref (sa 51), .ref lbr, .ref lwa, .int 45, .int (-1)])), (mt, .inr (20, [.ref mtc, .ref mtt, .int (-1), .int 0, .int (-1)])), (mtc, .inl (cy 0, 16, .inl (fun _ => 0))), (mtt, .inr (5, [.int 0, .ref dc, .int 0]))] sz) (va_Ql (fun r _ => r = (-3594900192943074809)) (zB D vwCl (TY cy) (S := Unit) (fun u => []) (va_A [(md, .inr (21, [.int 0, .ref mt, .ref lkp, .ref lcd, .ref mli, .ref mru, .ref lfn, .ref mhe, .ref mma, .ref lin, .ref lsc, .ref lva, .ref lpl, .ref (sa 51), .ref lbr, .ref lwa, .int 45, .int (-1)])), (mt, .inr (20, [.ref mtc, .ref mtt, .int (-1), .int 0, .int (-1)])), (mtc, .inl (cy 0, 16, .inl (fun _ => 0))), (mtt, .inr (5, [.int 0, .ref dc, .int 0]))] sz)) (va_A [(md, .inr (21, [.int 0, .ref mt, .ref lkp, .ref lcd, .ref mli, .ref mru, .ref lfn, .ref mhe, .ref mma, .ref lin, .ref lsc, .ref lva, .ref lpl, .ref (sa 51), .ref lbr, .ref lwa, .int 45, .int (-1)])), (mt, .inr (20, [.ref mtc, .ref mtt, .int (-1), .int 0, .int (-1)])), (mtc, .inl (cy 0, 16, .inl (fun _ => 0))), (mtt, .inr (5, [.int 0, .ref dc, .int 0]))] sz)) 1 4 (va_A [(md, .inr (21, [.int 0, .ref mt, .ref lkp, .ref lcd, .ref mli, .ref mru, .ref lfn, .ref mhe, .ref mma, .ref lin, .ref lsc, .ref lva, .ref lpl, .ref (sa 51), .ref lbr, .ref lwa, .int 45, .int (-1)])), (mt, .inr (20, [.ref mtc, .ref mtt, .int (-1), .int 0, .int (-1)])), (mtc, .inl (cy 0, 16, .inl (fun _ => 0))), (mtt, .inr (5, [.int 0, .ref dc, .int 0]))] sz) := by
  refine z_start (Qc := fun A => va_Ql (fun r _ => r = (-3594900192943074809)) (zB D vwCl (TY cy) (S := Unit) (fun u => []) A) A) PN_RX15 (Nat.le_of_ble_eq_true rfl) ?_
  intro p e s m below meth c A ls hx hb hr hml hts hown hlocks hin hA hP hK hD hS hEn hl
  have hown : s.vm.findClass RX15 = some m.cls := hown
  have hEm := hEn
  have hEn := hEn.1
  have hl : lv_has ls 9 [(0, .ref md)] := hl
  have hS0 := hS
  refine lv_aload_n hx hb dX15_checksum_0 rfl (lv_at hl 0 rfl) ?_
  have hPc := hP.sub (ws' := [(md, .inr (21, [.int 0, .ref mt, .ref lkp, .ref lcd, .ref mli, .ref mru, .ref lfn, .ref mhe, .ref mma, .ref lin, .ref lsc, .ref lva, .ref lpl, .ref (sa 51), .ref lbr, .ref lwa, .int 45, .int (-1)]))]) [0] rfl
  have hDc := hD.sub (ws' := [(md, .inr (21, [.int 0, .ref mt, .ref lkp, .ref lcd, .ref mli, .ref mru, .ref lfn, .ref mhe, .ref mma, .ref lin, .ref lsc, .ref lva, .ref lpl, .ref (sa 51), .ref lbr, .ref lwa, .int 45, .int (-1)]))]) [0] (by decide) rfl
  have hFc := va_free (wc := [(md, .inr (21, [.int 0, .ref mt, .ref lkp, .ref lcd, .ref mli, .ref mru, .ref lfn, .ref mhe, .ref mma, .ref lin, .ref lsc, .ref lva, .ref lpl, .ref (sa 51), .ref lbr, .ref lwa, .int 45, .int (-1)]))]) hD hS hA [0] rfl
  refine z_callvJ (wr := [(mt, .inr (20, [.ref mtc, .ref mtt, .int (-1), .int 0, .int (-1)])), (mtc, .inl (cy 0, 16, .inl (fun _ => 0))), (mtt, .inr (5, [.int 0, .ref dc, .int 0]))]) (va_runV (As := []) (rest := []) ⟨hx, hb, hml, hown, hts⟩ (k_begins l D cy sa sv dc md _ mt lkp lcd mli mru lfn mhe mma lin lsc lva lpl lbr lwa) (cwV 0 hts GV_RX15_124 rfl rfl rfl ⟨rfl, HD_yX15_begins⟩ ⟨Nat.le_of_ble_eq_true rfl, Nat.le_of_ble_eq_true rfl⟩) ⟨z_blind EM_ok, va_recv hK hPc (ci := 21) (q0 := 0) rfl rfl, z_pre EM_ok hPc hK hDc hEm hS hFc⟩ rfl rfl hl.1 rfl (lv_room (Nat.le_of_ble_eq_true rfl)) dX15_checksum_1 ⟨Nat.le_of_ble_eq_true rfl, Nat.le_of_ble_eq_true rfl⟩) hP hD hS hA [0] [1, 2, 3] rfl rfl (by decide) (by decide) (fun u1 H locs hw_1 hP hD hS => ?_)
  have hP : va_P D vwCl [(mt, .inr (20, [.ref mtc, .ref mtt, .int (-1), .int 0, .int (-1)])), (mtc, .inl (cy 0, 16, .inl (fun _ => 0))), (mtt, .inr (5, [.int 0, .ref dc, .int 0])), (md, .inr (21, [.int 0, .ref mt, .ref lkp, .ref lcd, .ref mli, .ref mru, .ref lfn, .ref mhe, .ref mma, .ref lin, .ref lsc, .ref lva, .ref lpl, .ref (sa 51), .ref lbr, .ref lwa, .int 45, .int (-1)]))] H := hP
  have hD : va_D A [(mt, .inr (20, [.ref mtc, .ref mtt, .int (-1), .int 0, .int (-1)])), (mtc, .inl (cy 0, 16, .inl (fun _ => 0))), (mtt, .inr (5, [.int 0, .ref dc, .int 0])), (md, .inr (21, [.int 0, .ref mt, .ref lkp, .ref lcd, .ref mli, .ref mru, .ref lfn, .ref mhe, .ref mma, .ref lin, .ref lsc, .ref lva, .ref lpl, .ref (sa 51), .ref lbr, .ref lwa, .int 45, .int (-1)]))] := hD
  refine lv_ldc2 hx hb hown (hts _ K2868) dX15_checksum_4 ?_
  refine lv_lstore_n (lv' := [(1, .long 7), (0, .ref md)]) hx hb dX15_checksum_7 rfl hl (by decide) rfl (fun ls hl => ?_)
  refine lv_aload_n hx hb dX15_checksum_8 rfl (lv_at hl 1 rfl) ?_
  refine va_get (D := D) (ci := 21) (v := .ref mt) (C := RX15) (T := TX15) (N := 18) hx hb hts inX15 hown hK hP 3 rfl rfl 1 (by decide) (hts _ K2087) (fun _ h9 => h9) rfl dX15_checksum_9 ?_
  refine va_getN (D := D) (ci := 20) (v := .ref mtc) (C := RX14) (T := TX14) (N := 5) hx hb hts inX14 hown hK hP 0 rfl rfl 0 (by decide) (va_Nw.use rfl (hEn.1 _ K2061)) (fun _ h9 => h9) rfl dX15_checksum_12 ?_
  refine lv_astore_n (lv' := [(3, .ref mtc), (1, .long 7), (0, .ref md)]) hx hb dX15_checksum_15 rfl hl (by decide) rfl (fun ls hl => ?_)
  refine lv_aload_n hx hb dX15_checksum_16 rfl (lv_at hl 0 rfl) ?_
  refine va_alen (v := 16) hx hb hK hP 1 0 rfl rfl rfl dX15_checksum_17 ?_
  refine lv_istore (lv' := [(4, .int 16), (3, .ref mtc), (1, .long 7), (0, .ref md)]) hx hb dX15_checksum_18 hl (by decide) rfl (fun ls hl => ?_)
  refine lv_iconst (v := 0) hx hb dX15_checksum_20 (by decide) ?_
  refine lv_istore (lv' := [(5, .int 0), (4, .int 16), (3, .ref mtc), (1, .long 7), (0, .ref md)]) hx hb dX15_checksum_21 hl (by decide) rfl (fun ls hl => ?_)
  refine lv_iload hx hb dX15_checksum_23 (lv_at hl 0 rfl) ?_
  refine lv_iload hx hb dX15_checksum_25 (lv_at hl 1 rfl) ?_
  refine lv_icmp_ge (tgt := 52) hx hb dX15_checksum_27 (by decide) (fun c_27 => absurd c_27 (by decide)) (fun _ => ?_)
  refine lv_aload_n hx hb dX15_checksum_30 rfl (lv_at hl 2 rfl) ?_
  refine lv_iload hx hb dX15_checksum_31 (lv_at hl 0 rfl) ?_
  refine va_iald hx hb hK hP 1 0 rfl rfl (by unfold vp_in; decide) dX15_checksum_33 ?_
  refine W.eq (g2 := F0 m 34 ls [.int 0]) rfl ?_
  refine lv_istore (lv' := [(6, .int 0), (5, .int 0), (4, .int 16), (3, .ref mtc), (1, .long 7), (0, .ref md)]) hx hb dX15_checksum_34 hl (by decide) rfl (fun ls hl => ?_)
  refine lv_ldc2 hx hb hown (hts _ K2869) dX15_checksum_36 ?_
  refine lv_lload_n hx hb dX15_checksum_39 rfl (lv_at hl 4 rfl) ?_
  refine lv_lmul hx hb dX15_checksum_40 ?_
  refine lv_topl (fun v_1 hv_1 => ?_)
  obtain rfl : v_1 = 217 := hv_1.trans (by decide)
  refine lv_iload hx hb dX15_checksum_41 (lv_at hl 0 rfl) ?_
  refine lv_i2l (v := 0) hx hb dX15_checksum_43 (by decide) ?_
  refine lv_ladd hx hb dX15_checksum_44 ?_
  refine lv_topl (fun v_2 hv_2 => ?_)
  obtain rfl : v_2 = 217 := hv_2.trans (by decide)
  refine lv_lstore_n (lv' := [(1, .long 217), (6, .int 0), (5, .int 0), (4, .int 16), (3, .ref mtc), (0, .ref md)]) hx hb dX15_checksum_45 rfl hl (by decide) rfl (fun ls hl => ?_)
  refine lv_iinc (v := 1) (lv' := [(5, .int 1), (1, .long 217), (6, .int 0), (4, .int 16), (3, .ref mtc), (0, .ref md)]) hx hb dX15_checksum_46 hl (k := 2) rfl (by decide) (by decide) rfl (fun ls hl => ?_)
  refine lv_goto (tgt := 23) hx hb dX15_checksum_49 (by decide) ?_
  refine lv_iload hx hb dX15_checksum_23 (lv_at hl 0 rfl) ?_
  refine lv_iload hx hb dX15_checksum_25 (lv_at hl 3 rfl) ?_
  refine lv_icmp_ge (tgt := 52) hx hb dX15_checksum_27 (by decide) (fun c_27 => absurd c_27 (by decide)) (fun _ => ?_)
  refine lv_aload_n hx hb dX15_checksum_30 rfl (lv_at hl 4 rfl) ?_
  refine lv_iload hx hb dX15_checksum_31 (lv_at hl 0 rfl) ?_
  refine va_iald hx hb hK hP 1 0 rfl rfl (by unfold vp_in; decide) dX15_checksum_33 ?_
  refine W.eq (g2 := F0 m 34 ls [.int 0]) rfl ?_
  refine lv_istore (lv' := [(6, .int 0), (5, .int 1), (1, .long 217), (4, .int 16), (3, .ref mtc), (0, .ref md)]) hx hb dX15_checksum_34 hl (by decide) rfl (fun ls hl => ?_)
  refine lv_ldc2 hx hb hown (hts _ K2869) dX15_checksum_36 ?_
  refine lv_lload_n hx hb dX15_checksum_39 rfl (lv_at hl 2 rfl) ?_
  refine lv_lmul hx hb dX15_checksum_40 ?_
  refine lv_topl (fun v_3 hv_3 => ?_)
  obtain rfl : v_3 = 6727 := hv_3.trans (by decide)
  refine lv_iload hx hb dX15_checksum_41 (lv_at hl 0 rfl) ?_
  refine lv_i2l (v := 0) hx hb dX15_checksum_43 (by decide) ?_
  refine lv_ladd hx hb dX15_checksum_44 ?_
  refine lv_topl (fun v_4 hv_4 => ?_)
  obtain rfl : v_4 = 6727 := hv_4.trans (by decide)
  refine lv_lstore_n (lv' := [(1, .long 6727), (6, .int 0), (5, .int 1), (4, .int 16), (3, .ref mtc), (0, .ref md)]) hx hb dX15_checksum_45 rfl hl (by decide) rfl (fun ls hl => ?_)
  refine lv_iinc (v := 2) (lv' := [(5, .int 2), (1, .long 6727), (6, .int 0), (4, .int 16), (3, .ref mtc), (0, .ref md)]) hx hb dX15_checksum_46 hl (k := 2) rfl (by decide) (by decide) rfl (fun ls hl => ?_)
  refine lv_goto (tgt := 23) hx hb dX15_checksum_49 (by decide) ?_
  refine lv_iload hx hb dX15_checksum_23 (lv_at hl 0 rfl) ?_
  refine lv_iload hx hb dX15_checksum_25 (lv_at hl 3 rfl) ?_
  refine lv_icmp_ge (tgt := 52) hx hb dX15_checksum_27 (by decide) (fun c_27 => absurd c_27 (by decide)) (fun _ => ?_)
  refine lv_aload_n hx hb dX15_checksum_30 rfl (lv_at hl 4 rfl) ?_
  refine lv_iload hx hb dX15_checksum_31 (lv_at hl 0 rfl) ?_
  refine va_iald hx hb hK hP 1 0 rfl rfl (by unfold vp_in; decide) dX15_checksum_33 ?_
  refine W.eq (g2 := F0 m 34 ls [.int 0]) rfl ?_
  refine lv_istore (lv' := [(6, .int 0), (5, .int 2), (1, .long 6727), (4, .int 16), (3, .ref mtc), (0, .ref md)]) hx hb dX15_checksum_34 hl (by decide) rfl (fun ls hl => ?_)
  refine lv_ldc2 hx hb hown (hts _ K2869) dX15_checksum_36 ?_
  refine lv_lload_n hx hb dX15_checksum_39 rfl (lv_at hl 2 rfl) ?_
  refine lv_lmul hx hb dX15_checksum_40 ?_
  refine lv_topl (fun v_5 hv_5 => ?_)
  obtain rfl : v_5 = 208537 := hv_5.trans (by decide)
  refine lv_iload hx hb dX15_checksum_41 (lv_at hl 0 rfl) ?_
  refine lv_i2l (v := 0) hx hb dX15_checksum_43 (by decide) ?_
  refine lv_ladd hx hb dX15_checksum_44 ?_
  refine lv_topl (fun v_6 hv_6 => ?_)
  obtain rfl : v_6 = 208537 := hv_6.trans (by decide)
  refine lv_lstore_n (lv' := [(1, .long 208537), (6, .int 0), (5, .int 2), (4, .int 16), (3, .ref mtc), (0, .ref md)]) hx hb dX15_checksum_45 rfl hl (by decide) rfl (fun ls hl => ?_)
  refine lv_iinc (v := 3) (lv' := [(5, .int 3), (1, .long 208537), (6, .int 0), (4, .int 16), (3, .ref mtc), (0, .ref md)]) hx hb dX15_checksum_46 hl (k := 2) rfl (by decide) (by decide) rfl (fun ls hl => ?_)
  refine lv_goto (tgt := 23) hx hb dX15_checksum_49 (by decide) ?_
  refine lv_iload hx hb dX15_checksum_23 (lv_at hl 0 rfl) ?_
  refine lv_iload hx hb dX15_checksum_25 (lv_at hl 3 rfl) ?_
  refine lv_icmp_ge (tgt := 52) hx hb dX15_checksum_27 (by decide) (fun c_27 => absurd c_27 (by decide)) (fun _ => ?_)
  refine lv_aload_n hx hb dX15_checksum_30 rfl (lv_at hl 4 rfl) ?_
  refine lv_iload hx hb dX15_checksum_31 (lv_at hl 0 rfl) ?_
  refine va_iald hx hb hK hP 1 0 rfl rfl (by unfold vp_in; decide) dX15_checksum_33 ?_
  refine W.eq (g2 := F0 m 34 ls [.int 0]) rfl ?_
  refine lv_istore (lv' := [(6, .int 0), (5, .int 3), (1, .long 208537), (4, .int 16), (3, .ref mtc), (0, .ref md)]) hx hb dX15_checksum_34 hl (by decide) rfl (fun ls hl => ?_)
  refine lv_ldc2 hx hb hown (hts _ K2869) dX15_checksum_36 ?_
  refine lv_lload_n hx hb dX15_checksum_39 rfl (lv_at hl 2 rfl) ?_
  refine lv_lmul hx hb dX15_checksum_40 ?_
  refine lv_topl (fun v_7 hv_7 => ?_)
  obtain rfl : v_7 = 6464647 := hv_7.trans (by decide)
  refine lv_iload hx hb dX15_checksum_41 (lv_at hl 0 rfl) ?_
  refine lv_i2l (v := 0) hx hb dX15_checksum_43 (by decide) ?_
  refine lv_ladd hx hb dX15_checksum_44 ?_
  refine lv_topl (fun v_8 hv_8 => ?_)
  obtain rfl : v_8 = 6464647 := hv_8.trans (by decide)
  refine lv_lstore_n (lv' := [(1, .long 6464647), (6, .int 0), (5, .int 3), (4, .int 16), (3, .ref mtc), (0, .ref md)]) hx hb dX15_checksum_45 rfl hl (by decide) rfl (fun ls hl => ?_)
  refine lv_iinc (v := 4) (lv' := [(5, .int 4), (1, .long 6464647), (6, .int 0), (4, .int 16), (3, .ref mtc), (0, .ref md)]) hx hb dX15_checksum_46 hl (k := 2) rfl (by decide) (by decide) rfl (fun ls hl => ?_)
  refine lv_goto (tgt := 23) hx hb dX15_checksum_49 (by decide) ?_
  refine lv_iload hx hb dX15_checksum_23 (lv_at hl 0 rfl) ?_
  refine lv_iload hx hb dX15_checksum_25 (lv_at hl 3 rfl) ?_
  refine lv_icmp_ge (tgt := 52) hx hb dX15_checksum_27 (by decide) (fun c_27 => absurd c_27 (by decide)) (fun _ => ?_)
  refine lv_aload_n hx hb dX15_checksum_30 rfl (lv_at hl 4 rfl) ?_
  refine lv_iload hx hb dX15_checksum_31 (lv_at hl 0 rfl) ?_
  refine va_iald hx hb hK hP 1 0 rfl rfl (by unfold vp_in; decide) dX15_checksum_33 ?_
  refine W.eq (g2 := F0 m 34 ls [.int 0]) rfl ?_
  refine lv_istore (lv' := [(6, .int 0), (5, .int 4), (1, .long 6464647), (4, .int 16), (3, .ref mtc), (0, .ref md)]) hx hb dX15_checksum_34 hl (by decide) rfl (fun ls hl => ?_)
  refine lv_ldc2 hx hb hown (hts _ K2869) dX15_checksum_36 ?_
  refine lv_lload_n hx hb dX15_checksum_39 rfl (lv_at hl 2 rfl) ?_
  refine lv_lmul hx hb dX15_checksum_40 ?_
  refine lv_topl (fun v_9 hv_9 => ?_)
  obtain rfl : v_9 = 200404057 := hv_9.trans (by decide)
  refine lv_iload hx hb dX15_checksum_41 (lv_at hl 0 rfl) ?_
  refine lv_i2l (v := 0) hx hb dX15_checksum_43 (by decide) ?_
  refine lv_ladd hx hb dX15_checksum_44 ?_
  refine lv_topl (fun v_10 hv_10 => ?_)
  obtain rfl : v_10 = 200404057 := hv_10.trans (by decide)
  refine lv_lstore_n (lv' := [(1, .long 200404057), (6, .int 0), (5, .int 4), (4, .int 16), (3, .ref mtc), (0, .ref md)]) hx hb dX15_checksum_45 rfl hl (by decide) rfl (fun ls hl => ?_)
  refine lv_iinc (v := 5) (lv' := [(5, .int 5), (1, .long 200404057), (6, .int 0), (4, .int 16), (3, .ref mtc), (0, .ref md)]) hx hb dX15_checksum_46 hl (k := 2) rfl (by decide) (by decide) rfl (fun ls hl => ?_)
  refine lv_goto (tgt := 23) hx hb dX15_checksum_49 (by decide) ?_
  refine lv_iload hx hb dX15_checksum_23 (lv_at hl 0 rfl) ?_
  refine lv_iload hx hb dX15_checksum_25 (lv_at hl 3 rfl) ?_
  refine lv_icmp_ge (tgt := 52) hx hb dX15_checksum_27 (by decide) (fun c_27 => absurd c_27 (by decide)) (fun _ => ?_)
  refine lv_aload_n hx hb dX15_checksum_30 rfl (lv_at hl 4 rfl) ?_
  refine lv_iload hx hb dX15_checksum_31 (lv_at hl 0 rfl) ?_
  refine va_iald hx hb hK hP 1 0 rfl rfl (by unfold vp_in; decide) dX15_checksum_33 ?_
  refine W.eq (g2 := F0 m 34 ls [.int 0]) rfl ?_
  refine lv_istore (lv' := [(6, .int 0), (5, .int 5), (1, .long 200404057), (4, .int 16), (3, .ref mtc), (0, .ref md)]) hx hb dX15_checksum_34 hl (by decide) rfl (fun ls hl => ?_)
  refine lv_ldc2 hx hb hown (hts _ K2869) dX15_checksum_36 ?_
  refine lv_lload_n hx hb dX15_checksum_39 rfl (lv_at hl 2 rfl) ?_
  refine lv_lmul hx hb dX15_checksum_40 ?_
  refine lv_topl (fun v_11 hv_11 => ?_)
  obtain rfl : v_11 = 6212525767 := hv_11.trans (by decide)
  refine lv_iload hx hb dX15_checksum_41 (lv_at hl 0 rfl) ?_
  refine lv_i2l (v := 0) hx hb dX15_checksum_43 (by decide) ?_
  refine lv_ladd hx hb dX15_checksum_44 ?_
  refine lv_topl (fun v_12 hv_12 => ?_)
  obtain rfl : v_12 = 6212525767 := hv_12.trans (by decide)
  refine lv_lstore_n (lv' := [(1, .long 6212525767), (6, .int 0), (5, .int 5), (4, .int 16), (3, .ref mtc), (0, .ref md)]) hx hb dX15_checksum_45 rfl hl (by decide) rfl (fun ls hl => ?_)
  refine lv_iinc (v := 6) (lv' := [(5, .int 6), (1, .long 6212525767), (6, .int 0), (4, .int 16), (3, .ref mtc), (0, .ref md)]) hx hb dX15_checksum_46 hl (k := 2) rfl (by decide) (by decide) rfl (fun ls hl => ?_)
  refine lv_goto (tgt := 23) hx hb dX15_checksum_49 (by decide) ?_
  refine lv_iload hx hb dX15_checksum_23 (lv_at hl 0 rfl) ?_
  refine lv_iload hx hb dX15_checksum_25 (lv_at hl 3 rfl) ?_
  refine lv_icmp_ge (tgt := 52) hx hb dX15_checksum_27 (by decide) (fun c_27 => absurd c_27 (by decide)) (fun _ => ?_)
  refine lv_aload_n hx hb dX15_checksum_30 rfl (lv_at hl 4 rfl) ?_
  refine lv_iload hx hb dX15_checksum_31 (lv_at hl 0 rfl) ?_
  refine va_iald hx hb hK hP 1 0 rfl rfl (by unfold vp_in; decide) dX15_checksum_33 ?_
  refine W.eq (g2 := F0 m 34 ls [.int 0]) rfl ?_
  refine lv_istore (lv' := [(6, .int 0), (5, .int 6), (1, .long 6212525767), (4, .int 16), (3, .ref mtc), (0, .ref md)]) hx hb dX15_checksum_34 hl (by decide) rfl (fun ls hl => ?_)
  refine lv_ldc2 hx hb hown (hts _ K2869) dX15_checksum_36 ?_
  refine lv_lload_n hx hb dX15_checksum_39 rfl (lv_at hl 2 rfl) ?_
  refine lv_lmul hx hb dX15_checksum_40 ?_
  refine lv_topl (fun v_13 hv_13 => ?_)
  obtain rfl : v_13 = 192588298777 := hv_13.trans (by decide)
  refine lv_iload hx hb dX15_checksum_41 (lv_at hl 0 rfl) ?_
  refine lv_i2l (v := 0) hx hb dX15_checksum_43 (by decide) ?_
  refine lv_ladd hx hb dX15_checksum_44 ?_
  refine lv_topl (fun v_14 hv_14 => ?_)
  obtain rfl : v_14 = 192588298777 := hv_14.trans (by decide)
  refine lv_lstore_n (lv' := [(1, .long 192588298777), (6, .int 0), (5, .int 6), (4, .int 16), (3, .ref mtc), (0, .ref md)]) hx hb dX15_checksum_45 rfl hl (by decide) rfl (fun ls hl => ?_)
  refine lv_iinc (v := 7) (lv' := [(5, .int 7), (1, .long 192588298777), (6, .int 0), (4, .int 16), (3, .ref mtc), (0, .ref md)]) hx hb dX15_checksum_46 hl (k := 2) rfl (by decide) (by decide) rfl (fun ls hl => ?_)
  refine lv_goto (tgt := 23) hx hb dX15_checksum_49 (by decide) ?_
  refine lv_iload hx hb dX15_checksum_23 (lv_at hl 0 rfl) ?_
  refine lv_iload hx hb dX15_checksum_25 (lv_at hl 3 rfl) ?_
  refine lv_icmp_ge (tgt := 52) hx hb dX15_checksum_27 (by decide) (fun c_27 => absurd c_27 (by decide)) (fun _ => ?_)
  refine lv_aload_n hx hb dX15_checksum_30 rfl (lv_at hl 4 rfl) ?_
  refine lv_iload hx hb dX15_checksum_31 (lv_at hl 0 rfl) ?_
  refine va_iald hx hb hK hP 1 0 rfl rfl (by unfold vp_in; decide) dX15_checksum_33 ?_
  refine W.eq (g2 := F0 m 34 ls [.int 0]) rfl ?_
  refine lv_istore (lv' := [(6, .int 0), (5, .int 7), (1, .long 192588298777), (4, .int 16), (3, .ref mtc), (0, .ref md)]) hx hb dX15_checksum_34 hl (by decide) rfl (fun ls hl => ?_)
  refine lv_ldc2 hx hb hown (hts _ K2869) dX15_checksum_36 ?_
  refine lv_lload_n hx hb dX15_checksum_39 rfl (lv_at hl 2 rfl) ?_
  refine lv_lmul hx hb dX15_checksum_40 ?_
  refine lv_topl (fun v_15 hv_15 => ?_)
  obtain rfl : v_15 = 5970237262087 := hv_15.trans (by decide)
  refine lv_iload hx hb dX15_checksum_41 (lv_at hl 0 rfl) ?_
  refine lv_i2l (v := 0) hx hb dX15_checksum_43 (by decide) ?_
  refine lv_ladd hx hb dX15_checksum_44 ?_
  refine lv_topl (fun v_16 hv_16 => ?_)
  obtain rfl : v_16 = 5970237262087 := hv_16.trans (by decide)
  refine lv_lstore_n (lv' := [(1, .long 5970237262087), (6, .int 0), (5, .int 7), (4, .int 16), (3, .ref mtc), (0, .ref md)]) hx hb dX15_checksum_45 rfl hl (by decide) rfl (fun ls hl => ?_)
  refine lv_iinc (v := 8) (lv' := [(5, .int 8), (1, .long 5970237262087), (6, .int 0), (4, .int 16), (3, .ref mtc), (0, .ref md)]) hx hb dX15_checksum_46 hl (k := 2) rfl (by decide) (by decide) rfl (fun ls hl => ?_)
  refine lv_goto (tgt := 23) hx hb dX15_checksum_49 (by decide) ?_
  refine lv_iload hx hb dX15_checksum_23 (lv_at hl 0 rfl) ?_
  refine lv_iload hx hb dX15_checksum_25 (lv_at hl 3 rfl) ?_
  refine lv_icmp_ge (tgt := 52) hx hb dX15_checksum_27 (by decide) (fun c_27 => absurd c_27 (by decide)) (fun _ => ?_)
  refine lv_aload_n hx hb dX15_checksum_30 rfl (lv_at hl 4 rfl) ?_
  refine lv_iload hx hb dX15_checksum_31 (lv_at hl 0 rfl) ?_
  refine va_iald hx hb hK hP 1 0 rfl rfl (by unfold vp_in; decide) dX15_checksum_33 ?_
  refine W.eq (g2 := F0 m 34 ls [.int 0]) rfl ?_
  refine lv_istore (lv' := [(6, .int 0), (5, .int 8), (1, .long 5970237262087), (4, .int 16), (3, .ref mtc), (0, .ref md)]) hx hb dX15_checksum_34 hl (by decide) rfl (fun ls hl => ?_)
  refine lv_ldc2 hx hb hown (hts _ K2869) dX15_checksum_36 ?_
  refine lv_lload_n hx hb dX15_checksum_39 rfl (lv_at hl 2 rfl) ?_
  refine lv_lmul hx hb dX15_checksum_40 ?_
  refine lv_topl (fun v_17 hv_17 => ?_)
  obtain rfl : v_17 = 185077355124697 := hv_17.trans (by decide)
  refine lv_iload hx hb dX15_checksum_41 (lv_at hl 0 rfl) ?_
  refine lv_i2l (v := 0) hx hb dX15_checksum_43 (by decide) ?_
  refine lv_ladd hx hb dX15_checksum_44 ?_
  refine lv_topl (fun v_18 hv_18 => ?_)
  obtain rfl : v_18 = 185077355124697 := hv_18.trans (by decide)
  refine lv_lstore_n (lv' := [(1, .long 185077355124697), (6, .int 0), (5, .int 8), (4, .int 16), (3, .ref mtc), (0, .ref md)]) hx hb dX15_checksum_45 rfl hl (by decide) rfl (fun ls hl => ?_)
  refine lv_iinc (v := 9) (lv' := [(5, .int 9), (1, .long 185077355124697), (6, .int 0), (4, .int 16), (3, .ref mtc), (0, .ref md)]) hx hb dX15_checksum_46 hl (k := 2) rfl (by decide) (by decide) rfl (fun ls hl => ?_)
  refine lv_goto (tgt := 23) hx hb dX15_checksum_49 (by decide) ?_
  refine lv_iload hx hb dX15_checksum_23 (lv_at hl 0 rfl) ?_
  refine lv_iload hx hb dX15_checksum_25 (lv_at hl 3 rfl) ?_
  refine lv_icmp_ge (tgt := 52) hx hb dX15_checksum_27 (by decide) (fun c_27 => absurd c_27 (by decide)) (fun _ => ?_)
  refine lv_aload_n hx hb dX15_checksum_30 rfl (lv_at hl 4 rfl) ?_
  refine lv_iload hx hb dX15_checksum_31 (lv_at hl 0 rfl) ?_
  refine va_iald hx hb hK hP 1 0 rfl rfl (by unfold vp_in; decide) dX15_checksum_33 ?_
  refine W.eq (g2 := F0 m 34 ls [.int 0]) rfl ?_
  refine lv_istore (lv' := [(6, .int 0), (5, .int 9), (1, .long 185077355124697), (4, .int 16), (3, .ref mtc), (0, .ref md)]) hx hb dX15_checksum_34 hl (by decide) rfl (fun ls hl => ?_)
  refine lv_ldc2 hx hb hown (hts _ K2869) dX15_checksum_36 ?_
  refine lv_lload_n hx hb dX15_checksum_39 rfl (lv_at hl 2 rfl) ?_
  refine lv_lmul hx hb dX15_checksum_40 ?_
  refine lv_topl (fun v_19 hv_19 => ?_)
  obtain rfl : v_19 = 5737398008865607 := hv_19.trans (by decide)
  refine lv_iload hx hb dX15_checksum_41 (lv_at hl 0 rfl) ?_
  refine lv_i2l (v := 0) hx hb dX15_checksum_43 (by decide) ?_
  refine lv_ladd hx hb dX15_checksum_44 ?_
  refine lv_topl (fun v_20 hv_20 => ?_)
  obtain rfl : v_20 = 5737398008865607 := hv_20.trans (by decide)
  refine lv_lstore_n (lv' := [(1, .long 5737398008865607), (6, .int 0), (5, .int 9), (4, .int 16), (3, .ref mtc), (0, .ref md)]) hx hb dX15_checksum_45 rfl hl (by decide) rfl (fun ls hl => ?_)
  refine lv_iinc (v := 10) (lv' := [(5, .int 10), (1, .long 5737398008865607), (6, .int 0), (4, .int 16), (3, .ref mtc), (0, .ref md)]) hx hb dX15_checksum_46 hl (k := 2) rfl (by decide) (by decide) rfl (fun ls hl => ?_)
  refine lv_goto (tgt := 23) hx hb dX15_checksum_49 (by decide) ?_
  refine lv_iload hx hb dX15_checksum_23 (lv_at hl 0 rfl) ?_
  refine lv_iload hx hb dX15_checksum_25 (lv_at hl 3 rfl) ?_
  refine lv_icmp_ge (tgt := 52) hx hb dX15_checksum_27 (by decide) (fun c_27 => absurd c_27 (by decide)) (fun _ => ?_)
  refine lv_aload_n hx hb dX15_checksum_30 rfl (lv_at hl 4 rfl) ?_
  refine lv_iload hx hb dX15_checksum_31 (lv_at hl 0 rfl) ?_
  refine va_iald hx hb hK hP 1 0 rfl rfl (by unfold vp_in; decide) dX15_checksum_33 ?_
  refine W.eq (g2 := F0 m 34 ls [.int 0]) rfl ?_
  refine lv_istore (lv' := [(6, .int 0), (5, .int 10), (1, .long 5737398008865607), (4, .int 16), (3, .ref mtc), (0, .ref md)]) hx hb dX15_checksum_34 hl (by decide) rfl (fun ls hl => ?_)
  refine lv_ldc2 hx hb hown (hts _ K2869) dX15_checksum_36 ?_
  refine lv_lload_n hx hb dX15_checksum_39 rfl (lv_at hl 2 rfl) ?_
  refine lv_lmul hx hb dX15_checksum_40 ?_
  refine lv_topl (fun v_21 hv_21 => ?_)
  obtain rfl : v_21 = 177859338274833817 := hv_21.trans (by decide)
  refine lv_iload hx hb dX15_checksum_41 (lv_at hl 0 rfl) ?_
  refine lv_i2l (v := 0) hx hb dX15_checksum_43 (by decide) ?_
  refine lv_ladd hx hb dX15_checksum_44 ?_
  refine lv_topl (fun v_22 hv_22 => ?_)
  obtain rfl : v_22 = 177859338274833817 := hv_22.trans (by decide)
  refine lv_lstore_n (lv' := [(1, .long 177859338274833817), (6, .int 0), (5, .int 10), (4, .int 16), (3, .ref mtc), (0, .ref md)]) hx hb dX15_checksum_45 rfl hl (by decide) rfl (fun ls hl => ?_)
  refine lv_iinc (v := 11) (lv' := [(5, .int 11), (1, .long 177859338274833817), (6, .int 0), (4, .int 16), (3, .ref mtc), (0, .ref md)]) hx hb dX15_checksum_46 hl (k := 2) rfl (by decide) (by decide) rfl (fun ls hl => ?_)
  refine lv_goto (tgt := 23) hx hb dX15_checksum_49 (by decide) ?_
  refine lv_iload hx hb dX15_checksum_23 (lv_at hl 0 rfl) ?_
  refine lv_iload hx hb dX15_checksum_25 (lv_at hl 3 rfl) ?_
  refine lv_icmp_ge (tgt := 52) hx hb dX15_checksum_27 (by decide) (fun c_27 => absurd c_27 (by decide)) (fun _ => ?_)
  refine lv_aload_n hx hb dX15_checksum_30 rfl (lv_at hl 4 rfl) ?_
  refine lv_iload hx hb dX15_checksum_31 (lv_at hl 0 rfl) ?_
  refine va_iald hx hb hK hP 1 0 rfl rfl (by unfold vp_in; decide) dX15_checksum_33 ?_
  refine W.eq (g2 := F0 m 34 ls [.int 0]) rfl ?_
  refine lv_istore (lv' := [(6, .int 0), (5, .int 11), (1, .long 177859338274833817), (4, .int 16), (3, .ref mtc), (0, .ref md)]) hx hb dX15_checksum_34 hl (by decide) rfl (fun ls hl => ?_)
  refine lv_ldc2 hx hb hown (hts _ K2869) dX15_checksum_36 ?_
  refine lv_lload_n hx hb dX15_checksum_39 rfl (lv_at hl 2 rfl) ?_
  refine lv_lmul hx hb dX15_checksum_40 ?_
  refine lv_topl (fun v_23 hv_23 => ?_)
  obtain rfl : v_23 = 5513639486519848327 := hv_23.trans (by decide)
  refine lv_iload hx hb dX15_checksum_41 (lv_at hl 0 rfl) ?_
  refine lv_i2l (v := 0) hx hb dX15_checksum_43 (by decide) ?_
  refine lv_ladd hx hb dX15_checksum_44 ?_
  refine lv_topl (fun v_24 hv_24 => ?_)
  obtain rfl : v_24 = 5513639486519848327 := hv_24.trans (by decide)
  refine lv_lstore_n (lv' := [(1, .long 5513639486519848327), (6, .int 0), (5, .int 11), (4, .int 16), (3, .ref mtc), (0, .ref md)]) hx hb dX15_checksum_45 rfl hl (by decide) rfl (fun ls hl => ?_)
  refine lv_iinc (v := 12) (lv' := [(5, .int 12), (1, .long 5513639486519848327), (6, .int 0), (4, .int 16), (3, .ref mtc), (0, .ref md)]) hx hb dX15_checksum_46 hl (k := 2) rfl (by decide) (by decide) rfl (fun ls hl => ?_)
  refine lv_goto (tgt := 23) hx hb dX15_checksum_49 (by decide) ?_
  refine lv_iload hx hb dX15_checksum_23 (lv_at hl 0 rfl) ?_
  refine lv_iload hx hb dX15_checksum_25 (lv_at hl 3 rfl) ?_
  refine lv_icmp_ge (tgt := 52) hx hb dX15_checksum_27 (by decide) (fun c_27 => absurd c_27 (by decide)) (fun _ => ?_)
  refine lv_aload_n hx hb dX15_checksum_30 rfl (lv_at hl 4 rfl) ?_
  refine lv_iload hx hb dX15_checksum_31 (lv_at hl 0 rfl) ?_
  refine va_iald hx hb hK hP 1 0 rfl rfl (by unfold vp_in; decide) dX15_checksum_33 ?_
  refine W.eq (g2 := F0 m 34 ls [.int 0]) rfl ?_
  refine lv_istore (lv' := [(6, .int 0), (5, .int 12), (1, .long 5513639486519848327), (4, .int 16), (3, .ref mtc), (0, .ref md)]) hx hb dX15_checksum_34 hl (by decide) rfl (fun ls hl => ?_)
  refine lv_ldc2 hx hb hown (hts _ K2869) dX15_checksum_36 ?_
  refine lv_lload_n hx hb dX15_checksum_39 rfl (lv_at hl 2 rfl) ?_
  refine lv_lmul hx hb dX15_checksum_40 ?_
  refine lv_topl (fun v_25 hv_25 => ?_)
  obtain rfl : v_25 = 4902127418729333593 := hv_25.trans (by decide)
  refine lv_iload hx hb dX15_checksum_41 (lv_at hl 0 rfl) ?_
  refine lv_i2l (v := 0) hx hb dX15_checksum_43 (by decide) ?_
  refine lv_ladd hx hb dX15_checksum_44 ?_
  refine lv_topl (fun v_26 hv_26 => ?_)
  obtain rfl : v_26 = 4902127418729333593 := hv_26.trans (by decide)
  refine lv_lstore_n (lv' := [(1, .long 4902127418729333593), (6, .int 0), (5, .int 12), (4, .int 16), (3, .ref mtc), (0, .ref md)]) hx hb dX15_checksum_45 rfl hl (by decide) rfl (fun ls hl => ?_)
  refine lv_iinc (v := 13) (lv' := [(5, .int 13), (1, .long 4902127418729333593), (6, .int 0), (4, .int 16), (3, .ref mtc), (0, .ref md)]) hx hb dX15_checksum_46 hl (k := 2) rfl (by decide) (by decide) rfl (fun ls hl => ?_)
  refine lv_goto (tgt := 23) hx hb dX15_checksum_49 (by decide) ?_
  refine lv_iload hx hb dX15_checksum_23 (lv_at hl 0 rfl) ?_
  refine lv_iload hx hb dX15_checksum_25 (lv_at hl 3 rfl) ?_
  refine lv_icmp_ge (tgt := 52) hx hb dX15_checksum_27 (by decide) (fun c_27 => absurd c_27 (by decide)) (fun _ => ?_)
  refine lv_aload_n hx hb dX15_checksum_30 rfl (lv_at hl 4 rfl) ?_
  refine lv_iload hx hb dX15_checksum_31 (lv_at hl 0 rfl) ?_
  refine va_iald hx hb hK hP 1 0 rfl rfl (by unfold vp_in; decide) dX15_checksum_33 ?_
  refine W.eq (g2 := F0 m 34 ls [.int 0]) rfl ?_
  refine lv_istore (lv' := [(6, .int 0), (5, .int 13), (1, .long 4902127418729333593), (4, .int 16), (3, .ref mtc), (0, .ref md)]) hx hb dX15_checksum_34 hl (by decide) rfl (fun ls hl => ?_)
  refine lv_ldc2 hx hb hown (hts _ K2869) dX15_checksum_36 ?_
  refine lv_lload_n hx hb dX15_checksum_39 rfl (lv_at hl 2 rfl) ?_
  refine lv_lmul hx hb dX15_checksum_40 ?_
  refine lv_topl (fun v_27 hv_27 => ?_)
  obtain rfl : v_27 = 4391997390932928455 := hv_27.trans (by decide)
  refine lv_iload hx hb dX15_checksum_41 (lv_at hl 0 rfl) ?_
  refine lv_i2l (v := 0) hx hb dX15_checksum_43 (by decide) ?_
  refine lv_ladd hx hb dX15_checksum_44 ?_
  refine lv_topl (fun v_28 hv_28 => ?_)
  obtain rfl : v_28 = 4391997390932928455 := hv_28.trans (by decide)
  refine lv_lstore_n (lv' := [(1, .long 4391997390932928455), (6, .int 0), (5, .int 13), (4, .int 16), (3, .ref mtc), (0, .ref md)]) hx hb dX15_checksum_45 rfl hl (by decide) rfl (fun ls hl => ?_)
  refine lv_iinc (v := 14) (lv' := [(5, .int 14), (1, .long 4391997390932928455), (6, .int 0), (4, .int 16), (3, .ref mtc), (0, .ref md)]) hx hb dX15_checksum_46 hl (k := 2) rfl (by decide) (by decide) rfl (fun ls hl => ?_)
  refine lv_goto (tgt := 23) hx hb dX15_checksum_49 (by decide) ?_
  refine lv_iload hx hb dX15_checksum_23 (lv_at hl 0 rfl) ?_
  refine lv_iload hx hb dX15_checksum_25 (lv_at hl 3 rfl) ?_
  refine lv_icmp_ge (tgt := 52) hx hb dX15_checksum_27 (by decide) (fun c_27 => absurd c_27 (by decide)) (fun _ => ?_)
  refine lv_aload_n hx hb dX15_checksum_30 rfl (lv_at hl 4 rfl) ?_
  refine lv_iload hx hb dX15_checksum_31 (lv_at hl 0 rfl) ?_
  refine va_iald hx hb hK hP 1 0 rfl rfl (by unfold vp_in; decide) dX15_checksum_33 ?_
  refine W.eq (g2 := F0 m 34 ls [.int 0]) rfl ?_
  refine lv_istore (lv' := [(6, .int 0), (5, .int 14), (1, .long 4391997390932928455), (4, .int 16), (3, .ref mtc), (0, .ref md)]) hx hb dX15_checksum_34 hl (by decide) rfl (fun ls hl => ?_)
  refine lv_ldc2 hx hb hown (hts _ K2869) dX15_checksum_36 ?_
  refine lv_lload_n hx hb dX15_checksum_39 rfl (lv_at hl 2 rfl) ?_
  refine lv_lmul hx hb dX15_checksum_40 ?_
  refine lv_topl (fun v_29 hv_29 => ?_)
  obtain rfl : v_29 = 7024710602953920793 := hv_29.trans (by decide)
  refine lv_iload hx hb dX15_checksum_41 (lv_at hl 0 rfl) ?_
  refine lv_i2l (v := 0) hx hb dX15_checksum_43 (by decide) ?_
  refine lv_ladd hx hb dX15_checksum_44 ?_
  refine lv_topl (fun v_30 hv_30 => ?_)
  obtain rfl : v_30 = 7024710602953920793 := hv_30.trans (by decide)
  refine lv_lstore_n (lv' := [(1, .long 7024710602953920793), (6, .int 0), (5, .int 14), (4, .int 16), (3, .ref mtc), (0, .ref md)]) hx hb dX15_checksum_45 rfl hl (by decide) rfl (fun ls hl => ?_)
  refine lv_iinc (v := 15) (lv' := [(5, .int 15), (1, .long 7024710602953920793), (6, .int 0), (4, .int 16), (3, .ref mtc), (0, .ref md)]) hx hb dX15_checksum_46 hl (k := 2) rfl (by decide) (by decide) rfl (fun ls hl => ?_)
  refine lv_goto (tgt := 23) hx hb dX15_checksum_49 (by decide) ?_
  refine lv_iload hx hb dX15_checksum_23 (lv_at hl 0 rfl) ?_
  refine lv_iload hx hb dX15_checksum_25 (lv_at hl 3 rfl) ?_
  refine lv_icmp_ge (tgt := 52) hx hb dX15_checksum_27 (by decide) (fun c_27 => absurd c_27 (by decide)) (fun _ => ?_)
  refine lv_aload_n hx hb dX15_checksum_30 rfl (lv_at hl 4 rfl) ?_
  refine lv_iload hx hb dX15_checksum_31 (lv_at hl 0 rfl) ?_
  refine va_iald hx hb hK hP 1 0 rfl rfl (by unfold vp_in; decide) dX15_checksum_33 ?_
  refine W.eq (g2 := F0 m 34 ls [.int 0]) rfl ?_
  refine lv_istore (lv' := [(6, .int 0), (5, .int 15), (1, .long 7024710602953920793), (4, .int 16), (3, .ref mtc), (0, .ref md)]) hx hb dX15_checksum_34 hl (by decide) rfl (fun ls hl => ?_)
  refine lv_ldc2 hx hb hown (hts _ K2869) dX15_checksum_36 ?_
  refine lv_lload_n hx hb dX15_checksum_39 rfl (lv_at hl 2 rfl) ?_
  refine lv_lmul hx hb dX15_checksum_40 ?_
  refine lv_topl (fun v_31 hv_31 => ?_)
  obtain rfl : v_31 = (-3594900192943074809) := hv_31.trans (by decide)
  refine lv_iload hx hb dX15_checksum_41 (lv_at hl 0 rfl) ?_
  refine lv_i2l (v := 0) hx hb dX15_checksum_43 (by decide) ?_
  refine lv_ladd hx hb dX15_checksum_44 ?_
  refine lv_topl (fun v_32 hv_32 => ?_)
  obtain rfl : v_32 = (-3594900192943074809) := hv_32.trans (by decide)
  refine lv_lstore_n (lv' := [(1, .long (-3594900192943074809)), (6, .int 0), (5, .int 15), (4, .int 16), (3, .ref mtc), (0, .ref md)]) hx hb dX15_checksum_45 rfl hl (by decide) rfl (fun ls hl => ?_)
  refine lv_iinc (v := 16) (lv' := [(5, .int 16), (1, .long (-3594900192943074809)), (6, .int 0), (4, .int 16), (3, .ref mtc), (0, .ref md)]) hx hb dX15_checksum_46 hl (k := 2) rfl (by decide) (by decide) rfl (fun ls hl => ?_)
  refine lv_goto (tgt := 23) hx hb dX15_checksum_49 (by decide) ?_
  refine lv_iload hx hb dX15_checksum_23 (lv_at hl 0 rfl) ?_
  refine lv_iload hx hb dX15_checksum_25 (lv_at hl 3 rfl) ?_
  refine lv_icmp_ge (tgt := 52) hx hb dX15_checksum_27 (by decide) (fun _ => ?_) (fun c_27 => absurd (by decide) c_27)
  refine lv_aload_n hx hb dX15_checksum_52 rfl (lv_at hl 5 rfl) ?_
  refine va_get (D := D) (ci := 21) (v := .ref mt) (C := RX15) (T := TX15) (N := 18) hx hb hts inX15 hown hK hP 3 rfl rfl 1 (by decide) (hts _ K2087) (fun _ h9 => h9) rfl dX15_checksum_53 ?_
  refine va_getN (D := D) (ci := 20) (v := .ref mtt) (C := RX14) (T := TX14) (N := 5) hx hb hts inX14 hown hK hP 0 rfl rfl 1 (by decide) (va_Nw.use rfl (hEn.1 _ K2063)) (fun _ h9 => h9) rfl dX15_checksum_56 ?_
  have hPc := hP.sub (ws' := [(mtt, .inr (5, [.int 0, .ref dc, .int 0]))]) [2] rfl
  have hDc := hD.sub (ws' := [(mtt, .inr (5, [.int 0, .ref dc, .int 0]))]) [2] (by decide) rfl
  have hFc := va_free (wc := [(mtt, .inr (5, [.int 0, .ref dc, .int 0]))]) hD hS hA [2] rfl
  refine z_callFqJ (wr := [(mt, .inr (20, [.ref mtc, .ref mtt, .int (-1), .int 0, .int (-1)])), (mtc, .inl (cy 0, 16, .inl (fun _ => 0))), (md, .inr (21, [.int 0, .ref mt, .ref lkp, .ref lcd, .ref mli, .ref mru, .ref lfn, .ref mhe, .ref mma, .ref lin, .ref lsc, .ref lva, .ref lpl, .ref (sa 51), .ref lbr, .ref lwa, .int 45, .int (-1)]))]) (va_runF (As := []) (rest := []) (hK.1 5 _ rfl).2 ⟨hx, hb, hml, hown, hts⟩ (k_iterator l D cy sa sv dc mtt _ dc) (va_cwF 0 hts GF_RX15_138 rfl rfl rfl (hEm.2.2.1 3 _ rfl) HD___java_util_List____iterator______Ljava_util_Iterator___ ⟨Nat.le_of_ble_eq_true rfl, Nat.le_of_ble_eq_true rfl⟩) ⟨z_blind EM_ok, va_recv hK hPc (ci := 5) (q0 := 0) rfl rfl, z_pre EM_ok hPc hK hDc hEm hS hFc⟩ rfl rfl hl.1 rfl (lv_room (Nat.le_of_ble_eq_true rfl)) dX15_checksum_59 ⟨Nat.le_of_ble_eq_true rfl, Nat.le_of_ble_eq_true rfl⟩) hP hD hS hA [2] [0, 1, 3] rfl rfl (by decide) (by decide) (fun r_59 u59 H locs hw_59 hP hD hS => ?_)
  have hP : va_P D vwCl [(mt, .inr (20, [.ref mtc, .ref mtt, .int (-1), .int 0, .int (-1)])), (mtc, .inl (cy 0, 16, .inl (fun _ => 0))), (md, .inr (21, [.int 0, .ref mt, .ref lkp, .ref lcd, .ref mli, .ref mru, .ref lfn, .ref mhe, .ref mma, .ref lin, .ref lsc, .ref lva, .ref lpl, .ref (sa 51), .ref lbr, .ref lwa, .int 45, .int (-1)])), (u59 0, .inr (4, [.int 0, .int (-1), .int 0, .ref mtt])), (mtt, .inr (5, [.int 0, .ref dc, .int 0]))] H := hP
  have hD : va_D A [(mt, .inr (20, [.ref mtc, .ref mtt, .int (-1), .int 0, .int (-1)])), (mtc, .inl (cy 0, 16, .inl (fun _ => 0))), (md, .inr (21, [.int 0, .ref mt, .ref lkp, .ref lcd, .ref mli, .ref mru, .ref lfn, .ref mhe, .ref mma, .ref lin, .ref lsc, .ref lva, .ref lpl, .ref (sa 51), .ref lbr, .ref lwa, .int 45, .int (-1)])), (u59 0, .inr (4, [.int 0, .int (-1), .int 0, .ref mtt])), (mtt, .inr (5, [.int 0, .ref dc, .int 0]))] := hD
  refine W.widen (k := 1) (n := 4) (Nat.le_of_ble_eq_true rfl) (Nat.le_of_ble_eq_true rfl) ?_
  obtain rfl := hw_59
  refine W.eq (g2 := F0 m 64 ls [.ref (u59 0)]) rfl ?_
  refine lv_astore_n (lv' := [(3, .ref (u59 0)), (5, .int 16), (1, .long (-3594900192943074809)), (6, .int 0), (4, .int 16), (0, .ref md)]) hx hb dX15_checksum_64 rfl hl (by decide) rfl (fun ls hl => ?_)
  refine lv_aload_n hx hb dX15_checksum_65 rfl (lv_at hl 0 rfl) ?_
  have hPc := hP.sub (ws' := [(u59 0, .inr (4, [.int 0, .int (-1), .int 0, .ref mtt])), (mtt, .inr (5, [.int 0, .ref dc, .int 0]))]) [3, 4] rfl
  have hDc := hD.sub (ws' := [(u59 0, .inr (4, [.int 0, .int (-1), .int 0, .ref mtt])), (mtt, .inr (5, [.int 0, .ref dc, .int 0]))]) [3, 4] (by decide) rfl
  have hFc := va_free (wc := [(u59 0, .inr (4, [.int 0, .int (-1), .int 0, .ref mtt])), (mtt, .inr (5, [.int 0, .ref dc, .int 0]))]) hD hS hA [3, 4] rfl
  refine z_callFiJ (wr := [(mt, .inr (20, [.ref mtc, .ref mtt, .int (-1), .int 0, .int (-1)])), (mtc, .inl (cy 0, 16, .inl (fun _ => 0))), (md, .inr (21, [.int 0, .ref mt, .ref lkp, .ref lcd, .ref mli, .ref mru, .ref lfn, .ref mhe, .ref mma, .ref lin, .ref lsc, .ref lva, .ref lpl, .ref (sa 51), .ref lbr, .ref lwa, .int 45, .int (-1)]))]) (va_runF (As := []) (rest := []) (hK.1 4 _ rfl).2 ⟨hx, hb, hml, hown, hts⟩ (k_hasNext l D cy sa sv dc (u59 0) mtt _ dc) (va_cwF 0 hts GF_RX15_142 rfl rfl rfl (hEm.2.2.1 5 _ rfl) HD___java_util_Iterator____hasNext______Z__ ⟨Nat.le_of_ble_eq_true rfl, Nat.le_of_ble_eq_true rfl⟩) ⟨z_blind EM_ok, va_recv hK hPc (ci := 4) (q0 := 0) rfl rfl, z_pre EM_ok hPc hK hDc hEm hS hFc⟩ rfl rfl hl.1 rfl (lv_room (Nat.le_of_ble_eq_true rfl)) dX15_checksum_66 ⟨Nat.le_of_ble_eq_true rfl, Nat.le_of_ble_eq_true rfl⟩) hP hD hS hA [3, 4] [0, 1, 2] rfl rfl (by decide) (by decide) (fun r_66 u66 H locs hw_66 hP hD hS => ?_)
  have hP : va_P D vwCl [(mt, .inr (20, [.ref mtc, .ref mtt, .int (-1), .int 0, .int (-1)])), (mtc, .inl (cy 0, 16, .inl (fun _ => 0))), (md, .inr (21, [.int 0, .ref mt, .ref lkp, .ref lcd, .ref mli, .ref mru, .ref lfn, .ref mhe, .ref mma, .ref lin, .ref lsc, .ref lva, .ref lpl, .ref (sa 51), .ref lbr, .ref lwa, .int 45, .int (-1)])), (u59 0, .inr (4, [.int 0, .int (-1), .int 0, .ref mtt])), (mtt, .inr (5, [.int 0, .ref dc, .int 0]))] H := hP
  have hD : va_D A [(mt, .inr (20, [.ref mtc, .ref mtt, .int (-1), .int 0, .int (-1)])), (mtc, .inl (cy 0, 16, .inl (fun _ => 0))), (md, .inr (21, [.int 0, .ref mt, .ref lkp, .ref lcd, .ref mli, .ref mru, .ref lfn, .ref mhe, .ref mma, .ref lin, .ref lsc, .ref lva, .ref lpl, .ref (sa 51), .ref lbr, .ref lwa, .int 45, .int (-1)])), (u59 0, .inr (4, [.int 0, .int (-1), .int 0, .ref mtt])), (mtt, .inr (5, [.int 0, .ref dc, .int 0]))] := hD
  obtain rfl := hw_66
  refine lv_if_eq (tgt := 220) hx hb dX15_checksum_71 (by decide) (fun _ => ?_) (fun c_71 => absurd (by decide) c_71)
  refine lv_lload_n hx hb dX15_checksum_220 rfl (lv_at hl 2 rfl) ?_
  have hP := hP.sub (ws' := []) [] rfl
  have hD := hD.sub (ws' := []) [] (by decide) rfl
  exact z_retl () hx hb hr hlocks hK (rfl) hP hD hS (Nat.le_of_ble_eq_true rfl) (Nat.le_of_ble_eq_true rfl) dX15_checksum_221
set_option maxHeartbeats 4000000 in
set_option maxRecDepth 100000 in
theorem k_doneShare (l : Launch) (D : va_G) (cy : Nat → ClassId) (sa : Nat → Nat) (sv : Nat → Nat) (dc : Nat) (md mt mtt : Nat) (sz : Nat) (lkp lcd mli mru lfn mhe mma lin lsc lva lpl lbr lwa mtc : Nat) : Met l yX15_doneShare (Cond.code yX15_doneShare cX15_doneShare 4 (some .float) :: ALL) ({ frames := 3, cells := 1, slots := 4, locals := 53 }) (zPc D vwCl (TY cy) (EM sa sv dc) [.ref md] [(md, .inr (21, [.int 0, .ref mt, .ref lkp, .ref lcd, .ref mli, .ref mru, .ref lfn, .ref mhe, .ref mma, .ref lin, .ref lsc, .ref lva, .ref lpl, .ref (sa 51), .ref lbr, .ref lwa, .int 45, .int (-1)])), (mt, .inr (20, [.ref mtc, .ref mtt, .int (-1), .int 0, .int (-1)])), (mtt, .inr (5, [.int 0, .ref dc, .int 0]))] sz) (va_Qf (fun _ _ => True) (zB D vwCl (TY cy) (S := Unit) (fun u => [(md, .inr (21, [.int 1, .ref mt, .ref lkp, .ref lcd, .ref mli, .ref mru, .ref lfn, .ref mhe, .ref mma, .ref lin, .ref lsc, .ref lva, .ref lpl, .ref (sa 51), .ref lbr, .ref lwa, .int 45, .int (-1)]))]) (va_A [(md, .inr (21, [.int 0, .ref mt, .ref lkp, .ref lcd, .ref mli, .ref mru, .ref lfn, .ref mhe, .ref mma, .ref lin, .ref lsc, .ref lva, .ref lpl, .ref (sa 51), .ref lbr, .ref lwa, .int 45, .int (-1)])), (mt, .inr (20, [.ref mtc, .ref mtt, .int (-1), .int 0, .int (-1)])), (mtt, .inr (5, [.int 0, .ref dc, .int 0]))] sz)) (va_A [(md, .inr (21, [.int 0, .ref mt, .ref lkp, .ref lcd, .ref mli, .ref mru, .ref lfn, .ref mhe, .ref mma, .ref lin, .ref lsc, .ref lva, .ref lpl, .ref (sa 51), .ref lbr, .ref lwa, .int 45, .int (-1)])), (mt, .inr (20, [.ref mtc, .ref mtt, .int (-1), .int 0, .int (-1)])), (mtt, .inr (5, [.int 0, .ref dc, .int 0]))] sz)) 1 4 (va_A [(md, .inr (21, [.int 0, .ref mt, .ref lkp, .ref lcd, .ref mli, .ref mru, .ref lfn, .ref mhe, .ref mma, .ref lin, .ref lsc, .ref lva, .ref lpl, .ref (sa 51), .ref lbr, .ref lwa, .int 45, .int (-1)])), (mt, .inr (20, [.ref mtc, .ref mtt, .int (-1), .int 0, .int (-1)])), (mtt, .inr (5, [.int 0, .ref dc, .int 0]))] sz) := by
  refine z_start (Qc := fun A => va_Qf (fun _ _ => True) (zB D vwCl (TY cy) (S := Unit) (fun u => [(md, .inr (21, [.int 1, .ref mt, .ref lkp, .ref lcd, .ref mli, .ref mru, .ref lfn, .ref mhe, .ref mma, .ref lin, .ref lsc, .ref lva, .ref lpl, .ref (sa 51), .ref lbr, .ref lwa, .int 45, .int (-1)]))]) A) A) PN_RX15 (Nat.le_of_ble_eq_true rfl) ?_
  intro p e s m below meth c A ls hx hb hr hml hts hown hlocks hin hA hP hK hD hS hEn hl
  have hown : s.vm.findClass RX15 = some m.cls := hown
  have hEm := hEn
  have hEn := hEn.1
  have hl : lv_has ls 4 [(0, .ref md)] := hl
  have hS0 := hS
  refine lv_aload_n hx hb dX15_doneShare_0 rfl (lv_at hl 0 rfl) ?_
  have hPc := hP.sub (ws' := [(md, .inr (21, [.int 0, .ref mt, .ref lkp, .ref lcd, .ref mli, .ref mru, .ref lfn, .ref mhe, .ref mma, .ref lin, .ref lsc, .ref lva, .ref lpl, .ref (sa 51), .ref lbr, .ref lwa, .int 45, .int (-1)]))]) [0] rfl
  have hDc := hD.sub (ws' := [(md, .inr (21, [.int 0, .ref mt, .ref lkp, .ref lcd, .ref mli, .ref mru, .ref lfn, .ref mhe, .ref mma, .ref lin, .ref lsc, .ref lva, .ref lpl, .ref (sa 51), .ref lbr, .ref lwa, .int 45, .int (-1)]))]) [0] (by decide) rfl
  have hFc := va_free (wc := [(md, .inr (21, [.int 0, .ref mt, .ref lkp, .ref lcd, .ref mli, .ref mru, .ref lfn, .ref mhe, .ref mma, .ref lin, .ref lsc, .ref lva, .ref lpl, .ref (sa 51), .ref lbr, .ref lwa, .int 45, .int (-1)]))]) hD hS hA [0] rfl
  refine z_callvJ (wr := [(mt, .inr (20, [.ref mtc, .ref mtt, .int (-1), .int 0, .int (-1)])), (mtt, .inr (5, [.int 0, .ref dc, .int 0]))]) (va_runV (As := []) (rest := []) ⟨hx, hb, hml, hown, hts⟩ (k_begins l D cy sa sv dc md _ mt lkp lcd mli mru lfn mhe mma lin lsc lva lpl lbr lwa) (cwV 0 hts GV_RX15_124 rfl rfl rfl ⟨rfl, HD_yX15_begins⟩ ⟨Nat.le_of_ble_eq_true rfl, Nat.le_of_ble_eq_true rfl⟩) ⟨z_blind EM_ok, va_recv hK hPc (ci := 21) (q0 := 0) rfl rfl, z_pre EM_ok hPc hK hDc hEm hS hFc⟩ rfl rfl hl.1 rfl (lv_room (Nat.le_of_ble_eq_true rfl)) dX15_doneShare_1 ⟨Nat.le_of_ble_eq_true rfl, Nat.le_of_ble_eq_true rfl⟩) hP hD hS hA [0] [1, 2] rfl rfl (by decide) (by decide) (fun u1 H locs hw_1 hP hD hS => ?_)
  have hP : va_P D vwCl [(mt, .inr (20, [.ref mtc, .ref mtt, .int (-1), .int 0, .int (-1)])), (mtt, .inr (5, [.int 0, .ref dc, .int 0])), (md, .inr (21, [.int 0, .ref mt, .ref lkp, .ref lcd, .ref mli, .ref mru, .ref lfn, .ref mhe, .ref mma, .ref lin, .ref lsc, .ref lva, .ref lpl, .ref (sa 51), .ref lbr, .ref lwa, .int 45, .int (-1)]))] H := hP
  have hD : va_D A [(mt, .inr (20, [.ref mtc, .ref mtt, .int (-1), .int 0, .int (-1)])), (mtt, .inr (5, [.int 0, .ref dc, .int 0])), (md, .inr (21, [.int 0, .ref mt, .ref lkp, .ref lcd, .ref mli, .ref mru, .ref lfn, .ref mhe, .ref mma, .ref lin, .ref lsc, .ref lva, .ref lpl, .ref (sa 51), .ref lbr, .ref lwa, .int 45, .int (-1)]))] := hD
  refine lv_iconst (v := 0) hx hb dX15_doneShare_4 (by decide) ?_
  refine lv_istore_n (lv' := [(1, .int 0), (0, .ref md)]) hx hb dX15_doneShare_5 rfl hl (by decide) rfl (fun ls hl => ?_)
  refine lv_aload_n hx hb dX15_doneShare_6 rfl (lv_at hl 1 rfl) ?_
  refine va_get (D := D) (ci := 21) (v := .ref mt) (C := RX15) (T := TX15) (N := 18) hx hb hts inX15 hown hK hP 2 rfl rfl 1 (by decide) (hts _ K2087) (fun _ h9 => h9) rfl dX15_doneShare_7 ?_
  refine va_getN (D := D) (ci := 20) (v := .ref mtt) (C := RX14) (T := TX14) (N := 5) hx hb hts inX14 hown hK hP 0 rfl rfl 1 (by decide) (va_Nw.use rfl (hEn.1 _ K2063)) (fun _ h9 => h9) rfl dX15_doneShare_10 ?_
  have hPc := hP.sub (ws' := [(mtt, .inr (5, [.int 0, .ref dc, .int 0]))]) [1] rfl
  have hDc := hD.sub (ws' := [(mtt, .inr (5, [.int 0, .ref dc, .int 0]))]) [1] (by decide) rfl
  have hFc := va_free (wc := [(mtt, .inr (5, [.int 0, .ref dc, .int 0]))]) hD hS hA [1] rfl
  refine z_callFqJ (wr := [(mt, .inr (20, [.ref mtc, .ref mtt, .int (-1), .int 0, .int (-1)])), (md, .inr (21, [.int 0, .ref mt, .ref lkp, .ref lcd, .ref mli, .ref mru, .ref lfn, .ref mhe, .ref mma, .ref lin, .ref lsc, .ref lva, .ref lpl, .ref (sa 51), .ref lbr, .ref lwa, .int 45, .int (-1)]))]) (va_runF (As := []) (rest := []) (hK.1 5 _ rfl).2 ⟨hx, hb, hml, hown, hts⟩ (k_iterator l D cy sa sv dc mtt _ dc) (va_cwF 0 hts GF_RX15_138 rfl rfl rfl (hEm.2.2.1 3 _ rfl) HD___java_util_List____iterator______Ljava_util_Iterator___ ⟨Nat.le_of_ble_eq_true rfl, Nat.le_of_ble_eq_true rfl⟩) ⟨z_blind EM_ok, va_recv hK hPc (ci := 5) (q0 := 0) rfl rfl, z_pre EM_ok hPc hK hDc hEm hS hFc⟩ rfl rfl hl.1 rfl (lv_room (Nat.le_of_ble_eq_true rfl)) dX15_doneShare_13 ⟨Nat.le_of_ble_eq_true rfl, Nat.le_of_ble_eq_true rfl⟩) hP hD hS hA [1] [0, 2] rfl rfl (by decide) (by decide) (fun r_13 u13 H locs hw_13 hP hD hS => ?_)
  have hP : va_P D vwCl [(mt, .inr (20, [.ref mtc, .ref mtt, .int (-1), .int 0, .int (-1)])), (md, .inr (21, [.int 0, .ref mt, .ref lkp, .ref lcd, .ref mli, .ref mru, .ref lfn, .ref mhe, .ref mma, .ref lin, .ref lsc, .ref lva, .ref lpl, .ref (sa 51), .ref lbr, .ref lwa, .int 45, .int (-1)])), (u13 0, .inr (4, [.int 0, .int (-1), .int 0, .ref mtt])), (mtt, .inr (5, [.int 0, .ref dc, .int 0]))] H := hP
  have hD : va_D A [(mt, .inr (20, [.ref mtc, .ref mtt, .int (-1), .int 0, .int (-1)])), (md, .inr (21, [.int 0, .ref mt, .ref lkp, .ref lcd, .ref mli, .ref mru, .ref lfn, .ref mhe, .ref mma, .ref lin, .ref lsc, .ref lva, .ref lpl, .ref (sa 51), .ref lbr, .ref lwa, .int 45, .int (-1)])), (u13 0, .inr (4, [.int 0, .int (-1), .int 0, .ref mtt])), (mtt, .inr (5, [.int 0, .ref dc, .int 0]))] := hD
  refine W.widen (k := 1) (n := 4) (Nat.le_of_ble_eq_true rfl) (Nat.le_of_ble_eq_true rfl) ?_
  obtain rfl := hw_13
  refine W.eq (g2 := F0 m 18 ls [.ref (u13 0)]) rfl ?_
  refine lv_astore_n (lv' := [(2, .ref (u13 0)), (1, .int 0), (0, .ref md)]) hx hb dX15_doneShare_18 rfl hl (by decide) rfl (fun ls hl => ?_)
  refine lv_aload_n hx hb dX15_doneShare_19 rfl (lv_at hl 0 rfl) ?_
  have hPc := hP.sub (ws' := [(u13 0, .inr (4, [.int 0, .int (-1), .int 0, .ref mtt])), (mtt, .inr (5, [.int 0, .ref dc, .int 0]))]) [2, 3] rfl
  have hDc := hD.sub (ws' := [(u13 0, .inr (4, [.int 0, .int (-1), .int 0, .ref mtt])), (mtt, .inr (5, [.int 0, .ref dc, .int 0]))]) [2, 3] (by decide) rfl
  have hFc := va_free (wc := [(u13 0, .inr (4, [.int 0, .int (-1), .int 0, .ref mtt])), (mtt, .inr (5, [.int 0, .ref dc, .int 0]))]) hD hS hA [2, 3] rfl
  refine z_callFiJ (wr := [(mt, .inr (20, [.ref mtc, .ref mtt, .int (-1), .int 0, .int (-1)])), (md, .inr (21, [.int 0, .ref mt, .ref lkp, .ref lcd, .ref mli, .ref mru, .ref lfn, .ref mhe, .ref mma, .ref lin, .ref lsc, .ref lva, .ref lpl, .ref (sa 51), .ref lbr, .ref lwa, .int 45, .int (-1)]))]) (va_runF (As := []) (rest := []) (hK.1 4 _ rfl).2 ⟨hx, hb, hml, hown, hts⟩ (k_hasNext l D cy sa sv dc (u13 0) mtt _ dc) (va_cwF 0 hts GF_RX15_142 rfl rfl rfl (hEm.2.2.1 5 _ rfl) HD___java_util_Iterator____hasNext______Z__ ⟨Nat.le_of_ble_eq_true rfl, Nat.le_of_ble_eq_true rfl⟩) ⟨z_blind EM_ok, va_recv hK hPc (ci := 4) (q0 := 0) rfl rfl, z_pre EM_ok hPc hK hDc hEm hS hFc⟩ rfl rfl hl.1 rfl (lv_room (Nat.le_of_ble_eq_true rfl)) dX15_doneShare_20 ⟨Nat.le_of_ble_eq_true rfl, Nat.le_of_ble_eq_true rfl⟩) hP hD hS hA [2, 3] [0, 1] rfl rfl (by decide) (by decide) (fun r_20 u20 H locs hw_20 hP hD hS => ?_)
  have hP : va_P D vwCl [(mt, .inr (20, [.ref mtc, .ref mtt, .int (-1), .int 0, .int (-1)])), (md, .inr (21, [.int 0, .ref mt, .ref lkp, .ref lcd, .ref mli, .ref mru, .ref lfn, .ref mhe, .ref mma, .ref lin, .ref lsc, .ref lva, .ref lpl, .ref (sa 51), .ref lbr, .ref lwa, .int 45, .int (-1)])), (u13 0, .inr (4, [.int 0, .int (-1), .int 0, .ref mtt])), (mtt, .inr (5, [.int 0, .ref dc, .int 0]))] H := hP
  have hD : va_D A [(mt, .inr (20, [.ref mtc, .ref mtt, .int (-1), .int 0, .int (-1)])), (md, .inr (21, [.int 0, .ref mt, .ref lkp, .ref lcd, .ref mli, .ref mru, .ref lfn, .ref mhe, .ref mma, .ref lin, .ref lsc, .ref lva, .ref lpl, .ref (sa 51), .ref lbr, .ref lwa, .int 45, .int (-1)])), (u13 0, .inr (4, [.int 0, .int (-1), .int 0, .ref mtt])), (mtt, .inr (5, [.int 0, .ref dc, .int 0]))] := hD
  obtain rfl := hw_20
  refine lv_if_eq (tgt := 58) hx hb dX15_doneShare_25 (by decide) (fun _ => ?_) (fun c_25 => absurd (by decide) c_25)
  refine lv_aload_n hx hb dX15_doneShare_58 rfl (lv_at hl 2 rfl) ?_
  refine lv_aload_n hx hb dX15_doneShare_59 rfl (lv_at hl 2 rfl) ?_
  refine va_get (D := D) (ci := 21) (v := .ref mt) (C := RX15) (T := TX15) (N := 18) hx hb hts inX15 hown hK hP 1 rfl rfl 1 (by decide) (hts _ K2087) (fun _ h9 => h9) rfl dX15_doneShare_60 ?_
  refine va_getN (D := D) (ci := 20) (v := .ref mtt) (C := RX14) (T := TX14) (N := 5) hx hb hts inX14 hown hK hP 0 rfl rfl 1 (by decide) (va_Nw.use rfl (hEn.1 _ K2063)) (fun _ h9 => h9) rfl dX15_doneShare_63 ?_
  have hPc := hP.sub (ws' := [(mtt, .inr (5, [.int 0, .ref dc, .int 0]))]) [3] rfl
  have hDc := hD.sub (ws' := [(mtt, .inr (5, [.int 0, .ref dc, .int 0]))]) [3] (by decide) rfl
  have hFc := va_free (wc := [(mtt, .inr (5, [.int 0, .ref dc, .int 0]))]) hD hS hA [3] rfl
  refine z_callFiJ (wr := [(mt, .inr (20, [.ref mtc, .ref mtt, .int (-1), .int 0, .int (-1)])), (md, .inr (21, [.int 0, .ref mt, .ref lkp, .ref lcd, .ref mli, .ref mru, .ref lfn, .ref mhe, .ref mma, .ref lin, .ref lsc, .ref lva, .ref lpl, .ref (sa 51), .ref lbr, .ref lwa, .int 45, .int (-1)])), (u13 0, .inr (4, [.int 0, .int (-1), .int 0, .ref mtt]))]) (va_runF (As := []) (rest := [.ref md]) (hK.1 5 _ rfl).2 ⟨hx, hb, hml, hown, hts⟩ (k_isEmpty l D cy sa sv dc mtt _ dc 0) (va_cwF 0 hts GF_RX15_444 rfl rfl rfl (hEm.2.2.1 4 _ rfl) HD___java_util_List____isEmpty______Z__ ⟨Nat.le_of_ble_eq_true rfl, Nat.le_of_ble_eq_true rfl⟩) ⟨z_blind EM_ok, va_recv hK hPc (ci := 5) (q0 := 0) rfl rfl, z_pre EM_ok hPc hK hDc hEm hS hFc⟩ rfl rfl hl.1 rfl (lv_room (Nat.le_of_ble_eq_true rfl)) dX15_doneShare_66 ⟨Nat.le_of_ble_eq_true rfl, Nat.le_of_ble_eq_true rfl⟩) hP hD hS hA [3] [0, 1, 2] rfl rfl (by decide) (by decide) (fun r_66 u66 H locs hw_66 hP hD hS => ?_)
  have hP : va_P D vwCl [(mt, .inr (20, [.ref mtc, .ref mtt, .int (-1), .int 0, .int (-1)])), (md, .inr (21, [.int 0, .ref mt, .ref lkp, .ref lcd, .ref mli, .ref mru, .ref lfn, .ref mhe, .ref mma, .ref lin, .ref lsc, .ref lva, .ref lpl, .ref (sa 51), .ref lbr, .ref lwa, .int 45, .int (-1)])), (u13 0, .inr (4, [.int 0, .int (-1), .int 0, .ref mtt])), (mtt, .inr (5, [.int 0, .ref dc, .int 0]))] H := hP
  have hD : va_D A [(mt, .inr (20, [.ref mtc, .ref mtt, .int (-1), .int 0, .int (-1)])), (md, .inr (21, [.int 0, .ref mt, .ref lkp, .ref lcd, .ref mli, .ref mru, .ref lfn, .ref mhe, .ref mma, .ref lin, .ref lsc, .ref lva, .ref lpl, .ref (sa 51), .ref lbr, .ref lwa, .int 45, .int (-1)])), (u13 0, .inr (4, [.int 0, .int (-1), .int 0, .ref mtt])), (mtt, .inr (5, [.int 0, .ref dc, .int 0]))] := hD
  obtain rfl := hw_66
  refine lv_iconst (v := 1) hx hb dX15_doneShare_71 (by decide) ?_
  have hPc := hP.sub (ws' := [(md, .inr (21, [.int 0, .ref mt, .ref lkp, .ref lcd, .ref mli, .ref mru, .ref lfn, .ref mhe, .ref mma, .ref lin, .ref lsc, .ref lva, .ref lpl, .ref (sa 51), .ref lbr, .ref lwa, .int 45, .int (-1)]))]) [1] rfl
  have hDc := hD.sub (ws' := [(md, .inr (21, [.int 0, .ref mt, .ref lkp, .ref lcd, .ref mli, .ref mru, .ref lfn, .ref mhe, .ref mma, .ref lin, .ref lsc, .ref lva, .ref lpl, .ref (sa 51), .ref lbr, .ref lwa, .int 45, .int (-1)]))]) [1] (by decide) rfl
  have hFc := va_free (wc := [(md, .inr (21, [.int 0, .ref mt, .ref lkp, .ref lcd, .ref mli, .ref mru, .ref lfn, .ref mhe, .ref mma, .ref lin, .ref lsc, .ref lva, .ref lpl, .ref (sa 51), .ref lbr, .ref lwa, .int 45, .int (-1)]))]) hD hS hA [1] rfl
  refine z_calliJ (wr := [(mt, .inr (20, [.ref mtc, .ref mtt, .int (-1), .int 0, .int (-1)])), (u13 0, .inr (4, [.int 0, .int (-1), .int 0, .ref mtt])), (mtt, .inr (5, [.int 0, .ref dc, .int 0]))]) (va_runV (As := [.int 1, .int 1]) (rest := []) ⟨hx, hb, hml, hown, hts⟩ (k_fails1 l D cy sa sv dc md _ mt lkp lcd mli mru lfn mhe mma lin lsc lva lpl lbr lwa) (cwV 2 hts GV_RX15_98 rfl rfl rfl ⟨rfl, HD_yX15_fails⟩ ⟨Nat.le_of_ble_eq_true rfl, Nat.le_of_ble_eq_true rfl⟩) ⟨z_blind EM_ok, va_recv hK hPc (ci := 21) (q0 := 0) rfl rfl, z_pre EM_ok hPc hK hDc hEm hS hFc⟩ rfl rfl hl.1 rfl (lv_room (Nat.le_of_ble_eq_true rfl)) dX15_doneShare_72 ⟨Nat.le_of_ble_eq_true rfl, Nat.le_of_ble_eq_true rfl⟩) hP hD hS hA [1] [0, 2, 3] rfl rfl (by decide) (by decide) (fun r_72 u72 H locs hw_72 hP hD hS => ?_)
  have hP : va_P D vwCl [(mt, .inr (20, [.ref mtc, .ref mtt, .int (-1), .int 0, .int (-1)])), (u13 0, .inr (4, [.int 0, .int (-1), .int 0, .ref mtt])), (mtt, .inr (5, [.int 0, .ref dc, .int 0])), (md, .inr (21, [.int 1, .ref mt, .ref lkp, .ref lcd, .ref mli, .ref mru, .ref lfn, .ref mhe, .ref mma, .ref lin, .ref lsc, .ref lva, .ref lpl, .ref (sa 51), .ref lbr, .ref lwa, .int 45, .int (-1)]))] H := hP
  have hD : va_D A [(mt, .inr (20, [.ref mtc, .ref mtt, .int (-1), .int 0, .int (-1)])), (u13 0, .inr (4, [.int 0, .int (-1), .int 0, .ref mtt])), (mtt, .inr (5, [.int 0, .ref dc, .int 0])), (md, .inr (21, [.int 1, .ref mt, .ref lkp, .ref lcd, .ref mli, .ref mru, .ref lfn, .ref mhe, .ref mma, .ref lin, .ref lsc, .ref lva, .ref lpl, .ref (sa 51), .ref lbr, .ref lwa, .int 45, .int (-1)]))] := hD
  obtain rfl := hw_72
  refine lv_if_eq (tgt := 82) hx hb dX15_doneShare_75 (by decide) (fun c_75 => absurd c_75 (by decide)) (fun _ => ?_)
  refine lv_fconst0 hx hb dX15_doneShare_78 ?_
  refine lv_goto (tgt := 98) hx hb dX15_doneShare_79 (by decide) ?_
  have hP := hP.sub (ws' := [(md, .inr (21, [.int 1, .ref mt, .ref lkp, .ref lcd, .ref mli, .ref mru, .ref lfn, .ref mhe, .ref mma, .ref lin, .ref lsc, .ref lva, .ref lpl, .ref (sa 51), .ref lbr, .ref lwa, .int 45, .int (-1)]))]) [3] rfl
  have hD := hD.sub (ws' := [(md, .inr (21, [.int 1, .ref mt, .ref lkp, .ref lcd, .ref mli, .ref mru, .ref lfn, .ref mhe, .ref mma, .ref lin, .ref lsc, .ref lva, .ref lpl, .ref (sa 51), .ref lbr, .ref lwa, .int 45, .int (-1)]))]) [3] (by decide) rfl
  exact z_retf () hx hb hr hlocks hK (trivial) hP hD hS (Nat.le_of_ble_eq_true rfl) (Nat.le_of_ble_eq_true rfl) dX15_doneShare_98
set_option maxHeartbeats 4000000 in
set_option maxRecDepth 100000 in
theorem k_meanStack (l : Launch) (D : va_G) (cy : Nat → ClassId) (sa : Nat → Nat) (sv : Nat → Nat) (dc : Nat) (md mt mtt : Nat) (sz : Nat) (lkp lcd mli mru lfn mhe mma lin lsc lva lpl lbr lwa mtc : Nat) : Met l yX15_meanStack (Cond.code yX15_meanStack cX15_meanStack 4 (some .double) :: ALL) ({ frames := 3, cells := 1, slots := 4, locals := 53 }) (zPc D vwCl (TY cy) (EM sa sv dc) [.ref md] [(md, .inr (21, [.int 0, .ref mt, .ref lkp, .ref lcd, .ref mli, .ref mru, .ref lfn, .ref mhe, .ref mma, .ref lin, .ref lsc, .ref lva, .ref lpl, .ref (sa 51), .ref lbr, .ref lwa, .int 45, .int (-1)])), (mt, .inr (20, [.ref mtc, .ref mtt, .int (-1), .int 0, .int (-1)])), (mtt, .inr (5, [.int 0, .ref dc, .int 0]))] sz) (va_Qd (fun _ _ => True) (zB D vwCl (TY cy) (S := Unit) (fun u => [(md, .inr (21, [.int 1, .ref mt, .ref lkp, .ref lcd, .ref mli, .ref mru, .ref lfn, .ref mhe, .ref mma, .ref lin, .ref lsc, .ref lva, .ref lpl, .ref (sa 51), .ref lbr, .ref lwa, .int 45, .int (-1)]))]) (va_A [(md, .inr (21, [.int 0, .ref mt, .ref lkp, .ref lcd, .ref mli, .ref mru, .ref lfn, .ref mhe, .ref mma, .ref lin, .ref lsc, .ref lva, .ref lpl, .ref (sa 51), .ref lbr, .ref lwa, .int 45, .int (-1)])), (mt, .inr (20, [.ref mtc, .ref mtt, .int (-1), .int 0, .int (-1)])), (mtt, .inr (5, [.int 0, .ref dc, .int 0]))] sz)) (va_A [(md, .inr (21, [.int 0, .ref mt, .ref lkp, .ref lcd, .ref mli, .ref mru, .ref lfn, .ref mhe, .ref mma, .ref lin, .ref lsc, .ref lva, .ref lpl, .ref (sa 51), .ref lbr, .ref lwa, .int 45, .int (-1)])), (mt, .inr (20, [.ref mtc, .ref mtt, .int (-1), .int 0, .int (-1)])), (mtt, .inr (5, [.int 0, .ref dc, .int 0]))] sz)) 1 4 (va_A [(md, .inr (21, [.int 0, .ref mt, .ref lkp, .ref lcd, .ref mli, .ref mru, .ref lfn, .ref mhe, .ref mma, .ref lin, .ref lsc, .ref lva, .ref lpl, .ref (sa 51), .ref lbr, .ref lwa, .int 45, .int (-1)])), (mt, .inr (20, [.ref mtc, .ref mtt, .int (-1), .int 0, .int (-1)])), (mtt, .inr (5, [.int 0, .ref dc, .int 0]))] sz) := by
  refine z_start (Qc := fun A => va_Qd (fun _ _ => True) (zB D vwCl (TY cy) (S := Unit) (fun u => [(md, .inr (21, [.int 1, .ref mt, .ref lkp, .ref lcd, .ref mli, .ref mru, .ref lfn, .ref mhe, .ref mma, .ref lin, .ref lsc, .ref lva, .ref lpl, .ref (sa 51), .ref lbr, .ref lwa, .int 45, .int (-1)]))]) A) A) PN_RX15 (Nat.le_of_ble_eq_true rfl) ?_
  intro p e s m below meth c A ls hx hb hr hml hts hown hlocks hin hA hP hK hD hS hEn hl
  have hown : s.vm.findClass RX15 = some m.cls := hown
  have hEm := hEn
  have hEn := hEn.1
  have hl : lv_has ls 4 [(0, .ref md)] := hl
  have hS0 := hS
  refine lv_aload_n hx hb dX15_meanStack_0 rfl (lv_at hl 0 rfl) ?_
  have hPc := hP.sub (ws' := [(md, .inr (21, [.int 0, .ref mt, .ref lkp, .ref lcd, .ref mli, .ref mru, .ref lfn, .ref mhe, .ref mma, .ref lin, .ref lsc, .ref lva, .ref lpl, .ref (sa 51), .ref lbr, .ref lwa, .int 45, .int (-1)]))]) [0] rfl
  have hDc := hD.sub (ws' := [(md, .inr (21, [.int 0, .ref mt, .ref lkp, .ref lcd, .ref mli, .ref mru, .ref lfn, .ref mhe, .ref mma, .ref lin, .ref lsc, .ref lva, .ref lpl, .ref (sa 51), .ref lbr, .ref lwa, .int 45, .int (-1)]))]) [0] (by decide) rfl
  have hFc := va_free (wc := [(md, .inr (21, [.int 0, .ref mt, .ref lkp, .ref lcd, .ref mli, .ref mru, .ref lfn, .ref mhe, .ref mma, .ref lin, .ref lsc, .ref lva, .ref lpl, .ref (sa 51), .ref lbr, .ref lwa, .int 45, .int (-1)]))]) hD hS hA [0] rfl
  refine z_callvJ (wr := [(mt, .inr (20, [.ref mtc, .ref mtt, .int (-1), .int 0, .int (-1)])), (mtt, .inr (5, [.int 0, .ref dc, .int 0]))]) (va_runV (As := []) (rest := []) ⟨hx, hb, hml, hown, hts⟩ (k_begins l D cy sa sv dc md _ mt lkp lcd mli mru lfn mhe mma lin lsc lva lpl lbr lwa) (cwV 0 hts GV_RX15_124 rfl rfl rfl ⟨rfl, HD_yX15_begins⟩ ⟨Nat.le_of_ble_eq_true rfl, Nat.le_of_ble_eq_true rfl⟩) ⟨z_blind EM_ok, va_recv hK hPc (ci := 21) (q0 := 0) rfl rfl, z_pre EM_ok hPc hK hDc hEm hS hFc⟩ rfl rfl hl.1 rfl (lv_room (Nat.le_of_ble_eq_true rfl)) dX15_meanStack_1 ⟨Nat.le_of_ble_eq_true rfl, Nat.le_of_ble_eq_true rfl⟩) hP hD hS hA [0] [1, 2] rfl rfl (by decide) (by decide) (fun u1 H locs hw_1 hP hD hS => ?_)
  have hP : va_P D vwCl [(mt, .inr (20, [.ref mtc, .ref mtt, .int (-1), .int 0, .int (-1)])), (mtt, .inr (5, [.int 0, .ref dc, .int 0])), (md, .inr (21, [.int 0, .ref mt, .ref lkp, .ref lcd, .ref mli, .ref mru, .ref lfn, .ref mhe, .ref mma, .ref lin, .ref lsc, .ref lva, .ref lpl, .ref (sa 51), .ref lbr, .ref lwa, .int 45, .int (-1)]))] H := hP
  have hD : va_D A [(mt, .inr (20, [.ref mtc, .ref mtt, .int (-1), .int 0, .int (-1)])), (mtt, .inr (5, [.int 0, .ref dc, .int 0])), (md, .inr (21, [.int 0, .ref mt, .ref lkp, .ref lcd, .ref mli, .ref mru, .ref lfn, .ref mhe, .ref mma, .ref lin, .ref lsc, .ref lva, .ref lpl, .ref (sa 51), .ref lbr, .ref lwa, .int 45, .int (-1)]))] := hD
  refine lv_iconst (v := 0) hx hb dX15_meanStack_4 (by decide) ?_
  refine lv_istore_n (lv' := [(1, .int 0), (0, .ref md)]) hx hb dX15_meanStack_5 rfl hl (by decide) rfl (fun ls hl => ?_)
  refine lv_aload_n hx hb dX15_meanStack_6 rfl (lv_at hl 1 rfl) ?_
  refine va_get (D := D) (ci := 21) (v := .ref mt) (C := RX15) (T := TX15) (N := 18) hx hb hts inX15 hown hK hP 2 rfl rfl 1 (by decide) (hts _ K2087) (fun _ h9 => h9) rfl dX15_meanStack_7 ?_
  refine va_getN (D := D) (ci := 20) (v := .ref mtt) (C := RX14) (T := TX14) (N := 5) hx hb hts inX14 hown hK hP 0 rfl rfl 1 (by decide) (va_Nw.use rfl (hEn.1 _ K2063)) (fun _ h9 => h9) rfl dX15_meanStack_10 ?_
  have hPc := hP.sub (ws' := [(mtt, .inr (5, [.int 0, .ref dc, .int 0]))]) [1] rfl
  have hDc := hD.sub (ws' := [(mtt, .inr (5, [.int 0, .ref dc, .int 0]))]) [1] (by decide) rfl
  have hFc := va_free (wc := [(mtt, .inr (5, [.int 0, .ref dc, .int 0]))]) hD hS hA [1] rfl
  refine z_callFqJ (wr := [(mt, .inr (20, [.ref mtc, .ref mtt, .int (-1), .int 0, .int (-1)])), (md, .inr (21, [.int 0, .ref mt, .ref lkp, .ref lcd, .ref mli, .ref mru, .ref lfn, .ref mhe, .ref mma, .ref lin, .ref lsc, .ref lva, .ref lpl, .ref (sa 51), .ref lbr, .ref lwa, .int 45, .int (-1)]))]) (va_runF (As := []) (rest := []) (hK.1 5 _ rfl).2 ⟨hx, hb, hml, hown, hts⟩ (k_iterator l D cy sa sv dc mtt _ dc) (va_cwF 0 hts GF_RX15_138 rfl rfl rfl (hEm.2.2.1 3 _ rfl) HD___java_util_List____iterator______Ljava_util_Iterator___ ⟨Nat.le_of_ble_eq_true rfl, Nat.le_of_ble_eq_true rfl⟩) ⟨z_blind EM_ok, va_recv hK hPc (ci := 5) (q0 := 0) rfl rfl, z_pre EM_ok hPc hK hDc hEm hS hFc⟩ rfl rfl hl.1 rfl (lv_room (Nat.le_of_ble_eq_true rfl)) dX15_meanStack_13 ⟨Nat.le_of_ble_eq_true rfl, Nat.le_of_ble_eq_true rfl⟩) hP hD hS hA [1] [0, 2] rfl rfl (by decide) (by decide) (fun r_13 u13 H locs hw_13 hP hD hS => ?_)
  have hP : va_P D vwCl [(mt, .inr (20, [.ref mtc, .ref mtt, .int (-1), .int 0, .int (-1)])), (md, .inr (21, [.int 0, .ref mt, .ref lkp, .ref lcd, .ref mli, .ref mru, .ref lfn, .ref mhe, .ref mma, .ref lin, .ref lsc, .ref lva, .ref lpl, .ref (sa 51), .ref lbr, .ref lwa, .int 45, .int (-1)])), (u13 0, .inr (4, [.int 0, .int (-1), .int 0, .ref mtt])), (mtt, .inr (5, [.int 0, .ref dc, .int 0]))] H := hP
  have hD : va_D A [(mt, .inr (20, [.ref mtc, .ref mtt, .int (-1), .int 0, .int (-1)])), (md, .inr (21, [.int 0, .ref mt, .ref lkp, .ref lcd, .ref mli, .ref mru, .ref lfn, .ref mhe, .ref mma, .ref lin, .ref lsc, .ref lva, .ref lpl, .ref (sa 51), .ref lbr, .ref lwa, .int 45, .int (-1)])), (u13 0, .inr (4, [.int 0, .int (-1), .int 0, .ref mtt])), (mtt, .inr (5, [.int 0, .ref dc, .int 0]))] := hD
  refine W.widen (k := 1) (n := 4) (Nat.le_of_ble_eq_true rfl) (Nat.le_of_ble_eq_true rfl) ?_
  obtain rfl := hw_13
  refine W.eq (g2 := F0 m 18 ls [.ref (u13 0)]) rfl ?_
  refine lv_astore_n (lv' := [(2, .ref (u13 0)), (1, .int 0), (0, .ref md)]) hx hb dX15_meanStack_18 rfl hl (by decide) rfl (fun ls hl => ?_)
  refine lv_aload_n hx hb dX15_meanStack_19 rfl (lv_at hl 0 rfl) ?_
  have hPc := hP.sub (ws' := [(u13 0, .inr (4, [.int 0, .int (-1), .int 0, .ref mtt])), (mtt, .inr (5, [.int 0, .ref dc, .int 0]))]) [2, 3] rfl
  have hDc := hD.sub (ws' := [(u13 0, .inr (4, [.int 0, .int (-1), .int 0, .ref mtt])), (mtt, .inr (5, [.int 0, .ref dc, .int 0]))]) [2, 3] (by decide) rfl
  have hFc := va_free (wc := [(u13 0, .inr (4, [.int 0, .int (-1), .int 0, .ref mtt])), (mtt, .inr (5, [.int 0, .ref dc, .int 0]))]) hD hS hA [2, 3] rfl
  refine z_callFiJ (wr := [(mt, .inr (20, [.ref mtc, .ref mtt, .int (-1), .int 0, .int (-1)])), (md, .inr (21, [.int 0, .ref mt, .ref lkp, .ref lcd, .ref mli, .ref mru, .ref lfn, .ref mhe, .ref mma, .ref lin, .ref lsc, .ref lva, .ref lpl, .ref (sa 51), .ref lbr, .ref lwa, .int 45, .int (-1)]))]) (va_runF (As := []) (rest := []) (hK.1 4 _ rfl).2 ⟨hx, hb, hml, hown, hts⟩ (k_hasNext l D cy sa sv dc (u13 0) mtt _ dc) (va_cwF 0 hts GF_RX15_142 rfl rfl rfl (hEm.2.2.1 5 _ rfl) HD___java_util_Iterator____hasNext______Z__ ⟨Nat.le_of_ble_eq_true rfl, Nat.le_of_ble_eq_true rfl⟩) ⟨z_blind EM_ok, va_recv hK hPc (ci := 4) (q0 := 0) rfl rfl, z_pre EM_ok hPc hK hDc hEm hS hFc⟩ rfl rfl hl.1 rfl (lv_room (Nat.le_of_ble_eq_true rfl)) dX15_meanStack_20 ⟨Nat.le_of_ble_eq_true rfl, Nat.le_of_ble_eq_true rfl⟩) hP hD hS hA [2, 3] [0, 1] rfl rfl (by decide) (by decide) (fun r_20 u20 H locs hw_20 hP hD hS => ?_)
  have hP : va_P D vwCl [(mt, .inr (20, [.ref mtc, .ref mtt, .int (-1), .int 0, .int (-1)])), (md, .inr (21, [.int 0, .ref mt, .ref lkp, .ref lcd, .ref mli, .ref mru, .ref lfn, .ref mhe, .ref mma, .ref lin, .ref lsc, .ref lva, .ref lpl, .ref (sa 51), .ref lbr, .ref lwa, .int 45, .int (-1)])), (u13 0, .inr (4, [.int 0, .int (-1), .int 0, .ref mtt])), (mtt, .inr (5, [.int 0, .ref dc, .int 0]))] H := hP
  have hD : va_D A [(mt, .inr (20, [.ref mtc, .ref mtt, .int (-1), .int 0, .int (-1)])), (md, .inr (21, [.int 0, .ref mt, .ref lkp, .ref lcd, .ref mli, .ref mru, .ref lfn, .ref mhe, .ref mma, .ref lin, .ref lsc, .ref lva, .ref lpl, .ref (sa 51), .ref lbr, .ref lwa, .int 45, .int (-1)])), (u13 0, .inr (4, [.int 0, .int (-1), .int 0, .ref mtt])), (mtt, .inr (5, [.int 0, .ref dc, .int 0]))] := hD
  obtain rfl := hw_20
  refine lv_if_eq (tgt := 48) hx hb dX15_meanStack_25 (by decide) (fun _ => ?_) (fun c_25 => absurd (by decide) c_25)
  refine lv_aload_n hx hb dX15_meanStack_48 rfl (lv_at hl 2 rfl) ?_
  refine lv_aload_n hx hb dX15_meanStack_49 rfl (lv_at hl 2 rfl) ?_
  refine va_get (D := D) (ci := 21) (v := .ref mt) (C := RX15) (T := TX15) (N := 18) hx hb hts inX15 hown hK hP 1 rfl rfl 1 (by decide) (hts _ K2087) (fun _ h9 => h9) rfl dX15_meanStack_50 ?_
  refine va_getN (D := D) (ci := 20) (v := .ref mtt) (C := RX14) (T := TX14) (N := 5) hx hb hts inX14 hown hK hP 0 rfl rfl 1 (by decide) (va_Nw.use rfl (hEn.1 _ K2063)) (fun _ h9 => h9) rfl dX15_meanStack_53 ?_
  have hPc := hP.sub (ws' := [(mtt, .inr (5, [.int 0, .ref dc, .int 0]))]) [3] rfl
  have hDc := hD.sub (ws' := [(mtt, .inr (5, [.int 0, .ref dc, .int 0]))]) [3] (by decide) rfl
  have hFc := va_free (wc := [(mtt, .inr (5, [.int 0, .ref dc, .int 0]))]) hD hS hA [3] rfl
  refine z_callFiJ (wr := [(mt, .inr (20, [.ref mtc, .ref mtt, .int (-1), .int 0, .int (-1)])), (md, .inr (21, [.int 0, .ref mt, .ref lkp, .ref lcd, .ref mli, .ref mru, .ref lfn, .ref mhe, .ref mma, .ref lin, .ref lsc, .ref lva, .ref lpl, .ref (sa 51), .ref lbr, .ref lwa, .int 45, .int (-1)])), (u13 0, .inr (4, [.int 0, .int (-1), .int 0, .ref mtt]))]) (va_runF (As := []) (rest := [.ref md]) (hK.1 5 _ rfl).2 ⟨hx, hb, hml, hown, hts⟩ (k_isEmpty l D cy sa sv dc mtt _ dc 0) (va_cwF 0 hts GF_RX15_444 rfl rfl rfl (hEm.2.2.1 4 _ rfl) HD___java_util_List____isEmpty______Z__ ⟨Nat.le_of_ble_eq_true rfl, Nat.le_of_ble_eq_true rfl⟩) ⟨z_blind EM_ok, va_recv hK hPc (ci := 5) (q0 := 0) rfl rfl, z_pre EM_ok hPc hK hDc hEm hS hFc⟩ rfl rfl hl.1 rfl (lv_room (Nat.le_of_ble_eq_true rfl)) dX15_meanStack_56 ⟨Nat.le_of_ble_eq_true rfl, Nat.le_of_ble_eq_true rfl⟩) hP hD hS hA [3] [0, 1, 2] rfl rfl (by decide) (by decide) (fun r_56 u56 H locs hw_56 hP hD hS => ?_)
  have hP : va_P D vwCl [(mt, .inr (20, [.ref mtc, .ref mtt, .int (-1), .int 0, .int (-1)])), (md, .inr (21, [.int 0, .ref mt, .ref lkp, .ref lcd, .ref mli, .ref mru, .ref lfn, .ref mhe, .ref mma, .ref lin, .ref lsc, .ref lva, .ref lpl, .ref (sa 51), .ref lbr, .ref lwa, .int 45, .int (-1)])), (u13 0, .inr (4, [.int 0, .int (-1), .int 0, .ref mtt])), (mtt, .inr (5, [.int 0, .ref dc, .int 0]))] H := hP
  have hD : va_D A [(mt, .inr (20, [.ref mtc, .ref mtt, .int (-1), .int 0, .int (-1)])), (md, .inr (21, [.int 0, .ref mt, .ref lkp, .ref lcd, .ref mli, .ref mru, .ref lfn, .ref mhe, .ref mma, .ref lin, .ref lsc, .ref lva, .ref lpl, .ref (sa 51), .ref lbr, .ref lwa, .int 45, .int (-1)])), (u13 0, .inr (4, [.int 0, .int (-1), .int 0, .ref mtt])), (mtt, .inr (5, [.int 0, .ref dc, .int 0]))] := hD
  obtain rfl := hw_56
  refine lv_iconst (v := 1) hx hb dX15_meanStack_61 (by decide) ?_
  have hPc := hP.sub (ws' := [(md, .inr (21, [.int 0, .ref mt, .ref lkp, .ref lcd, .ref mli, .ref mru, .ref lfn, .ref mhe, .ref mma, .ref lin, .ref lsc, .ref lva, .ref lpl, .ref (sa 51), .ref lbr, .ref lwa, .int 45, .int (-1)]))]) [1] rfl
  have hDc := hD.sub (ws' := [(md, .inr (21, [.int 0, .ref mt, .ref lkp, .ref lcd, .ref mli, .ref mru, .ref lfn, .ref mhe, .ref mma, .ref lin, .ref lsc, .ref lva, .ref lpl, .ref (sa 51), .ref lbr, .ref lwa, .int 45, .int (-1)]))]) [1] (by decide) rfl
  have hFc := va_free (wc := [(md, .inr (21, [.int 0, .ref mt, .ref lkp, .ref lcd, .ref mli, .ref mru, .ref lfn, .ref mhe, .ref mma, .ref lin, .ref lsc, .ref lva, .ref lpl, .ref (sa 51), .ref lbr, .ref lwa, .int 45, .int (-1)]))]) hD hS hA [1] rfl
  refine z_calliJ (wr := [(mt, .inr (20, [.ref mtc, .ref mtt, .int (-1), .int 0, .int (-1)])), (u13 0, .inr (4, [.int 0, .int (-1), .int 0, .ref mtt])), (mtt, .inr (5, [.int 0, .ref dc, .int 0]))]) (va_runV (As := [.int 1, .int 1]) (rest := []) ⟨hx, hb, hml, hown, hts⟩ (k_fails1 l D cy sa sv dc md _ mt lkp lcd mli mru lfn mhe mma lin lsc lva lpl lbr lwa) (cwV 2 hts GV_RX15_98 rfl rfl rfl ⟨rfl, HD_yX15_fails⟩ ⟨Nat.le_of_ble_eq_true rfl, Nat.le_of_ble_eq_true rfl⟩) ⟨z_blind EM_ok, va_recv hK hPc (ci := 21) (q0 := 0) rfl rfl, z_pre EM_ok hPc hK hDc hEm hS hFc⟩ rfl rfl hl.1 rfl (lv_room (Nat.le_of_ble_eq_true rfl)) dX15_meanStack_62 ⟨Nat.le_of_ble_eq_true rfl, Nat.le_of_ble_eq_true rfl⟩) hP hD hS hA [1] [0, 2, 3] rfl rfl (by decide) (by decide) (fun r_62 u62 H locs hw_62 hP hD hS => ?_)
  have hP : va_P D vwCl [(mt, .inr (20, [.ref mtc, .ref mtt, .int (-1), .int 0, .int (-1)])), (u13 0, .inr (4, [.int 0, .int (-1), .int 0, .ref mtt])), (mtt, .inr (5, [.int 0, .ref dc, .int 0])), (md, .inr (21, [.int 1, .ref mt, .ref lkp, .ref lcd, .ref mli, .ref mru, .ref lfn, .ref mhe, .ref mma, .ref lin, .ref lsc, .ref lva, .ref lpl, .ref (sa 51), .ref lbr, .ref lwa, .int 45, .int (-1)]))] H := hP
  have hD : va_D A [(mt, .inr (20, [.ref mtc, .ref mtt, .int (-1), .int 0, .int (-1)])), (u13 0, .inr (4, [.int 0, .int (-1), .int 0, .ref mtt])), (mtt, .inr (5, [.int 0, .ref dc, .int 0])), (md, .inr (21, [.int 1, .ref mt, .ref lkp, .ref lcd, .ref mli, .ref mru, .ref lfn, .ref mhe, .ref mma, .ref lin, .ref lsc, .ref lva, .ref lpl, .ref (sa 51), .ref lbr, .ref lwa, .int 45, .int (-1)]))] := hD
  obtain rfl := hw_62
  refine lv_if_eq (tgt := 72) hx hb dX15_meanStack_65 (by decide) (fun c_65 => absurd c_65 (by decide)) (fun _ => ?_)
  refine lv_dconst0 hx hb dX15_meanStack_68 ?_
  refine lv_goto (tgt := 88) hx hb dX15_meanStack_69 (by decide) ?_
  have hP := hP.sub (ws' := [(md, .inr (21, [.int 1, .ref mt, .ref lkp, .ref lcd, .ref mli, .ref mru, .ref lfn, .ref mhe, .ref mma, .ref lin, .ref lsc, .ref lva, .ref lpl, .ref (sa 51), .ref lbr, .ref lwa, .int 45, .int (-1)]))]) [3] rfl
  have hD := hD.sub (ws' := [(md, .inr (21, [.int 1, .ref mt, .ref lkp, .ref lcd, .ref mli, .ref mru, .ref lfn, .ref mhe, .ref mma, .ref lin, .ref lsc, .ref lva, .ref lpl, .ref (sa 51), .ref lbr, .ref lwa, .int 45, .int (-1)]))]) [3] (by decide) rfl
  exact z_retd () hx hb hr hlocks hK (trivial) hP hD hS (Nat.le_of_ble_eq_true rfl) (Nat.le_of_ble_eq_true rfl) dX15_meanStack_88
