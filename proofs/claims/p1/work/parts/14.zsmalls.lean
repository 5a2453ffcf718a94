set_option maxHeartbeats 4000000 in
set_option maxRecDepth 100000 in
theorem k_begins (l : Launch) (D : va_G) (cy : Nat → ClassId) (sa : Nat → Nat) (sv : Nat → Nat) (dc : Nat) (md : Nat) (sz : Nat) (mt lkp lcd mli mru lfn mhe mma lin lsc lva lpl lbr lwa : Nat) : Met l yX15_begins (Cond.code yX15_begins cX15_begins 1 none :: ALL) ({ frames := 0, cells := 0, slots := 0, locals := 0 }) (zPc D vwCl (TY cy) (EM sa sv dc) [.ref md] [(md, .inr (21, [.int 0, .ref mt, .ref lkp, .ref lcd, .ref mli, .ref mru, .ref lfn, .ref mhe, .ref mma, .ref lin, .ref lsc, .ref lva, .ref lpl, .ref (sa 51), .ref lbr, .ref lwa, .int 45, .int (-1)]))] sz) (va_Qv (fun _ => True) (zB D vwCl (TY cy) (S := Unit) (fun u => [(md, .inr (21, [.int 0, .ref mt, .ref lkp, .ref lcd, .ref mli, .ref mru, .ref lfn, .ref mhe, .ref mma, .ref lin, .ref lsc, .ref lva, .ref lpl, .ref (sa 51), .ref lbr, .ref lwa, .int 45, .int (-1)]))]) (va_A [(md, .inr (21, [.int 0, .ref mt, .ref lkp, .ref lcd, .ref mli, .ref mru, .ref lfn, .ref mhe, .ref mma, .ref lin, .ref lsc, .ref lva, .ref lpl, .ref (sa 51), .ref lbr, .ref lwa, .int 45, .int (-1)]))] sz)) (va_A [(md, .inr (21, [.int 0, .ref mt, .ref lkp, .ref lcd, .ref mli, .ref mru, .ref lfn, .ref mhe, .ref mma, .ref lin, .ref lsc, .ref lva, .ref lpl, .ref (sa 51), .ref lbr, .ref lwa, .int 45, .int (-1)]))] sz)) 0 0 (va_A [(md, .inr (21, [.int 0, .ref mt, .ref lkp, .ref lcd, .ref mli, .ref mru, .ref lfn, .ref mhe, .ref mma, .ref lin, .ref lsc, .ref lva, .ref lpl, .ref (sa 51), .ref lbr, .ref lwa, .int 45, .int (-1)]))] sz) := by
  refine z_start (Qc := fun A => va_Qv (fun _ => True) (zB D vwCl (TY cy) (S := Unit) (fun u => [(md, .inr (21, [.int 0, .ref mt, .ref lkp, .ref lcd, .ref mli, .ref mru, .ref lfn, .ref mhe, .ref mma, .ref lin, .ref lsc, .ref lva, .ref lpl, .ref (sa 51), .ref lbr, .ref lwa, .int 45, .int (-1)]))]) A) A) PN_RX15 (Nat.le_of_ble_eq_true rfl) ?_
  intro p e s m below meth c A ls hx hb hr hml hts hown hlocks hin hA hP hK hD hS hEn hl
  have hown : s.vm.findClass RX15 = some m.cls := hown
  have hEm := hEn
  have hEn := hEn.1
  have hl : lv_has ls 1 [(0, .ref md)] := hl
  have hS0 := hS
  refine lv_aload_n hx hb dX15_begins_0 rfl (lv_at hl 0 rfl) ?_
  refine lv_iconst (v := 0) hx hb dX15_begins_1 (by decide) ?_
  refine va_put (D := D) (ci := 21) (v := .int 0) (ty := .int) (C := RX15) (T := TX15) (N := 18) hx hb hts inX15 tyX15 tyX15_ok nmX15 hown hK hP hD hS 0 rfl rfl 0 (by decide) (hts _ K2086) (fun _ h9 => h9) rfl (by decide +kernel) rfl rfl (Nat.le_of_ble_eq_true rfl) dX15_begins_2 (fun H locs hP hD hS => ?_)
  have hP : va_P D vwCl [(md, .inr (21, [.int 0, .ref mt, .ref lkp, .ref lcd, .ref mli, .ref mru, .ref lfn, .ref mhe, .ref mma, .ref lin, .ref lsc, .ref lva, .ref lpl, .ref (sa 51), .ref lbr, .ref lwa, .int 45, .int (-1)]))] H := hP
  have hD : va_D A [(md, .inr (21, [.int 0, .ref mt, .ref lkp, .ref lcd, .ref mli, .ref mru, .ref lfn, .ref mhe, .ref mma, .ref lin, .ref lsc, .ref lva, .ref lpl, .ref (sa 51), .ref lbr, .ref lwa, .int 45, .int (-1)]))] := hD
  exact z_retv () hx hb hr hlocks hK (trivial) hP hD hS (Nat.le_of_ble_eq_true rfl) (Nat.le_of_ble_eq_true rfl) dX15_begins_5
set_option maxHeartbeats 4000000 in
set_option maxRecDepth 100000 in
theorem k_in (l : Launch) (D : va_G) (cy : Nat → ClassId) (sa : Nat → Nat) (sv : Nat → Nat) (dc : Nat) (sz : Nat) (v lo hi : Int64) : Met l yX15_in (Cond.code yX15_in cX15_in 6 (some .boolean) :: ALL) ({ frames := 0, cells := 0, slots := 0, locals := 0 }) (zPc D vwCl (TY cy) (EM sa sv dc) [.long v, .long lo, .long hi] [] sz) (va_Qi (fun r _ => r = inL v lo hi) (zB D vwCl (TY cy) (S := Unit) (fun u => []) (va_A [] sz)) (va_A [] sz)) 0 0 (va_A [] sz) := by
  refine z_start (Qc := fun A => va_Qi (fun r _ => r = inL v lo hi) (zB D vwCl (TY cy) (S := Unit) (fun u => []) A) A) PN_RX15 (Nat.le_of_ble_eq_true rfl) ?_
  intro p e s m below meth c A ls hx hb hr hml hts hown hlocks hin hA hP hK hD hS hEn hl
  have hown : s.vm.findClass RX15 = some m.cls := hown
  have hEm := hEn
  have hEn := hEn.1
  have hl : lv_has ls 6 [(0, .long v), (2, .long lo), (4, .long hi)] := hl
  have hS0 := hS
  refine lv_lload_n hx hb dX15_in_0 rfl (lv_at hl 0 rfl) ?_
  refine lv_lload_n hx hb dX15_in_1 rfl (lv_at hl 1 rfl) ?_
  refine W.lcmp hx hb dX15_in_2 ?_
  refine lv_if_lt (tgt := 17) hx hb dX15_in_3 (by decide) (fun c_3 => ?_) (fun c_3 => ?_)
  · refine lv_iconst (v := 0) hx hb dX15_in_17 (by decide) ?_
    exact z_reti () hx hb hr rfl hlocks hK ((if_pos ((lg_cmp_lt _ _).mp c_3)).symm) hP hD hS (Nat.le_of_ble_eq_true rfl) (Nat.le_of_ble_eq_true rfl) dX15_in_18
  · refine lv_lload_n hx hb dX15_in_6 rfl (lv_at hl 0 rfl) ?_
    refine lv_lload hx hb dX15_in_7 (lv_at hl 2 rfl) ?_
    refine W.lcmp hx hb dX15_in_9 ?_
    refine lv_if_gt (tgt := 17) hx hb dX15_in_10 (by decide) (fun c_10 => ?_) (fun c_10 => ?_)
    · refine lv_iconst (v := 0) hx hb dX15_in_17 (by decide) ?_
      exact z_reti () hx hb hr rfl hlocks hK (((if_neg (fun z => c_3 ((lg_cmp_lt _ _).mpr z))).trans (if_pos ((lg_cmp_gt _ _).mp c_10))).symm) hP hD hS (Nat.le_of_ble_eq_true rfl) (Nat.le_of_ble_eq_true rfl) dX15_in_18
    · refine lv_iconst (v := 1) hx hb dX15_in_13 (by decide) ?_
      refine lv_goto (tgt := 18) hx hb dX15_in_14 (by decide) ?_
      exact z_reti () hx hb hr rfl hlocks hK (((if_neg (fun z => c_3 ((lg_cmp_lt _ _).mpr z))).trans (if_neg (fun z => c_10 ((lg_cmp_gt _ _).mpr z)))).symm) hP hD hS (Nat.le_of_ble_eq_true rfl) (Nat.le_of_ble_eq_true rfl) dX15_in_18
set_option maxHeartbeats 4000000 in
set_option maxRecDepth 100000 in
theorem k_isOf (l : Launch) (D : va_G) (cy : Nat → ClassId) (sa : Nat → Nat) (sv : Nat → Nat) (dc : Nat) (h : Nat) (sz : Nat) (ed : Nat) (p0 : Int32) : Met l yX15_isOf (Cond.code yX15_isOf cX15_isOf 2 (some .boolean) :: ALL) ({ frames := 1, cells := 0, slots := 0, locals := 25 }) (zPc D vwCl (TY cy) (EM sa sv dc) [.ref h, .int p0] [(h, .inr (5, [.int 0, .ref ed, .int 0]))] sz) (va_Qi (fun r _ => r = 0) (zB D vwCl (TY cy) (S := Unit) (fun u => [(h, .inr (5, [.int 0, .ref ed, .int 0]))]) (va_A [(h, .inr (5, [.int 0, .ref ed, .int 0]))] sz)) (va_A [(h, .inr (5, [.int 0, .ref ed, .int 0]))] sz)) 0 0 (va_A [(h, .inr (5, [.int 0, .ref ed, .int 0]))] sz) := by
  refine z_start (Qc := fun A => va_Qi (fun r _ => r = 0) (zB D vwCl (TY cy) (S := Unit) (fun u => [(h, .inr (5, [.int 0, .ref ed, .int 0]))]) A) A) PN_RX15 (Nat.le_of_ble_eq_true rfl) ?_
  intro p e s m below meth c A ls hx hb hr hml hts hown hlocks hin hA hP hK hD hS hEn hl
  have hown : s.vm.findClass RX15 = some m.cls := hown
  have hEm := hEn
  have hEn := hEn.1
  have hl : lv_has ls 2 [(0, .ref h), (1, .int p0)] := hl
  have hS0 := hS
  refine lv_iload_n hx hb dX15_isOf_0 rfl (lv_at hl 1 rfl) ?_
  refine lv_i2l hx hb dX15_isOf_1 rfl ?_
  refine lv_lconst (v := 0) hx hb dX15_isOf_2 (by decide) ?_
  refine lv_aload_n hx hb dX15_isOf_3 rfl (lv_at hl 0 rfl) ?_
  have hPc := hP.sub (ws' := [(h, .inr (5, [.int 0, .ref ed, .int 0]))]) [0] rfl
  have hDc := hD.sub (ws' := [(h, .inr (5, [.int 0, .ref ed, .int 0]))]) [0] (by decide) rfl
  have hFc := va_free (wc := [(h, .inr (5, [.int 0, .ref ed, .int 0]))]) hD hS hA [0] rfl
  refine z_callFiJ (wr := []) (va_runF (As := []) (rest := [.long 0, .long p0.toInt64]) (hK.1 5 _ rfl).2 ⟨hx, hb, hml, hown, hts⟩ (k_size l D cy sa sv dc h _ ed 0 0) (va_cwF 0 hts GF_RX15_7 rfl rfl rfl (hEm.2.2.1 0 _ rfl) HD___java_util_List____size______I__ ⟨Nat.le_of_ble_eq_true rfl, Nat.le_of_ble_eq_true rfl⟩) ⟨z_blind EM_ok, va_recv hK hPc (ci := 5) (q0 := 0) rfl rfl, z_pre EM_ok hPc hK hDc hEm hS hFc⟩ rfl rfl hl.1 rfl (lv_room (Nat.le_of_ble_eq_true rfl)) dX15_isOf_4 ⟨Nat.le_of_ble_eq_true rfl, Nat.le_of_ble_eq_true rfl⟩) hP hD hS hA [0] [] rfl rfl (by decide) (by decide) (fun r_4 u4 H locs hw_4 hP hD hS => ?_)
  have hP : va_P D vwCl [(h, .inr (5, [.int 0, .ref ed, .int 0]))] H := hP
  have hD : va_D A [(h, .inr (5, [.int 0, .ref ed, .int 0]))] := hD
  obtain rfl := hw_4
  refine lv_iconst (v := 1) hx hb dX15_isOf_9 (by decide) ?_
  refine lv_isub hx hb dX15_isOf_10 ?_
  refine lv_topi (fun v_1 hv_1 => ?_)
  obtain rfl : v_1 = (-1) := hv_1.trans (by decide)
  refine lv_i2l (v := (-1)) hx hb dX15_isOf_11 (by decide) ?_
  have hPc := hP.sub (ws' := []) [] rfl
  have hDc := hD.sub (ws' := []) [] (by decide) rfl
  have hFc := va_free (wc := []) hD hS hA [] rfl
  refine z_calliJ (wr := [(h, .inr (5, [.int 0, .ref ed, .int 0]))]) (va_runS (As := [.long p0.toInt64, .long 0, .long (-1)]) (rest := []) ⟨hx, hb, hml, hown, hts⟩ (k_in l D cy sa sv dc _ (p0.toInt64) 0 (-1)) (va_cwS 3 hts GS_RX15_13 rfl rfl rfl HD_yX15_in ⟨Nat.le_of_ble_eq_true rfl, Nat.le_of_ble_eq_true rfl⟩) ⟨z_blind EM_ok, z_pre EM_ok hPc hK hDc hEm hS hFc⟩ rfl rfl hl.1 rfl (lv_room (Nat.le_of_ble_eq_true rfl)) dX15_isOf_12 ⟨Nat.le_of_ble_eq_true rfl, Nat.le_of_ble_eq_true rfl⟩) hP hD hS hA [] [0] rfl rfl (by decide) (by decide) (fun r_12 u12 H locs hw_12 hP hD hS => ?_)
  have hP : va_P D vwCl [(h, .inr (5, [.int 0, .ref ed, .int 0]))] H := hP
  have hD : va_D A [(h, .inr (5, [.int 0, .ref ed, .int 0]))] := hD
  obtain rfl := hw_12
  exact z_reti () hx hb hr (inL_nar _ _ _) hlocks hK ((inL_no _)) hP hD hS (Nat.le_of_ble_eq_true rfl) (Nat.le_of_ble_eq_true rfl) dX15_isOf_15
set_option maxHeartbeats 4000000 in
set_option maxRecDepth 100000 in
theorem k_fails1 (l : Launch) (D : va_G) (cy : Nat → ClassId) (sa : Nat → Nat) (sv : Nat → Nat) (dc : Nat) (md : Nat) (sz : Nat) (mt lkp lcd mli mru lfn mhe mma lin lsc lva lpl lbr lwa : Nat) : Met l yX15_fails (Cond.code yX15_fails cX15_fails 3 (some .boolean) :: ALL) ({ frames := 0, cells := 0, slots := 0, locals := 0 }) (zPc D vwCl (TY cy) (EM sa sv dc) [.ref md, .int 1, .int 1] [(md, .inr (21, [.int 0, .ref mt, .ref lkp, .ref lcd, .ref mli, .ref mru, .ref lfn, .ref mhe, .ref mma, .ref lin, .ref lsc, .ref lva, .ref lpl, .ref (sa 51), .ref lbr, .ref lwa, .int 45, .int (-1)]))] sz) (va_Qi (fun r _ => r = 1) (zB D vwCl (TY cy) (S := Unit) (fun u => [(md, .inr (21, [.int 1, .ref mt, .ref lkp, .ref lcd, .ref mli, .ref mru, .ref lfn, .ref mhe, .ref mma, .ref lin, .ref lsc, .ref lva, .ref lpl, .ref (sa 51), .ref lbr, .ref lwa, .int 45, .int (-1)]))]) (va_A [(md, .inr (21, [.int 0, .ref mt, .ref lkp, .ref lcd, .ref mli, .ref mru, .ref lfn, .ref mhe, .ref mma, .ref lin, .ref lsc, .ref lva, .ref lpl, .ref (sa 51), .ref lbr, .ref lwa, .int 45, .int (-1)]))] sz)) (va_A [(md, .inr (21, [.int 0, .ref mt, .ref lkp, .ref lcd, .ref mli, .ref mru, .ref lfn, .ref mhe, .ref mma, .ref lin, .ref lsc, .ref lva, .ref lpl, .ref (sa 51), .ref lbr, .ref lwa, .int 45, .int (-1)]))] sz)) 0 0 (va_A [(md, .inr (21, [.int 0, .ref mt, .ref lkp, .ref lcd, .ref mli, .ref mru, .ref lfn, .ref mhe, .ref mma, .ref lin, .ref lsc, .ref lva, .ref lpl, .ref (sa 51), .ref lbr, .ref lwa, .int 45, .int (-1)]))] sz) := by
  refine z_start (Qc := fun A => va_Qi (fun r _ => r = 1) (zB D vwCl (TY cy) (S := Unit) (fun u => [(md, .inr (21, [.int 1, .ref mt, .ref lkp, .ref lcd, .ref mli, .ref mru, .ref lfn, .ref mhe, .ref mma, .ref lin, .ref lsc, .ref lva, .ref lpl, .ref (sa 51), .ref lbr, .ref lwa, .int 45, .int (-1)]))]) A) A) PN_RX15 (Nat.le_of_ble_eq_true rfl) ?_
  intro p e s m below meth c A ls hx hb hr hml hts hown hlocks hin hA hP hK hD hS hEn hl
  have hown : s.vm.findClass RX15 = some m.cls := hown
  have hEm := hEn
  have hEn := hEn.1
  have hl : lv_has ls 3 [(0, .ref md), (1, .int 1), (2, .int 1)] := hl
  have hS0 := hS
  refine lv_aload_n hx hb dX15_fails_0 rfl (lv_at hl 0 rfl) ?_
  refine va_get (D := D) (ci := 21) (v := .int 0) (C := RX15) (T := TX15) (N := 18) hx hb hts inX15 hown hK hP 0 rfl rfl 0 (by decide) (hts _ K2086) (fun _ h9 => h9) rfl dX15_fails_1 ?_
  refine lv_if_ne (tgt := 16) hx hb dX15_fails_4 (by decide) (fun c_4 => absurd (by decide) c_4) (fun _ => ?_)
  refine lv_iload_n hx hb dX15_fails_7 rfl (lv_at hl 1 rfl) ?_
  refine lv_if_eq (tgt := 16) hx hb dX15_fails_8 (by decide) (fun c_8 => absurd c_8 (by decide)) (fun _ => ?_)
  refine lv_aload_n hx hb dX15_fails_11 rfl (lv_at hl 0 rfl) ?_
  refine lv_iload_n hx hb dX15_fails_12 rfl (lv_at hl 2 rfl) ?_
  refine va_put (D := D) (ci := 21) (v := .int 1) (ty := .int) (C := RX15) (T := TX15) (N := 18) hx hb hts inX15 tyX15 tyX15_ok nmX15 hown hK hP hD hS 0 rfl rfl 0 (by decide) (hts _ K2086) (fun _ h9 => h9) rfl (by decide +kernel) rfl rfl (Nat.le_of_ble_eq_true rfl) dX15_fails_13 (fun H locs hP hD hS => ?_)
  have hP : va_P D vwCl [(md, .inr (21, [.int 1, .ref mt, .ref lkp, .ref lcd, .ref mli, .ref mru, .ref lfn, .ref mhe, .ref mma, .ref lin, .ref lsc, .ref lva, .ref lpl, .ref (sa 51), .ref lbr, .ref lwa, .int 45, .int (-1)]))] H := hP
  have hD : va_D A [(md, .inr (21, [.int 1, .ref mt, .ref lkp, .ref lcd, .ref mli, .ref mru, .ref lfn, .ref mhe, .ref mma, .ref lin, .ref lsc, .ref lva, .ref lpl, .ref (sa 51), .ref lbr, .ref lwa, .int 45, .int (-1)]))] := hD
  refine lv_aload_n hx hb dX15_fails_16 rfl (lv_at hl 0 rfl) ?_
  refine va_get (D := D) (ci := 21) (v := .int 1) (C := RX15) (T := TX15) (N := 18) hx hb hts inX15 hown hK hP 0 rfl rfl 0 (by decide) (hts _ K2086) (fun _ h9 => h9) rfl dX15_fails_17 ?_
  refine lv_if_le (tgt := 27) hx hb dX15_fails_20 (by decide) (fun c_20 => absurd c_20 (by decide)) (fun _ => ?_)
  refine lv_iconst (v := 1) hx hb dX15_fails_23 (by decide) ?_
  refine lv_goto (tgt := 28) hx hb dX15_fails_24 (by decide) ?_
  exact z_reti () hx hb hr rfl hlocks hK (rfl) hP hD hS (Nat.le_of_ble_eq_true rfl) (Nat.le_of_ble_eq_true rfl) dX15_fails_28
set_option maxHeartbeats 4000000 in
set_option maxRecDepth 100000 in
theorem k_fails0 (l : Launch) (D : va_G) (cy : Nat → ClassId) (sa : Nat → Nat) (sv : Nat → Nat) (dc : Nat) (md : Nat) (sz : Nat) (mt lkp lcd mli mru lfn mhe mma lin lsc lva lpl lbr lwa : Nat) (p0 : Int32) : Met l yX15_fails (Cond.code yX15_fails cX15_fails 3 (some .boolean) :: ALL) ({ frames := 0, cells := 0, slots := 0, locals := 0 }) (zPc D vwCl (TY cy) (EM sa sv dc) [.ref md, .int 0, .int p0] [(md, .inr (21, [.int 0, .ref mt, .ref lkp, .ref lcd, .ref mli, .ref mru, .ref lfn, .ref mhe, .ref mma, .ref lin, .ref lsc, .ref lva, .ref lpl, .ref (sa 51), .ref lbr, .ref lwa, .int 45, .int (-1)]))] sz) (va_Qi (fun r _ => r = 0) (zB D vwCl (TY cy) (S := Unit) (fun u => [(md, .inr (21, [.int 0, .ref mt, .ref lkp, .ref lcd, .ref mli, .ref mru, .ref lfn, .ref mhe, .ref mma, .ref lin, .ref lsc, .ref lva, .ref lpl, .ref (sa 51), .ref lbr, .ref lwa, .int 45, .int (-1)]))]) (va_A [(md, .inr (21, [.int 0, .ref mt, .ref lkp, .ref lcd, .ref mli, .ref mru, .ref lfn, .ref mhe, .ref mma, .ref lin, .ref lsc, .ref lva, .ref lpl, .ref (sa 51), .ref lbr, .ref lwa, .int 45, .int (-1)]))] sz)) (va_A [(md, .inr (21, [.int 0, .ref mt, .ref lkp, .ref lcd, .ref mli, .ref mru, .ref lfn, .ref mhe, .ref mma, .ref lin, .ref lsc, .ref lva, .ref lpl, .ref (sa 51), .ref lbr, .ref lwa, .int 45, .int (-1)]))] sz)) 0 0 (va_A [(md, .inr (21, [.int 0, .ref mt, .ref lkp, .ref lcd, .ref mli, .ref mru, .ref lfn, .ref mhe, .ref mma, .ref lin, .ref lsc, .ref lva, .ref lpl, .ref (sa 51), .ref lbr, .ref lwa, .int 45, .int (-1)]))] sz) := by
  refine z_start (Qc := fun A => va_Qi (fun r _ => r = 0) (zB D vwCl (TY cy) (S := Unit) (fun u => [(md, .inr (21, [.int 0, .ref mt, .ref lkp, .ref lcd, .ref mli, .ref mru, .ref lfn, .ref mhe, .ref mma, .ref lin, .ref lsc, .ref lva, .ref lpl, .ref (sa 51), .ref lbr, .ref lwa, .int 45, .int (-1)]))]) A) A) PN_RX15 (Nat.le_of_ble_eq_true rfl) ?_
  intro p e s m below meth c A ls hx hb hr hml hts hown hlocks hin hA hP hK hD hS hEn hl
  have hown : s.vm.findClass RX15 = some m.cls := hown
  have hEm := hEn
  have hEn := hEn.1
  have hl : lv_has ls 3 [(0, .ref md), (1, .int 0), (2, .int p0)] := hl
  have hS0 := hS
  refine lv_aload_n hx hb dX15_fails_0 rfl (lv_at hl 0 rfl) ?_
  refine va_get (D := D) (ci := 21) (v := .int 0) (C := RX15) (T := TX15) (N := 18) hx hb hts inX15 hown hK hP 0 rfl rfl 0 (by decide) (hts _ K2086) (fun _ h9 => h9) rfl dX15_fails_1 ?_
  refine lv_if_ne (tgt := 16) hx hb dX15_fails_4 (by decide) (fun c_4 => absurd (by decide) c_4) (fun _ => ?_)
  refine lv_iload_n hx hb dX15_fails_7 rfl (lv_at hl 1 rfl) ?_
  refine lv_if_eq (tgt := 16) hx hb dX15_fails_8 (by decide) (fun _ => ?_) (fun c_8 => absurd (by decide) c_8)
  refine lv_aload_n hx hb dX15_fails_16 rfl (lv_at hl 0 rfl) ?_
  refine va_get (D := D) (ci := 21) (v := .int 0) (C := RX15) (T := TX15) (N := 18) hx hb hts inX15 hown hK hP 0 rfl rfl 0 (by decide) (hts _ K2086) (fun _ h9 => h9) rfl dX15_fails_17 ?_
  refine lv_if_le (tgt := 27) hx hb dX15_fails_20 (by decide) (fun _ => ?_) (fun c_20 => absurd (by decide) c_20)
  refine lv_iconst (v := 0) hx hb dX15_fails_27 (by decide) ?_
  exact z_reti () hx hb hr rfl hlocks hK (rfl) hP hD hS (Nat.le_of_ble_eq_true rfl) (Nat.le_of_ble_eq_true rfl) dX15_fails_28
set_option maxHeartbeats 4000000 in
set_option maxRecDepth 100000 in
theorem k_noThread (l : Launch) (D : va_G) (cy : Nat → ClassId) (sa : Nat → Nat) (sv : Nat → Nat) (dc : Nat) (md mt mtt : Nat) (sz : Nat) (lkp lcd mli mru lfn mhe mma lin lsc lva lpl lbr lwa mtc : Nat) (p0 : Int32) : Met l yX15_noThread (Cond.code yX15_noThread cX15_noThread 2 (some .boolean) :: ALL) ({ frames := 2, cells := 0, slots := 0, locals := 46 }) (zPc D vwCl (TY cy) (EM sa sv dc) [.ref md, .int p0] [(md, .inr (21, [.int 0, .ref mt, .ref lkp, .ref lcd, .ref mli, .ref mru, .ref lfn, .ref mhe, .ref mma, .ref lin, .ref lsc, .ref lva, .ref lpl, .ref (sa 51), .ref lbr, .ref lwa, .int 45, .int (-1)])), (mt, .inr (20, [.ref mtc, .ref mtt, .int (-1), .int 0, .int (-1)])), (mtt, .inr (5, [.int 0, .ref dc, .int 0]))] sz) (va_Qi (fun r _ => r = 1) (zB D vwCl (TY cy) (S := Unit) (fun u => [(md, .inr (21, [.int 1, .ref mt, .ref lkp, .ref lcd, .ref mli, .ref mru, .ref lfn, .ref mhe, .ref mma, .ref lin, .ref lsc, .ref lva, .ref lpl, .ref (sa 51), .ref lbr, .ref lwa, .int 45, .int (-1)]))]) (va_A [(md, .inr (21, [.int 0, .ref mt, .ref lkp, .ref lcd, .ref mli, .ref mru, .ref lfn, .ref mhe, .ref mma, .ref lin, .ref lsc, .ref lva, .ref lpl, .ref (sa 51), .ref lbr, .ref lwa, .int 45, .int (-1)])), (mt, .inr (20, [.ref mtc, .ref mtt, .int (-1), .int 0, .int (-1)])), (mtt, .inr (5, [.int 0, .ref dc, .int 0]))] sz)) (va_A [(md, .inr (21, [.int 0, .ref mt, .ref lkp, .ref lcd, .ref mli, .ref mru, .ref lfn, .ref mhe, .ref mma, .ref lin, .ref lsc, .ref lva, .ref lpl, .ref (sa 51), .ref lbr, .ref lwa, .int 45, .int (-1)])), (mt, .inr (20, [.ref mtc, .ref mtt, .int (-1), .int 0, .int (-1)])), (mtt, .inr (5, [.int 0, .ref dc, .int 0]))] sz)) 0 0 (va_A [(md, .inr (21, [.int 0, .ref mt, .ref lkp, .ref lcd, .ref mli, .ref mru, .ref lfn, .ref mhe, .ref mma, .ref lin, .ref lsc, .ref lva, .ref lpl, .ref (sa 51), .ref lbr, .ref lwa, .int 45, .int (-1)])), (mt, .inr (20, [.ref mtc, .ref mtt, .int (-1), .int 0, .int (-1)])), (mtt, .inr (5, [.int 0, .ref dc, .int 0]))] sz) := by
  refine z_start (Qc := fun A => va_Qi (fun r _ => r = 1) (zB D vwCl (TY cy) (S := Unit) (fun u => [(md, .inr (21, [.int 1, .ref mt, .ref lkp, .ref lcd, .ref mli, .ref mru, .ref lfn, .ref mhe, .ref mma, .ref lin, .ref lsc, .ref lva, .ref lpl, .ref (sa 51), .ref lbr, .ref lwa, .int 45, .int (-1)]))]) A) A) PN_RX15 (Nat.le_of_ble_eq_true rfl) ?_
  intro p e s m below meth c A ls hx hb hr hml hts hown hlocks hin hA hP hK hD hS hEn hl
  have hown : s.vm.findClass RX15 = some m.cls := hown
  have hEm := hEn
  have hEn := hEn.1
  have hl : lv_has ls 2 [(0, .ref md), (1, .int p0)] := hl
  have hS0 := hS
  refine lv_aload_n hx hb dX15_noThread_0 rfl (lv_at hl 0 rfl) ?_
  refine lv_aload_n hx hb dX15_noThread_1 rfl (lv_at hl 0 rfl) ?_
  refine va_get (D := D) (ci := 21) (v := .ref mt) (C := RX15) (T := TX15) (N := 18) hx hb hts inX15 hown hK hP 0 rfl rfl 1 (by decide) (hts _ K2087) (fun _ h9 => h9) rfl dX15_noThread_2 ?_
  refine va_getN (D := D) (ci := 20) (v := .ref mtt) (C := RX14) (T := TX14) (N := 5) hx hb hts inX14 hown hK hP 1 rfl rfl 1 (by decide) (va_Nw.use rfl (hEn.1 _ K2063)) (fun _ h9 => h9) rfl dX15_noThread_5 ?_
  refine lv_iload_n hx hb dX15_noThread_8 rfl (lv_at hl 1 rfl) ?_
  have hPc := hP.sub (ws' := [(mtt, .inr (5, [.int 0, .ref dc, .int 0]))]) [2] rfl
  have hDc := hD.sub (ws' := [(mtt, .inr (5, [.int 0, .ref dc, .int 0]))]) [2] (by decide) rfl
  have hFc := va_free (wc := [(mtt, .inr (5, [.int 0, .ref dc, .int 0]))]) hD hS hA [2] rfl
  refine z_calliJ (wr := [(md, .inr (21, [.int 0, .ref mt, .ref lkp, .ref lcd, .ref mli, .ref mru, .ref lfn, .ref mhe, .ref mma, .ref lin, .ref lsc, .ref lva, .ref lpl, .ref (sa 51), .ref lbr, .ref lwa, .int 45, .int (-1)])), (mt, .inr (20, [.ref mtc, .ref mtt, .int (-1), .int 0, .int (-1)]))]) (va_runS (As := [.ref mtt, .int p0]) (rest := [.ref md]) ⟨hx, hb, hml, hown, hts⟩ (k_isOf l D cy sa sv dc mtt _ dc p0) (va_cwS 2 hts GS_RX15_94 rfl rfl rfl HD_yX15_isOf ⟨Nat.le_of_ble_eq_true rfl, Nat.le_of_ble_eq_true rfl⟩) ⟨z_blind EM_ok, z_pre EM_ok hPc hK hDc hEm hS hFc⟩ rfl rfl hl.1 rfl (lv_room (Nat.le_of_ble_eq_true rfl)) dX15_noThread_9 ⟨Nat.le_of_ble_eq_true rfl, Nat.le_of_ble_eq_true rfl⟩) hP hD hS hA [2] [0, 1] rfl rfl (by decide) (by decide) (fun r_9 u9 H locs hw_9 hP hD hS => ?_)
  have hP : va_P D vwCl [(md, .inr (21, [.int 0, .ref mt, .ref lkp, .ref lcd, .ref mli, .ref mru, .ref lfn, .ref mhe, .ref mma, .ref lin, .ref lsc, .ref lva, .ref lpl, .ref (sa 51), .ref lbr, .ref lwa, .int 45, .int (-1)])), (mt, .inr (20, [.ref mtc, .ref mtt, .int (-1), .int 0, .int (-1)])), (mtt, .inr (5, [.int 0, .ref dc, .int 0]))] H := hP
  have hD : va_D A [(md, .inr (21, [.int 0, .ref mt, .ref lkp, .ref lcd, .ref mli, .ref mru, .ref lfn, .ref mhe, .ref mma, .ref lin, .ref lsc, .ref lva, .ref lpl, .ref (sa 51), .ref lbr, .ref lwa, .int 45, .int (-1)])), (mt, .inr (20, [.ref mtc, .ref mtt, .int (-1), .int 0, .int (-1)])), (mtt, .inr (5, [.int 0, .ref dc, .int 0]))] := hD
  obtain rfl := hw_9
  refine lv_if_ne (tgt := 19) hx hb dX15_noThread_12 (by decide) (fun c_12 => absurd (by decide) c_12) (fun _ => ?_)
  refine lv_iconst (v := 1) hx hb dX15_noThread_15 (by decide) ?_
  refine lv_goto (tgt := 20) hx hb dX15_noThread_16 (by decide) ?_
  refine lv_iconst (v := 1) hx hb dX15_noThread_20 (by decide) ?_
  have hPc := hP.sub (ws' := [(md, .inr (21, [.int 0, .ref mt, .ref lkp, .ref lcd, .ref mli, .ref mru, .ref lfn, .ref mhe, .ref mma, .ref lin, .ref lsc, .ref lva, .ref lpl, .ref (sa 51), .ref lbr, .ref lwa, .int 45, .int (-1)]))]) [0] rfl
  have hDc := hD.sub (ws' := [(md, .inr (21, [.int 0, .ref mt, .ref lkp, .ref lcd, .ref mli, .ref mru, .ref lfn, .ref mhe, .ref mma, .ref lin, .ref lsc, .ref lva, .ref lpl, .ref (sa 51), .ref lbr, .ref lwa, .int 45, .int (-1)]))]) [0] (by decide) rfl
  have hFc := va_free (wc := [(md, .inr (21, [.int 0, .ref mt, .ref lkp, .ref lcd, .ref mli, .ref mru, .ref lfn, .ref mhe, .ref mma, .ref lin, .ref lsc, .ref lva, .ref lpl, .ref (sa 51), .ref lbr, .ref lwa, .int 45, .int (-1)]))]) hD hS hA [0] rfl
  refine z_calliJ (wr := [(mt, .inr (20, [.ref mtc, .ref mtt, .int (-1), .int 0, .int (-1)])), (mtt, .inr (5, [.int 0, .ref dc, .int 0]))]) (va_runV (As := [.int 1, .int 1]) (rest := []) ⟨hx, hb, hml, hown, hts⟩ (k_fails1 l D cy sa sv dc md _ mt lkp lcd mli mru lfn mhe mma lin lsc lva lpl lbr lwa) (cwV 2 hts GV_RX15_98 rfl rfl rfl ⟨rfl, HD_yX15_fails⟩ ⟨Nat.le_of_ble_eq_true rfl, Nat.le_of_ble_eq_true rfl⟩) ⟨z_blind EM_ok, va_recv hK hPc (ci := 21) (q0 := 0) rfl rfl, z_pre EM_ok hPc hK hDc hEm hS hFc⟩ rfl rfl hl.1 rfl (lv_room (Nat.le_of_ble_eq_true rfl)) dX15_noThread_21 ⟨Nat.le_of_ble_eq_true rfl, Nat.le_of_ble_eq_true rfl⟩) hP hD hS hA [0] [1, 2] rfl rfl (by decide) (by decide) (fun r_21 u21 H locs hw_21 hP hD hS => ?_)
  have hP : va_P D vwCl [(mt, .inr (20, [.ref mtc, .ref mtt, .int (-1), .int 0, .int (-1)])), (mtt, .inr (5, [.int 0, .ref dc, .int 0])), (md, .inr (21, [.int 1, .ref mt, .ref lkp, .ref lcd, .ref mli, .ref mru, .ref lfn, .ref mhe, .ref mma, .ref lin, .ref lsc, .ref lva, .ref lpl, .ref (sa 51), .ref lbr, .ref lwa, .int 45, .int (-1)]))] H := hP
  have hD : va_D A [(mt, .inr (20, [.ref mtc, .ref mtt, .int (-1), .int 0, .int (-1)])), (mtt, .inr (5, [.int 0, .ref dc, .int 0])), (md, .inr (21, [.int 1, .ref mt, .ref lkp, .ref lcd, .ref mli, .ref mru, .ref lfn, .ref mhe, .ref mma, .ref lin, .ref lsc, .ref lva, .ref lpl, .ref (sa 51), .ref lbr, .ref lwa, .int 45, .int (-1)]))] := hD
  obtain rfl := hw_21
  have hP := hP.sub (ws' := [(md, .inr (21, [.int 1, .ref mt, .ref lkp, .ref lcd, .ref mli, .ref mru, .ref lfn, .ref mhe, .ref mma, .ref lin, .ref lsc, .ref lva, .ref lpl, .ref (sa 51), .ref lbr, .ref lwa, .int 45, .int (-1)]))]) [2] rfl
  have hD := hD.sub (ws' := [(md, .inr (21, [.int 1, .ref mt, .ref lkp, .ref lcd, .ref mli, .ref mru, .ref lfn, .ref mhe, .ref mma, .ref lin, .ref lsc, .ref lva, .ref lpl, .ref (sa 51), .ref lbr, .ref lwa, .int 45, .int (-1)]))]) [2] (by decide) rfl
  exact z_reti () hx hb hr rfl hlocks hK (rfl) hP hD hS (Nat.le_of_ble_eq_true rfl) (Nat.le_of_ble_eq_true rfl) dX15_noThread_24
set_option maxHeartbeats 4000000 in
set_option maxRecDepth 100000 in
theorem k_noFrame (l : Launch) (D : va_G) (cy : Nat → ClassId) (sa : Nat → Nat) (sv : Nat → Nat) (dc : Nat) (md mt mtt : Nat) (sz : Nat) (lkp lcd mli mru lfn mhe mma lin lsc lva lpl lbr lwa mtc : Nat) (p0 p1 : Int32) : Met l yX15_noFrame (Cond.code yX15_noFrame cX15_noFrame 3 (some .boolean) :: ALL) ({ frames := 2, cells := 0, slots := 0, locals := 46 }) (zPc D vwCl (TY cy) (EM sa sv dc) [.ref md, .int p0, .int p1] [(md, .inr (21, [.int 0, .ref mt, .ref lkp, .ref lcd, .ref mli, .ref mru, .ref lfn, .ref mhe, .ref mma, .ref lin, .ref lsc, .ref lva, .ref lpl, .ref (sa 51), .ref lbr, .ref lwa, .int 45, .int (-1)])), (mt, .inr (20, [.ref mtc, .ref mtt, .int (-1), .int 0, .int (-1)])), (mtt, .inr (5, [.int 0, .ref dc, .int 0]))] sz) (va_Qi (fun r _ => r = 1) (zB D vwCl (TY cy) (S := Unit) (fun u => [(md, .inr (21, [.int 1, .ref mt, .ref lkp, .ref lcd, .ref mli, .ref mru, .ref lfn, .ref mhe, .ref mma, .ref lin, .ref lsc, .ref lva, .ref lpl, .ref (sa 51), .ref lbr, .ref lwa, .int 45, .int (-1)]))]) (va_A [(md, .inr (21, [.int 0, .ref mt, .ref lkp, .ref lcd, .ref mli, .ref mru, .ref lfn, .ref mhe, .ref mma, .ref lin, .ref lsc, .ref lva, .ref lpl, .ref (sa 51), .ref lbr, .ref lwa, .int 45, .int (-1)])), (mt, .inr (20, [.ref mtc, .ref mtt, .int (-1), .int 0, .int (-1)])), (mtt, .inr (5, [.int 0, .ref dc, .int 0]))] sz)) (va_A [(md, .inr (21, [.int 0, .ref mt, .ref lkp, .ref lcd, .ref mli, .ref mru, .ref lfn, .ref mhe, .ref mma, .ref lin, .ref lsc, .ref lva, .ref lpl, .ref (sa 51), .ref lbr, .ref lwa, .int 45, .int (-1)])), (mt, .inr (20, [.ref mtc, .ref mtt, .int (-1), .int 0, .int (-1)])), (mtt, .inr (5, [.int 0, .ref dc, .int 0]))] sz)) 0 0 (va_A [(md, .inr (21, [.int 0, .ref mt, .ref lkp, .ref lcd, .ref mli, .ref mru, .ref lfn, .ref mhe, .ref mma, .ref lin, .ref lsc, .ref lva, .ref lpl, .ref (sa 51), .ref lbr, .ref lwa, .int 45, .int (-1)])), (mt, .inr (20, [.ref mtc, .ref mtt, .int (-1), .int 0, .int (-1)])), (mtt, .inr (5, [.int 0, .ref dc, .int 0]))] sz) := by
  refine z_start (Qc := fun A => va_Qi (fun r _ => r = 1) (zB D vwCl (TY cy) (S := Unit) (fun u => [(md, .inr (21, [.int 1, .ref mt, .ref lkp, .ref lcd, .ref mli, .ref mru, .ref lfn, .ref mhe, .ref mma, .ref lin, .ref lsc, .ref lva, .ref lpl, .ref (sa 51), .ref lbr, .ref lwa, .int 45, .int (-1)]))]) A) A) PN_RX15 (Nat.le_of_ble_eq_true rfl) ?_
  intro p e s m below meth c A ls hx hb hr hml hts hown hlocks hin hA hP hK hD hS hEn hl
  have hown : s.vm.findClass RX15 = some m.cls := hown
  have hEm := hEn
  have hEn := hEn.1
  have hl : lv_has ls 3 [(0, .ref md), (1, .int p0), (2, .int p1)] := hl
  have hS0 := hS
  refine lv_aload_n hx hb dX15_noFrame_0 rfl (lv_at hl 0 rfl) ?_
  refine lv_aload_n hx hb dX15_noFrame_1 rfl (lv_at hl 0 rfl) ?_
  refine va_get (D := D) (ci := 21) (v := .ref mt) (C := RX15) (T := TX15) (N := 18) hx hb hts inX15 hown hK hP 0 rfl rfl 1 (by decide) (hts _ K2087) (fun _ h9 => h9) rfl dX15_noFrame_2 ?_
  refine va_getN (D := D) (ci := 20) (v := .ref mtt) (C := RX14) (T := TX14) (N := 5) hx hb hts inX14 hown hK hP 1 rfl rfl 1 (by decide) (va_Nw.use rfl (hEn.1 _ K2063)) (fun _ h9 => h9) rfl dX15_noFrame_5 ?_
  refine lv_iload_n hx hb dX15_noFrame_8 rfl (lv_at hl 1 rfl) ?_
  have hPc := hP.sub (ws' := [(mtt, .inr (5, [.int 0, .ref dc, .int 0]))]) [2] rfl
  have hDc := hD.sub (ws' := [(mtt, .inr (5, [.int 0, .ref dc, .int 0]))]) [2] (by decide) rfl
  have hFc := va_free (wc := [(mtt, .inr (5, [.int 0, .ref dc, .int 0]))]) hD hS hA [2] rfl
  refine z_calliJ (wr := [(md, .inr (21, [.int 0, .ref mt, .ref lkp, .ref lcd, .ref mli, .ref mru, .ref lfn, .ref mhe, .ref mma, .ref lin, .ref lsc, .ref lva, .ref lpl, .ref (sa 51), .ref lbr, .ref lwa, .int 45, .int (-1)])), (mt, .inr (20, [.ref mtc, .ref mtt, .int (-1), .int 0, .int (-1)]))]) (va_runS (As := [.ref mtt, .int p0]) (rest := [.ref md]) ⟨hx, hb, hml, hown, hts⟩ (k_isOf l D cy sa sv dc mtt _ dc p0) (va_cwS 2 hts GS_RX15_94 rfl rfl rfl HD_yX15_isOf ⟨Nat.le_of_ble_eq_true rfl, Nat.le_of_ble_eq_true rfl⟩) ⟨z_blind EM_ok, z_pre EM_ok hPc hK hDc hEm hS hFc⟩ rfl rfl hl.1 rfl (lv_room (Nat.le_of_ble_eq_true rfl)) dX15_noFrame_9 ⟨Nat.le_of_ble_eq_true rfl, Nat.le_of_ble_eq_true rfl⟩) hP hD hS hA [2] [0, 1] rfl rfl (by decide) (by decide) (fun r_9 u9 H locs hw_9 hP hD hS => ?_)
  have hP : va_P D vwCl [(md, .inr (21, [.int 0, .ref mt, .ref lkp, .ref lcd, .ref mli, .ref mru, .ref lfn, .ref mhe, .ref mma, .ref lin, .ref lsc, .ref lva, .ref lpl, .ref (sa 51), .ref lbr, .ref lwa, .int 45, .int (-1)])), (mt, .inr (20, [.ref mtc, .ref mtt, .int (-1), .int 0, .int (-1)])), (mtt, .inr (5, [.int 0, .ref dc, .int 0]))] H := hP
  have hD : va_D A [(md, .inr (21, [.int 0, .ref mt, .ref lkp, .ref lcd, .ref mli, .ref mru, .ref lfn, .ref mhe, .ref mma, .ref lin, .ref lsc, .ref lva, .ref lpl, .ref (sa 51), .ref lbr, .ref lwa, .int 45, .int (-1)])), (mt, .inr (20, [.ref mtc, .ref mtt, .int (-1), .int 0, .int (-1)])), (mtt, .inr (5, [.int 0, .ref dc, .int 0]))] := hD
  obtain rfl := hw_9
  refine lv_if_eq (tgt := 42) hx hb dX15_noFrame_12 (by decide) (fun _ => ?_) (fun c_12 => absurd (by decide) c_12)
  refine lv_iconst (v := 1) hx hb dX15_noFrame_42 (by decide) ?_
  refine lv_goto (tgt := 47) hx hb dX15_noFrame_43 (by decide) ?_
  refine lv_iconst (v := 1) hx hb dX15_noFrame_47 (by decide) ?_
  have hPc := hP.sub (ws' := [(md, .inr (21, [.int 0, .ref mt, .ref lkp, .ref lcd, .ref mli, .ref mru, .ref lfn, .ref mhe, .ref mma, .ref lin, .ref lsc, .ref lva, .ref lpl, .ref (sa 51), .ref lbr, .ref lwa, .int 45, .int (-1)]))]) [0] rfl
  have hDc := hD.sub (ws' := [(md, .inr (21, [.int 0, .ref mt, .ref lkp, .ref lcd, .ref mli, .ref mru, .ref lfn, .ref mhe, .ref mma, .ref lin, .ref lsc, .ref lva, .ref lpl, .ref (sa 51), .ref lbr, .ref lwa, .int 45, .int (-1)]))]) [0] (by decide) rfl
  have hFc := va_free (wc := [(md, .inr (21, [.int 0, .ref mt, .ref lkp, .ref lcd, .ref mli, .ref mru, .ref lfn, .ref mhe, .ref mma, .ref lin, .ref lsc, .ref lva, .ref lpl, .ref (sa 51), .ref lbr, .ref lwa, .int 45, .int (-1)]))]) hD hS hA [0] rfl
  refine z_calliJ (wr := [(mt, .inr (20, [.ref mtc, .ref mtt, .int (-1), .int 0, .int (-1)])), (mtt, .inr (5, [.int 0, .ref dc, .int 0]))]) (va_runV (As := [.int 1, .int 1]) (rest := []) ⟨hx, hb, hml, hown, hts⟩ (k_fails1 l D cy sa sv dc md _ mt lkp lcd mli mru lfn mhe mma lin lsc lva lpl lbr lwa) (cwV 2 hts GV_RX15_98 rfl rfl rfl ⟨rfl, HD_yX15_fails⟩ ⟨Nat.le_of_ble_eq_true rfl, Nat.le_of_ble_eq_true rfl⟩) ⟨z_blind EM_ok, va_recv hK hPc (ci := 21) (q0 := 0) rfl rfl, z_pre EM_ok hPc hK hDc hEm hS hFc⟩ rfl rfl hl.1 rfl (lv_room (Nat.le_of_ble_eq_true rfl)) dX15_noFrame_48 ⟨Nat.le_of_ble_eq_true rfl, Nat.le_of_ble_eq_true rfl⟩) hP hD hS hA [0] [1, 2] rfl rfl (by decide) (by decide) (fun r_48 u48 H locs hw_48 hP hD hS => ?_)
  have hP : va_P D vwCl [(mt, .inr (20, [.ref mtc, .ref mtt, .int (-1), .int 0, .int (-1)])), (mtt, .inr (5, [.int 0, .ref dc, .int 0])), (md, .inr (21, [.int 1, .ref mt, .ref lkp, .ref lcd, .ref mli, .ref mru, .ref lfn, .ref mhe, .ref mma, .ref lin, .ref lsc, .ref lva, .ref lpl, .ref (sa 51), .ref lbr, .ref lwa, .int 45, .int (-1)]))] H := hP
  have hD : va_D A [(mt, .inr (20, [.ref mtc, .ref mtt, .int (-1), .int 0, .int (-1)])), (mtt, .inr (5, [.int 0, .ref dc, .int 0])), (md, .inr (21, [.int 1, .ref mt, .ref lkp, .ref lcd, .ref mli, .ref mru, .ref lfn, .ref mhe, .ref mma, .ref lin, .ref lsc, .ref lva, .ref lpl, .ref (sa 51), .ref lbr, .ref lwa, .int 45, .int (-1)]))] := hD
  obtain rfl := hw_48
  have hP := hP.sub (ws' := [(md, .inr (21, [.int 1, .ref mt, .ref lkp, .ref lcd, .ref mli, .ref mru, .ref lfn, .ref mhe, .ref mma, .ref lin, .ref lsc, .ref lva, .ref lpl, .ref (sa 51), .ref lbr, .ref lwa, .int 45, .int (-1)]))]) [2] rfl
  have hD := hD.sub (ws' := [(md, .inr (21, [.int 1, .ref mt, .ref lkp, .ref lcd, .ref mli, .ref mru, .ref lfn, .ref mhe, .ref mma, .ref lin, .ref lsc, .ref lva, .ref lpl, .ref (sa 51), .ref lbr, .ref lwa, .int 45, .int (-1)]))]) [2] (by decide) rfl
  exact z_reti () hx hb hr rfl hlocks hK (rfl) hP hD hS (Nat.le_of_ble_eq_true rfl) (Nat.le_of_ble_eq_true rfl) dX15_noFrame_51
set_option maxHeartbeats 4000000 in
set_option maxRecDepth 100000 in
theorem k_noBreak (l : Launch) (D : va_G) (cy : Nat → ClassId) (sa : Nat → Nat) (sv : Nat → Nat) (dc : Nat) (md lbr : Nat) (sz : Nat) (mt lkp lcd mli mru lfn mhe mma lin lsc lva lpl lwa : Nat) (p0 : Int32) : Met l yX15_noBreak (Cond.code yX15_noBreak cX15_noBreak 2 (some .boolean) :: ALL) ({ frames := 2, cells := 0, slots := 0, locals := 46 }) (zPc D vwCl (TY cy) (EM sa sv dc) [.ref md, .int p0] [(md, .inr (21, [.int 0, .ref mt, .ref lkp, .ref lcd, .ref mli, .ref mru, .ref lfn, .ref mhe, .ref mma, .ref lin, .ref lsc, .ref lva, .ref lpl, .ref (sa 51), .ref lbr, .ref lwa, .int 45, .int (-1)])), (lbr, .inr (5, [.int 0, .ref dc, .int 0]))] sz) (va_Qi (fun r _ => r = 1) (zB D vwCl (TY cy) (S := Unit) (fun u => [(md, .inr (21, [.int 1, .ref mt, .ref lkp, .ref lcd, .ref mli, .ref mru, .ref lfn, .ref mhe, .ref mma, .ref lin, .ref lsc, .ref lva, .ref lpl, .ref (sa 51), .ref lbr, .ref lwa, .int 45, .int (-1)]))]) (va_A [(md, .inr (21, [.int 0, .ref mt, .ref lkp, .ref lcd, .ref mli, .ref mru, .ref lfn, .ref mhe, .ref mma, .ref lin, .ref lsc, .ref lva, .ref lpl, .ref (sa 51), .ref lbr, .ref lwa, .int 45, .int (-1)])), (lbr, .inr (5, [.int 0, .ref dc, .int 0]))] sz)) (va_A [(md, .inr (21, [.int 0, .ref mt, .ref lkp, .ref lcd, .ref mli, .ref mru, .ref lfn, .ref mhe, .ref mma, .ref lin, .ref lsc, .ref lva, .ref lpl, .ref (sa 51), .ref lbr, .ref lwa, .int 45, .int (-1)])), (lbr, .inr (5, [.int 0, .ref dc, .int 0]))] sz)) 0 0 (va_A [(md, .inr (21, [.int 0, .ref mt, .ref lkp, .ref lcd, .ref mli, .ref mru, .ref lfn, .ref mhe, .ref mma, .ref lin, .ref lsc, .ref lva, .ref lpl, .ref (sa 51), .ref lbr, .ref lwa, .int 45, .int (-1)])), (lbr, .inr (5, [.int 0, .ref dc, .int 0]))] sz) := by
  refine z_start (Qc := fun A => va_Qi (fun r _ => r = 1) (zB D vwCl (TY cy) (S := Unit) (fun u => [(md, .inr (21, [.int 1, .ref mt, .ref lkp, .ref lcd, .ref mli, .ref mru, .ref lfn, .ref mhe, .ref mma, .ref lin, .ref lsc, .ref lva, .ref lpl, .ref (sa 51), .ref lbr, .ref lwa, .int 45, .int (-1)]))]) A) A) PN_RX15 (Nat.le_of_ble_eq_true rfl) ?_
  intro p e s m below meth c A ls hx hb hr hml hts hown hlocks hin hA hP hK hD hS hEn hl
  have hown : s.vm.findClass RX15 = some m.cls := hown
  have hEm := hEn
  have hEn := hEn.1
  have hl : lv_has ls 2 [(0, .ref md), (1, .int p0)] := hl
  have hS0 := hS
  refine lv_aload_n hx hb dX15_noBreak_0 rfl (lv_at hl 0 rfl) ?_
  refine lv_aload_n hx hb dX15_noBreak_1 rfl (lv_at hl 0 rfl) ?_
  refine va_get (D := D) (ci := 21) (v := .ref lbr) (C := RX15) (T := TX15) (N := 18) hx hb hts inX15 hown hK hP 0 rfl rfl 14 (by decide) (hts _ K2100) (fun _ h9 => h9) rfl dX15_noBreak_2 ?_
  refine lv_iload_n hx hb dX15_noBreak_5 rfl (lv_at hl 1 rfl) ?_
  have hPc := hP.sub (ws' := [(lbr, .inr (5, [.int 0, .ref dc, .int 0]))]) [1] rfl
  have hDc := hD.sub (ws' := [(lbr, .inr (5, [.int 0, .ref dc, .int 0]))]) [1] (by decide) rfl
  have hFc := va_free (wc := [(lbr, .inr (5, [.int 0, .ref dc, .int 0]))]) hD hS hA [1] rfl
  refine z_calliJ (wr := [(md, .inr (21, [.int 0, .ref mt, .ref lkp, .ref lcd, .ref mli, .ref mru, .ref lfn, .ref mhe, .ref mma, .ref lin, .ref lsc, .ref lva, .ref lpl, .ref (sa 51), .ref lbr, .ref lwa, .int 45, .int (-1)]))]) (va_runS (As := [.ref lbr, .int p0]) (rest := [.ref md]) ⟨hx, hb, hml, hown, hts⟩ (k_isOf l D cy sa sv dc lbr _ dc p0) (va_cwS 2 hts GS_RX15_94 rfl rfl rfl HD_yX15_isOf ⟨Nat.le_of_ble_eq_true rfl, Nat.le_of_ble_eq_true rfl⟩) ⟨z_blind EM_ok, z_pre EM_ok hPc hK hDc hEm hS hFc⟩ rfl rfl hl.1 rfl (lv_room (Nat.le_of_ble_eq_true rfl)) dX15_noBreak_6 ⟨Nat.le_of_ble_eq_true rfl, Nat.le_of_ble_eq_true rfl⟩) hP hD hS hA [1] [0] rfl rfl (by decide) (by decide) (fun r_6 u6 H locs hw_6 hP hD hS => ?_)
  have hP : va_P D vwCl [(md, .inr (21, [.int 0, .ref mt, .ref lkp, .ref lcd, .ref mli, .ref mru, .ref lfn, .ref mhe, .ref mma, .ref lin, .ref lsc, .ref lva, .ref lpl, .ref (sa 51), .ref lbr, .ref lwa, .int 45, .int (-1)])), (lbr, .inr (5, [.int 0, .ref dc, .int 0]))] H := hP
  have hD : va_D A [(md, .inr (21, [.int 0, .ref mt, .ref lkp, .ref lcd, .ref mli, .ref mru, .ref lfn, .ref mhe, .ref mma, .ref lin, .ref lsc, .ref lva, .ref lpl, .ref (sa 51), .ref lbr, .ref lwa, .int 45, .int (-1)])), (lbr, .inr (5, [.int 0, .ref dc, .int 0]))] := hD
  obtain rfl := hw_6
  refine lv_if_ne (tgt := 16) hx hb dX15_noBreak_9 (by decide) (fun c_9 => absurd (by decide) c_9) (fun _ => ?_)
  refine lv_iconst (v := 1) hx hb dX15_noBreak_12 (by decide) ?_
  refine lv_goto (tgt := 17) hx hb dX15_noBreak_13 (by decide) ?_
  refine lv_iconst (v := 1) hx hb dX15_noBreak_17 (by decide) ?_
  have hPc := hP.sub (ws' := [(md, .inr (21, [.int 0, .ref mt, .ref lkp, .ref lcd, .ref mli, .ref mru, .ref lfn, .ref mhe, .ref mma, .ref lin, .ref lsc, .ref lva, .ref lpl, .ref (sa 51), .ref lbr, .ref lwa, .int 45, .int (-1)]))]) [0] rfl
  have hDc := hD.sub (ws' := [(md, .inr (21, [.int 0, .ref mt, .ref lkp, .ref lcd, .ref mli, .ref mru, .ref lfn, .ref mhe, .ref mma, .ref lin, .ref lsc, .ref lva, .ref lpl, .ref (sa 51), .ref lbr, .ref lwa, .int 45, .int (-1)]))]) [0] (by decide) rfl
  have hFc := va_free (wc := [(md, .inr (21, [.int 0, .ref mt, .ref lkp, .ref lcd, .ref mli, .ref mru, .ref lfn, .ref mhe, .ref mma, .ref lin, .ref lsc, .ref lva, .ref lpl, .ref (sa 51), .ref lbr, .ref lwa, .int 45, .int (-1)]))]) hD hS hA [0] rfl
  refine z_calliJ (wr := [(lbr, .inr (5, [.int 0, .ref dc, .int 0]))]) (va_runV (As := [.int 1, .int 1]) (rest := []) ⟨hx, hb, hml, hown, hts⟩ (k_fails1 l D cy sa sv dc md _ mt lkp lcd mli mru lfn mhe mma lin lsc lva lpl lbr lwa) (cwV 2 hts GV_RX15_98 rfl rfl rfl ⟨rfl, HD_yX15_fails⟩ ⟨Nat.le_of_ble_eq_true rfl, Nat.le_of_ble_eq_true rfl⟩) ⟨z_blind EM_ok, va_recv hK hPc (ci := 21) (q0 := 0) rfl rfl, z_pre EM_ok hPc hK hDc hEm hS hFc⟩ rfl rfl hl.1 rfl (lv_room (Nat.le_of_ble_eq_true rfl)) dX15_noBreak_18 ⟨Nat.le_of_ble_eq_true rfl, Nat.le_of_ble_eq_true rfl⟩) hP hD hS hA [0] [1] rfl rfl (by decide) (by decide) (fun r_18 u18 H locs hw_18 hP hD hS => ?_)
  have hP : va_P D vwCl [(lbr, .inr (5, [.int 0, .ref dc, .int 0])), (md, .inr (21, [.int 1, .ref mt, .ref lkp, .ref lcd, .ref mli, .ref mru, .ref lfn, .ref mhe, .ref mma, .ref lin, .ref lsc, .ref lva, .ref lpl, .ref (sa 51), .ref lbr, .ref lwa, .int 45, .int (-1)]))] H := hP
  have hD : va_D A [(lbr, .inr (5, [.int 0, .ref dc, .int 0])), (md, .inr (21, [.int 1, .ref mt, .ref lkp, .ref lcd, .ref mli, .ref mru, .ref lfn, .ref mhe, .ref mma, .ref lin, .ref lsc, .ref lva, .ref lpl, .ref (sa 51), .ref lbr, .ref lwa, .int 45, .int (-1)]))] := hD
  obtain rfl := hw_18
  have hP := hP.sub (ws' := [(md, .inr (21, [.int 1, .ref mt, .ref lkp, .ref lcd, .ref mli, .ref mru, .ref lfn, .ref mhe, .ref mma, .ref lin, .ref lsc, .ref lva, .ref lpl, .ref (sa 51), .ref lbr, .ref lwa, .int 45, .int (-1)]))]) [1] rfl
  have hD := hD.sub (ws' := [(md, .inr (21, [.int 1, .ref mt, .ref lkp, .ref lcd, .ref mli, .ref mru, .ref lfn, .ref mhe, .ref mma, .ref lin, .ref lsc, .ref lva, .ref lpl, .ref (sa 51), .ref lbr, .ref lwa, .int 45, .int (-1)]))]) [1] (by decide) rfl
  exact z_reti () hx hb hr rfl hlocks hK (rfl) hP hD hS (Nat.le_of_ble_eq_true rfl) (Nat.le_of_ble_eq_true rfl) dX15_noBreak_21
set_option maxHeartbeats 4000000 in
set_option maxRecDepth 100000 in
theorem k_isPlace (l : Launch) (D : va_G) (cy : Nat → ClassId) (sa : Nat → Nat) (sv : Nat → Nat) (dc : Nat) (md lcd : Nat) (sz : Nat) (mt lkp mli mru lfn mhe mma lin lsc lva lpl lbr lwa : Nat) (p0 : Int32) : Met l yX15_isPlace (Cond.code yX15_isPlace cX15_isPlace 2 (some .boolean) :: ALL) ({ frames := 2, cells := 0, slots := 0, locals := 46 }) (zPc D vwCl (TY cy) (EM sa sv dc) [.ref md, .int p0] [(md, .inr (21, [.int 0, .ref mt, .ref lkp, .ref lcd, .ref mli, .ref mru, .ref lfn, .ref mhe, .ref mma, .ref lin, .ref lsc, .ref lva, .ref lpl, .ref (sa 51), .ref lbr, .ref lwa, .int 45, .int (-1)])), (lcd, .inr (5, [.int 0, .ref dc, .int 0]))] sz) (va_Qi (fun r _ => r = 0) (zB D vwCl (TY cy) (S := Unit) (fun u => [(md, .inr (21, [.int 0, .ref mt, .ref lkp, .ref lcd, .ref mli, .ref mru, .ref lfn, .ref mhe, .ref mma, .ref lin, .ref lsc, .ref lva, .ref lpl, .ref (sa 51), .ref lbr, .ref lwa, .int 45, .int (-1)])), (lcd, .inr (5, [.int 0, .ref dc, .int 0]))]) (va_A [(md, .inr (21, [.int 0, .ref mt, .ref lkp, .ref lcd, .ref mli, .ref mru, .ref lfn, .ref mhe, .ref mma, .ref lin, .ref lsc, .ref lva, .ref lpl, .ref (sa 51), .ref lbr, .ref lwa, .int 45, .int (-1)])), (lcd, .inr (5, [.int 0, .ref dc, .int 0]))] sz)) (va_A [(md, .inr (21, [.int 0, .ref mt, .ref lkp, .ref lcd, .ref mli, .ref mru, .ref lfn, .ref mhe, .ref mma, .ref lin, .ref lsc, .ref lva, .ref lpl, .ref (sa 51), .ref lbr, .ref lwa, .int 45, .int (-1)])), (lcd, .inr (5, [.int 0, .ref dc, .int 0]))] sz)) 0 0 (va_A [(md, .inr (21, [.int 0, .ref mt, .ref lkp, .ref lcd, .ref mli, .ref mru, .ref lfn, .ref mhe, .ref mma, .ref lin, .ref lsc, .ref lva, .ref lpl, .ref (sa 51), .ref lbr, .ref lwa, .int 45, .int (-1)])), (lcd, .inr (5, [.int 0, .ref dc, .int 0]))] sz) := by
  refine z_start (Qc := fun A => va_Qi (fun r _ => r = 0) (zB D vwCl (TY cy) (S := Unit) (fun u => [(md, .inr (21, [.int 0, .ref mt, .ref lkp, .ref lcd, .ref mli, .ref mru, .ref lfn, .ref mhe, .ref mma, .ref lin, .ref lsc, .ref lva, .ref lpl, .ref (sa 51), .ref lbr, .ref lwa, .int 45, .int (-1)])), (lcd, .inr (5, [.int 0, .ref dc, .int 0]))]) A) A) PN_RX15 (Nat.le_of_ble_eq_true rfl) ?_
  intro p e s m below meth c A ls hx hb hr hml hts hown hlocks hin hA hP hK hD hS hEn hl
  have hown : s.vm.findClass RX15 = some m.cls := hown
  have hEm := hEn
  have hEn := hEn.1
  have hl : lv_has ls 2 [(0, .ref md), (1, .int p0)] := hl
  have hS0 := hS
  refine lv_aload_n hx hb dX15_isPlace_0 rfl (lv_at hl 0 rfl) ?_
  refine va_get (D := D) (ci := 21) (v := .ref lcd) (C := RX15) (T := TX15) (N := 18) hx hb hts inX15 hown hK hP 0 rfl rfl 3 (by decide) (hts _ K2089) (fun _ h9 => h9) rfl dX15_isPlace_1 ?_
  refine lv_iload_n hx hb dX15_isPlace_4 rfl (lv_at hl 1 rfl) ?_
  have hPc := hP.sub (ws' := [(lcd, .inr (5, [.int 0, .ref dc, .int 0]))]) [1] rfl
  have hDc := hD.sub (ws' := [(lcd, .inr (5, [.int 0, .ref dc, .int 0]))]) [1] (by decide) rfl
  have hFc := va_free (wc := [(lcd, .inr (5, [.int 0, .ref dc, .int 0]))]) hD hS hA [1] rfl
  refine z_calliJ (wr := [(md, .inr (21, [.int 0, .ref mt, .ref lkp, .ref lcd, .ref mli, .ref mru, .ref lfn, .ref mhe, .ref mma, .ref lin, .ref lsc, .ref lva, .ref lpl, .ref (sa 51), .ref lbr, .ref lwa, .int 45, .int (-1)]))]) (va_runS (As := [.ref lcd, .int p0]) (rest := []) ⟨hx, hb, hml, hown, hts⟩ (k_isOf l D cy sa sv dc lcd _ dc p0) (va_cwS 2 hts GS_RX15_94 rfl rfl rfl HD_yX15_isOf ⟨Nat.le_of_ble_eq_true rfl, Nat.le_of_ble_eq_true rfl⟩) ⟨z_blind EM_ok, z_pre EM_ok hPc hK hDc hEm hS hFc⟩ rfl rfl hl.1 rfl (lv_room (Nat.le_of_ble_eq_true rfl)) dX15_isPlace_5 ⟨Nat.le_of_ble_eq_true rfl, Nat.le_of_ble_eq_true rfl⟩) hP hD hS hA [1] [0] rfl rfl (by decide) (by decide) (fun r_5 u5 H locs hw_5 hP hD hS => ?_)
  have hP : va_P D vwCl [(md, .inr (21, [.int 0, .ref mt, .ref lkp, .ref lcd, .ref mli, .ref mru, .ref lfn, .ref mhe, .ref mma, .ref lin, .ref lsc, .ref lva, .ref lpl, .ref (sa 51), .ref lbr, .ref lwa, .int 45, .int (-1)])), (lcd, .inr (5, [.int 0, .ref dc, .int 0]))] H := hP
  have hD : va_D A [(md, .inr (21, [.int 0, .ref mt, .ref lkp, .ref lcd, .ref mli, .ref mru, .ref lfn, .ref mhe, .ref mma, .ref lin, .ref lsc, .ref lva, .ref lpl, .ref (sa 51), .ref lbr, .ref lwa, .int 45, .int (-1)])), (lcd, .inr (5, [.int 0, .ref dc, .int 0]))] := hD
  obtain rfl := hw_5
  exact z_reti () hx hb hr rfl hlocks hK (rfl) hP hD hS (Nat.le_of_ble_eq_true rfl) (Nat.le_of_ble_eq_true rfl) dX15_isPlace_8
set_option maxHeartbeats 4000000 in
set_option maxRecDepth 100000 in
theorem k_isLetter (l : Launch) (D : va_G) (cy : Nat → ClassId) (sa : Nat → Nat) (sv : Nat → Nat) (dc : Nat) (sz : Nat) (p0 : Int32) : Met l yX15_isLetter (Cond.code yX15_isLetter cX15_isLetter 1 (some .boolean) :: ALL) ({ frames := 1, cells := 0, slots := 0, locals := 25 }) (zPc D vwCl (TY cy) (EM sa sv dc) [.int p0] [] sz) (va_Qi (fun r _ => r = inL p0.toInt64 97 122) (zB D vwCl (TY cy) (S := Unit) (fun u => []) (va_A [] sz)) (va_A [] sz)) 0 0 (va_A [] sz) := by
  refine z_start (Qc := fun A => va_Qi (fun r _ => r = inL p0.toInt64 97 122) (zB D vwCl (TY cy) (S := Unit) (fun u => []) A) A) PN_RX15 (Nat.le_of_ble_eq_true rfl) ?_
  intro p e s m below meth c A ls hx hb hr hml hts hown hlocks hin hA hP hK hD hS hEn hl
  have hown : s.vm.findClass RX15 = some m.cls := hown
  have hEm := hEn
  have hEn := hEn.1
  have hl : lv_has ls 1 [(0, .int p0)] := hl
  have hS0 := hS
  refine lv_iload_n hx hb dX15_isLetter_0 rfl (lv_at hl 0 rfl) ?_
  refine lv_i2l hx hb dX15_isLetter_1 rfl ?_
  refine lv_ldc2 hx hb hown (hts _ K2465) dX15_isLetter_2 ?_
  refine lv_ldc2 hx hb hown (hts _ K2466) dX15_isLetter_5 ?_
  refine z_calli (va_runS (As := [.long p0.toInt64, .long 97, .long 122]) (rest := []) ⟨hx, hb, hml, hown, hts⟩ (k_in l D cy sa sv dc _ (p0.toInt64) 97 122) (va_cwS 3 hts GS_RX15_13 rfl rfl rfl HD_yX15_in ⟨Nat.le_of_ble_eq_true rfl, Nat.le_of_ble_eq_true rfl⟩) ⟨z_blind EM_ok, z_pre EM_ok hP hK hD hEm hS (z_free hD hS hA)⟩ rfl rfl hl.1 rfl (lv_room (Nat.le_of_ble_eq_true rfl)) dX15_isLetter_8 ⟨Nat.le_of_ble_eq_true rfl, Nat.le_of_ble_eq_true rfl⟩) hD hS hA (fun r_8 u8 H locs hw_8 hP hD hS => ?_)
  have hP : va_P D vwCl [] H := hP
  have hD : va_D A [] := hD
  obtain rfl := hw_8
  exact z_reti () hx hb hr (inL_nar _ _ _) hlocks hK (rfl) hP hD hS (Nat.le_of_ble_eq_true rfl) (Nat.le_of_ble_eq_true rfl) dX15_isLetter_11
set_option maxHeartbeats 4000000 in
set_option maxRecDepth 100000 in
theorem k_thrown (l : Launch) (D : va_G) (cy : Nat → ClassId) (sa : Nat → Nat) (sv : Nat → Nat) (dc : Nat) (md : Nat) (sz : Nat) (mt lkp lcd mli mru lfn mhe mma lin lsc lva lpl lbr lwa : Nat) (k rs : Int32) : Met l yX15_thrown (Cond.code yX15_thrown cX15_thrown 1 (some .int) :: ALL) ({ frames := 0, cells := 0, slots := 0, locals := 0 }) (zPc D vwCl (TY cy) (EM sa sv dc) [.ref md] [(md, .inr (21, [.int k, .ref mt, .ref lkp, .ref lcd, .ref mli, .ref mru, .ref lfn, .ref mhe, .ref mma, .ref lin, .ref lsc, .ref lva, .ref lpl, .ref (sa 51), .ref lbr, .ref lwa, .int rs, .int (-1)]))] sz) (va_Qi (fun r _ => r = k) (zB D vwCl (TY cy) (S := Unit) (fun u => [(md, .inr (21, [.int k, .ref mt, .ref lkp, .ref lcd, .ref mli, .ref mru, .ref lfn, .ref mhe, .ref mma, .ref lin, .ref lsc, .ref lva, .ref lpl, .ref (sa 51), .ref lbr, .ref lwa, .int rs, .int (-1)]))]) (va_A [(md, .inr (21, [.int k, .ref mt, .ref lkp, .ref lcd, .ref mli, .ref mru, .ref lfn, .ref mhe, .ref mma, .ref lin, .ref lsc, .ref lva, .ref lpl, .ref (sa 51), .ref lbr, .ref lwa, .int rs, .int (-1)]))] sz)) (va_A [(md, .inr (21, [.int k, .ref mt, .ref lkp, .ref lcd, .ref mli, .ref mru, .ref lfn, .ref mhe, .ref mma, .ref lin, .ref lsc, .ref lva, .ref lpl, .ref (sa 51), .ref lbr, .ref lwa, .int rs, .int (-1)]))] sz)) 0 0 (va_A [(md, .inr (21, [.int k, .ref mt, .ref lkp, .ref lcd, .ref mli, .ref mru, .ref lfn, .ref mhe, .ref mma, .ref lin, .ref lsc, .ref lva, .ref lpl, .ref (sa 51), .ref lbr, .ref lwa, .int rs, .int (-1)]))] sz) := by
  refine z_start (Qc := fun A => va_Qi (fun r _ => r = k) (zB D vwCl (TY cy) (S := Unit) (fun u => [(md, .inr (21, [.int k, .ref mt, .ref lkp, .ref lcd, .ref mli, .ref mru, .ref lfn, .ref mhe, .ref mma, .ref lin, .ref lsc, .ref lva, .ref lpl, .ref (sa 51), .ref lbr, .ref lwa, .int rs, .int (-1)]))]) A) A) PN_RX15 (Nat.le_of_ble_eq_true rfl) ?_
  intro p e s m below meth c A ls hx hb hr hml hts hown hlocks hin hA hP hK hD hS hEn hl
  have hown : s.vm.findClass RX15 = some m.cls := hown
  have hEm := hEn
  have hEn := hEn.1
  have hl : lv_has ls 1 [(0, .ref md)] := hl
  have hS0 := hS
  refine lv_aload_n hx hb dX15_thrown_0 rfl (lv_at hl 0 rfl) ?_
  refine va_get (D := D) (ci := 21) (v := .int k) (C := RX15) (T := TX15) (N := 18) hx hb hts inX15 hown hK hP 0 rfl rfl 0 (by decide) (hts _ K2086) (fun _ h9 => h9) rfl dX15_thrown_1 ?_
  exact z_reti () hx hb hr rfl hlocks hK (rfl) hP hD hS (Nat.le_of_ble_eq_true rfl) (Nat.le_of_ble_eq_true rfl) dX15_thrown_4
set_option maxHeartbeats 4000000 in
set_option maxRecDepth 100000 in
theorem k_ends (l : Launch) (D : va_G) (cy : Nat → ClassId) (sa : Nat → Nat) (sv : Nat → Nat) (dc : Nat) (md : Nat) (sz : Nat) (mt lkp lcd mli mru lfn mhe mma lin lsc lva lpl lbr lwa : Nat) : Met l yX15_ends (Cond.code yX15_ends cX15_ends 3 none :: ALL) ({ frames := 0, cells := 0, slots := 0, locals := 0 }) (zPc D vwCl (TY cy) (EM sa sv dc) [.ref md, .int 100, .int (-1)] [(md, .inr (21, [.int 0, .ref mt, .ref lkp, .ref lcd, .ref mli, .ref mru, .ref lfn, .ref mhe, .ref mma, .ref lin, .ref lsc, .ref lva, .ref lpl, .ref (sa 51), .ref lbr, .ref lwa, .int 45, .int (-1)]))] sz) (va_Qv (fun _ => True) (zB D vwCl (TY cy) (S := Unit) (fun u => [(md, .inr (21, [.int 0, .ref mt, .ref lkp, .ref lcd, .ref mli, .ref mru, .ref lfn, .ref mhe, .ref mma, .ref lin, .ref lsc, .ref lva, .ref lpl, .ref (sa 51), .ref lbr, .ref lwa, .int 100, .int (-1)]))]) (va_A [(md, .inr (21, [.int 0, .ref mt, .ref lkp, .ref lcd, .ref mli, .ref mru, .ref lfn, .ref mhe, .ref mma, .ref lin, .ref lsc, .ref lva, .ref lpl, .ref (sa 51), .ref lbr, .ref lwa, .int 45, .int (-1)]))] sz)) (va_A [(md, .inr (21, [.int 0, .ref mt, .ref lkp, .ref lcd, .ref mli, .ref mru, .ref lfn, .ref mhe, .ref mma, .ref lin, .ref lsc, .ref lva, .ref lpl, .ref (sa 51), .ref lbr, .ref lwa, .int 45, .int (-1)]))] sz)) 0 0 (va_A [(md, .inr (21, [.int 0, .ref mt, .ref lkp, .ref lcd, .ref mli, .ref mru, .ref lfn, .ref mhe, .ref mma, .ref lin, .ref lsc, .ref lva, .ref lpl, .ref (sa 51), .ref lbr, .ref lwa, .int 45, .int (-1)]))] sz) := by
  refine z_start (Qc := fun A => va_Qv (fun _ => True) (zB D vwCl (TY cy) (S := Unit) (fun u => [(md, .inr (21, [.int 0, .ref mt, .ref lkp, .ref lcd, .ref mli, .ref mru, .ref lfn, .ref mhe, .ref mma, .ref lin, .ref lsc, .ref lva, .ref lpl, .ref (sa 51), .ref lbr, .ref lwa, .int 100, .int (-1)]))]) A) A) PN_RX15 (Nat.le_of_ble_eq_true rfl) ?_
  intro p e s m below meth c A ls hx hb hr hml hts hown hlocks hin hA hP hK hD hS hEn hl
  have hown : s.vm.findClass RX15 = some m.cls := hown
  have hEm := hEn
  have hEn := hEn.1
  have hl : lv_has ls 3 [(0, .ref md), (1, .int 100), (2, .int (-1))] := hl
  have hS0 := hS
  refine lv_aload_n hx hb dX15_ends_0 rfl (lv_at hl 0 rfl) ?_
  refine lv_iload_n hx hb dX15_ends_1 rfl (lv_at hl 1 rfl) ?_
  refine va_put (D := D) (ci := 21) (v := .int 100) (ty := .char) (C := RX15) (T := TX15) (N := 18) hx hb hts inX15 tyX15 tyX15_ok nmX15 hown hK hP hD hS 0 rfl rfl 16 (by decide) (hts _ K2102) (fun _ h9 => h9) rfl (by decide +kernel) rfl rfl (Nat.le_of_ble_eq_true rfl) dX15_ends_2 (fun H locs hP hD hS => ?_)
  have hP : va_P D vwCl [(md, .inr (21, [.int 0, .ref mt, .ref lkp, .ref lcd, .ref mli, .ref mru, .ref lfn, .ref mhe, .ref mma, .ref lin, .ref lsc, .ref lva, .ref lpl, .ref (sa 51), .ref lbr, .ref lwa, .int 100, .int (-1)]))] H := hP
  have hD : va_D A [(md, .inr (21, [.int 0, .ref mt, .ref lkp, .ref lcd, .ref mli, .ref mru, .ref lfn, .ref mhe, .ref mma, .ref lin, .ref lsc, .ref lva, .ref lpl, .ref (sa 51), .ref lbr, .ref lwa, .int 100, .int (-1)]))] := hD
  refine lv_aload_n hx hb dX15_ends_5 rfl (lv_at hl 0 rfl) ?_
  refine lv_iload_n hx hb dX15_ends_6 rfl (lv_at hl 2 rfl) ?_
  refine va_put (D := D) (ci := 21) (v := .int (-1)) (ty := .int) (C := RX15) (T := TX15) (N := 18) hx hb hts inX15 tyX15 tyX15_ok nmX15 hown hK hP hD hS 0 rfl rfl 17 (by decide) (hts _ K2103) (fun _ h9 => h9) rfl (by decide +kernel) rfl rfl (Nat.le_of_ble_eq_true rfl) dX15_ends_7 (fun H locs hP hD hS => ?_)
  have hP : va_P D vwCl [(md, .inr (21, [.int 0, .ref mt, .ref lkp, .ref lcd, .ref mli, .ref mru, .ref lfn, .ref mhe, .ref mma, .ref lin, .ref lsc, .ref lva, .ref lpl, .ref (sa 51), .ref lbr, .ref lwa, .int 100, .int (-1)]))] H := hP
  have hD : va_D A [(md, .inr (21, [.int 0, .ref mt, .ref lkp, .ref lcd, .ref mli, .ref mru, .ref lfn, .ref mhe, .ref mma, .ref lin, .ref lsc, .ref lva, .ref lpl, .ref (sa 51), .ref lbr, .ref lwa, .int 100, .int (-1)]))] := hD
  exact z_retv () hx hb hr hlocks hK (trivial) hP hD hS (Nat.le_of_ble_eq_true rfl) (Nat.le_of_ble_eq_true rfl) dX15_ends_10
set_option maxHeartbeats 4000000 in
set_option maxRecDepth 100000 in
theorem k_next (l : Launch) (D : va_G) (cy : Nat → ClassId) (sa : Nat → Nat) (sv : Nat → Nat) (dc : Nat) (md mt mtt : Nat) (sz : Nat) (lkp lcd mli mru lfn mhe mma lin lsc lva lpl lbr lwa mtc : Nat) : Met l yX15_next (Cond.code yX15_next cX15_next 4 (some .int) :: ALL) ({ frames := 1, cells := 0, slots := 0, locals := 20 }) (zPc D vwCl (TY cy) (EM sa sv dc) [.ref md] [(md, .inr (21, [.int 0, .ref mt, .ref lkp, .ref lcd, .ref mli, .ref mru, .ref lfn, .ref mhe, .ref mma, .ref lin, .ref lsc, .ref lva, .ref lpl, .ref (sa 51), .ref lbr, .ref lwa, .int 45, .int (-1)])), (mt, .inr (20, [.ref mtc, .ref mtt, .int (-1), .int 0, .int (-1)])), (mtt, .inr (5, [.int 0, .ref dc, .int 0]))] sz) (va_Qi (fun r _ => r = (-1)) (zB D vwCl (TY cy) (S := Unit) (fun u => [(md, .inr (21, [.int 0, .ref mt, .ref lkp, .ref lcd, .ref mli, .ref mru, .ref lfn, .ref mhe, .ref mma, .ref lin, .ref lsc, .ref lva, .ref lpl, .ref (sa 51), .ref lbr, .ref lwa, .int 45, .int (-1)])), (mt, .inr (20, [.ref mtc, .ref mtt, .int (-1), .int 0, .int (-1)])), (mtt, .inr (5, [.int 0, .ref dc, .int 0]))]) (va_A [(md, .inr (21, [.int 0, .ref mt, .ref lkp, .ref lcd, .ref mli, .ref mru, .ref lfn, .ref mhe, .ref mma, .ref lin, .ref lsc, .ref lva, .ref lpl, .ref (sa 51), .ref lbr, .ref lwa, .int 45, .int (-1)])), (mt, .inr (20, [.ref mtc, .ref mtt, .int (-1), .int 0, .int (-1)])), (mtt, .inr (5, [.int 0, .ref dc, .int 0]))] sz)) (va_A [(md, .inr (21, [.int 0, .ref mt, .ref lkp, .ref lcd, .ref mli, .ref mru, .ref lfn, .ref mhe, .ref mma, .ref lin, .ref lsc, .ref lva, .ref lpl, .ref (sa 51), .ref lbr, .ref lwa, .int 45, .int (-1)])), (mt, .inr (20, [.ref mtc, .ref mtt, .int (-1), .int 0, .int (-1)])), (mtt, .inr (5, [.int 0, .ref dc, .int 0]))] sz)) 0 0 (va_A [(md, .inr (21, [.int 0, .ref mt, .ref lkp, .ref lcd, .ref mli, .ref mru, .ref lfn, .ref mhe, .ref mma, .ref lin, .ref lsc, .ref lva, .ref lpl, .ref (sa 51), .ref lbr, .ref lwa, .int 45, .int (-1)])), (mt, .inr (20, [.ref mtc, .ref mtt, .int (-1), .int 0, .int (-1)])), (mtt, .inr (5, [.int 0, .ref dc, .int 0]))] sz) := by
  refine z_start (Qc := fun A => va_Qi (fun r _ => r = (-1)) (zB D vwCl (TY cy) (S := Unit) (fun u => [(md, .inr (21, [.int 0, .ref mt, .ref lkp, .ref lcd, .ref mli, .ref mru, .ref lfn, .ref mhe, .ref mma, .ref lin, .ref lsc, .ref lva, .ref lpl, .ref (sa 51), .ref lbr, .ref lwa, .int 45, .int (-1)])), (mt, .inr (20, [.ref mtc, .ref mtt, .int (-1), .int 0, .int (-1)])), (mtt, .inr (5, [.int 0, .ref dc, .int 0]))]) A) A) PN_RX15 (Nat.le_of_ble_eq_true rfl) ?_
  intro p e s m below meth c A ls hx hb hr hml hts hown hlocks hin hA hP hK hD hS hEn hl
  have hown : s.vm.findClass RX15 = some m.cls := hown
  have hEm := hEn
  have hEn := hEn.1
  have hl : lv_has ls 4 [(0, .ref md)] := hl
  have hS0 := hS
  refine lv_aload_n hx hb dX15_next_0 rfl (lv_at hl 0 rfl) ?_
  refine va_get (D := D) (ci := 21) (v := .ref mt) (C := RX15) (T := TX15) (N := 18) hx hb hts inX15 hown hK hP 0 rfl rfl 1 (by decide) (hts _ K2087) (fun _ h9 => h9) rfl dX15_next_1 ?_
  refine va_getN (D := D) (ci := 20) (v := .ref mtt) (C := RX14) (T := TX14) (N := 5) hx hb hts inX14 hown hK hP 1 rfl rfl 1 (by decide) (va_Nw.use rfl (hEn.1 _ K2063)) (fun _ h9 => h9) rfl dX15_next_4 ?_
  have hPc := hP.sub (ws' := [(mtt, .inr (5, [.int 0, .ref dc, .int 0]))]) [2] rfl
  have hDc := hD.sub (ws' := [(mtt, .inr (5, [.int 0, .ref dc, .int 0]))]) [2] (by decide) rfl
  have hFc := va_free (wc := [(mtt, .inr (5, [.int 0, .ref dc, .int 0]))]) hD hS hA [2] rfl
  refine z_callFiJ (wr := [(md, .inr (21, [.int 0, .ref mt, .ref lkp, .ref lcd, .ref mli, .ref mru, .ref lfn, .ref mhe, .ref mma, .ref lin, .ref lsc, .ref lva, .ref lpl, .ref (sa 51), .ref lbr, .ref lwa, .int 45, .int (-1)])), (mt, .inr (20, [.ref mtc, .ref mtt, .int (-1), .int 0, .int (-1)]))]) (va_runF (As := []) (rest := []) (hK.1 5 _ rfl).2 ⟨hx, hb, hml, hown, hts⟩ (k_size l D cy sa sv dc mtt _ dc 0 0) (va_cwF 0 hts GF_RX15_7 rfl rfl rfl (hEm.2.2.1 0 _ rfl) HD___java_util_List____size______I__ ⟨Nat.le_of_ble_eq_true rfl, Nat.le_of_ble_eq_true rfl⟩) ⟨z_blind EM_ok, va_recv hK hPc (ci := 5) (q0 := 0) rfl rfl, z_pre EM_ok hPc hK hDc hEm hS hFc⟩ rfl rfl hl.1 rfl (lv_room (Nat.le_of_ble_eq_true rfl)) dX15_next_7 ⟨Nat.le_of_ble_eq_true rfl, Nat.le_of_ble_eq_true rfl⟩) hP hD hS hA [2] [0, 1] rfl rfl (by decide) (by decide) (fun r_7 u7 H locs hw_7 hP hD hS => ?_)
  have hP : va_P D vwCl [(md, .inr (21, [.int 0, .ref mt, .ref lkp, .ref lcd, .ref mli, .ref mru, .ref lfn, .ref mhe, .ref mma, .ref lin, .ref lsc, .ref lva, .ref lpl, .ref (sa 51), .ref lbr, .ref lwa, .int 45, .int (-1)])), (mt, .inr (20, [.ref mtc, .ref mtt, .int (-1), .int 0, .int (-1)])), (mtt, .inr (5, [.int 0, .ref dc, .int 0]))] H := hP
  have hD : va_D A [(md, .inr (21, [.int 0, .ref mt, .ref lkp, .ref lcd, .ref mli, .ref mru, .ref lfn, .ref mhe, .ref mma, .ref lin, .ref lsc, .ref lva, .ref lpl, .ref (sa 51), .ref lbr, .ref lwa, .int 45, .int (-1)])), (mt, .inr (20, [.ref mtc, .ref mtt, .int (-1), .int 0, .int (-1)])), (mtt, .inr (5, [.int 0, .ref dc, .int 0]))] := hD
  obtain rfl := hw_7
  refine lv_istore_n (lv' := [(1, .int 0), (0, .ref md)]) hx hb dX15_next_12 rfl hl (by decide) rfl (fun ls hl => ?_)
  refine lv_iconst (v := 1) hx hb dX15_next_13 (by decide) ?_
  refine lv_istore_n (lv' := [(2, .int 1), (1, .int 0), (0, .ref md)]) hx hb dX15_next_14 rfl hl (by decide) rfl (fun ls hl => ?_)
  refine lv_iload_n hx hb dX15_next_15 rfl (lv_at hl 0 rfl) ?_
  refine lv_iload_n hx hb dX15_next_16 rfl (lv_at hl 1 rfl) ?_
  refine lv_icmp_gt (tgt := 48) hx hb dX15_next_17 (by decide) (fun _ => ?_) (fun c_17 => absurd (by decide) c_17)
  refine lv_iconst (v := (-1)) hx hb dX15_next_48 (by decide) ?_
  exact z_reti () hx hb hr rfl hlocks hK (rfl) hP hD hS (Nat.le_of_ble_eq_true rfl) (Nat.le_of_ble_eq_true rfl) dX15_next_49
