set_option maxHeartbeats 4000000 in
set_option maxRecDepth 100000 in
theorem h_back1 (l : Launch) (hfl : l.stackTraces = false) (D : va_G) (cy : Nat → ClassId) (sa : Nat → Nat) (x hi : Nat) (sz : Nat) (pg nm bp wt nw tr he uw vi sp sg hs ht o : Nat) (p0 : Int32) (h : rg p0 1 1000) : vx_Met l yL_back (Cond.codeWith yL_back cL_back 4 (some .int) [(0, 9, 12, 13), (0, 9, 15, 27)] :: ALL) ({ frames := 8, cells := 1, slots := 6, locals := 103 }) (zPc D vwCl (TY cy) (EN sa) [.ref x, .int p0, .ref o] [(x, .inr (17, [.ref pg, .ref nm, .ref bp, .ref wt, .ref nw, .ref tr, .ref hi, .ref he, .ref uw, .ref vi, .ref sp, .ref sg, .int 45, .int (-1)])), (hi, .inr (7, [.ref pg, .ref hs, .ref ht, .int 0]))] sz) (va_Qi (fun r _ => r = 2) (zB D vwCl (TY cy) (S := Unit) (fun u => []) (va_A [(x, .inr (17, [.ref pg, .ref nm, .ref bp, .ref wt, .ref nw, .ref tr, .ref hi, .ref he, .ref uw, .ref vi, .ref sp, .ref sg, .int 45, .int (-1)])), (hi, .inr (7, [.ref pg, .ref hs, .ref ht, .int 0]))] sz)) (va_A [(x, .inr (17, [.ref pg, .ref nm, .ref bp, .ref wt, .ref nw, .ref tr, .ref hi, .ref he, .ref uw, .ref vi, .ref sp, .ref sg, .int 45, .int (-1)])), (hi, .inr (7, [.ref pg, .ref hs, .ref ht, .int 0]))] sz)) (zX D vwCl (TY cy) (False) "" [] (va_A [(x, .inr (17, [.ref pg, .ref nm, .ref bp, .ref wt, .ref nw, .ref tr, .ref hi, .ref he, .ref uw, .ref vi, .ref sp, .ref sg, .int 45, .int (-1)])), (hi, .inr (7, [.ref pg, .ref hs, .ref ht, .int 0]))] sz)) 1 6 (va_A [(x, .inr (17, [.ref pg, .ref nm, .ref bp, .ref wt, .ref nw, .ref tr, .ref hi, .ref he, .ref uw, .ref vi, .ref sp, .ref sg, .int 45, .int (-1)])), (hi, .inr (7, [.ref pg, .ref hs, .ref ht, .int 0]))] sz) := by
  refine z_startH (Qc := fun A => va_Qi (fun r _ => r = 2) (zB D vwCl (TY cy) (S := Unit) (fun u => []) A) A) (XC := fun A => zX D vwCl (TY cy) (False) "" [] A) PN_RL (Nat.le_of_ble_eq_true rfl) ?_
  intro p e s m below meth c A ls hx hb hr hml hts hown hlocks hT hA hP hK hD hS hEn hl
  have hown : s.vm.findClass RL = some m.cls := hown
  have hNc := hEn.2
  have hEn := hEn.1
  have hl : lv_has ls 4 [(0, .ref x), (1, .int p0), (2, .ref o)] := hl
  have hS0 := hS
  refine lv_aload_n hx hb dL_back_0 rfl (lv_at hl 2 rfl) ?_
  refine lv_iconst (v := 0) hx hb dL_back_1 (by decide) ?_
  refine lv_aload_n hx hb dL_back_2 rfl (lv_at hl 0 rfl) ?_
  refine lv_iload_n hx hb dL_back_3 rfl (lv_at hl 1 rfl) ?_
  refine z_xcalli (vx_runV (As := [.int p0]) (rest := [.int 0, .ref o]) ⟨hx, hb, hml, hown, hts⟩ (m_back1 l hfl D cy sa x hi _ pg nm bp wt nw tr he uw vi sp sg hs ht p0 h) (cwV 1 hts GV_RL_130 rfl rfl rfl ⟨rfl, HD_yX11_back⟩ ⟨Nat.le_of_ble_eq_true rfl, Nat.le_of_ble_eq_true rfl⟩) ⟨z_blind EX_ok, va_recv hK hP (ci := 17) (q0 := 0) rfl rfl, z_pre EX_ok hP hK hD hEn hS (z_free hD hS hA)⟩ rfl rfl hl.1 rfl (lv_room (Nat.le_of_ble_eq_true rfl)) dL_back_4 ⟨Nat.le_of_ble_eq_true rfl, Nat.le_of_ble_eq_true rfl⟩) hD hS hA (fun ce q9 H locs hpx hP hD hS h1 h2 h3 => ?_) (fun r_4 u4 H locs hw_4 hP hD hS => hw_4.elim)
  refine vx_catch (own := RL) (name := "java/lang/UnsupportedOperationException") (E := "java/lang/UnsupportedOperationException") hown [⟨0, 9, 12, 13⟩] ⟨0, 9, 15, 27⟩ [] (hT.trans rfl) (fun z hz => by rcases List.mem_singleton.mp hz with rfl; exact Or.inr ⟨by decide, "java/lang/IllegalArgumentException", hts _ K734, hNc⟩) (by decide) (by decide) (hts _ K945) (va_Nw.use rfl (hEn.1 _ K972)) h1 h2 h3 ?_
  have hP : va_P D vwCl [] H := zP0
  have hD : va_D A [] := zD0
  refine lv_astore_n (lv' := [(3, .ref q9), (0, .ref x), (1, .int p0), (2, .ref o)]) hx hb dL_back_15 rfl hl (by decide) rfl (fun ls hl => ?_)
  refine lv_iconst (v := 2) hx hb dL_back_16 (by decide) ?_
  refine vx_ret ?_
  exact z_reti () hx hb hr rfl hlocks hK (rfl) hP hD hS (Nat.le_of_ble_eq_true rfl) (Nat.le_of_ble_eq_true rfl) dL_back_17
set_option maxHeartbeats 4000000 in
set_option maxRecDepth 100000 in
theorem k_fails2 (l : Launch) (D : va_G) (cy : Nat → ClassId) (sa : Nat → Nat) (sv : Nat → Nat) (dc : Nat) (md : Nat) (sz : Nat) (mt lkp lcd mli mru lfn mhe mma lin lsc lva lpl lbr lwa : Nat) : Met l yX15_fails (Cond.code yX15_fails cX15_fails 3 (some .boolean) :: ALL) ({ frames := 0, cells := 0, slots := 0, locals := 0 }) (zPc D vwCl (TY cy) (EM sa sv dc) [.ref md, .int 1, .int 2] [(md, .inr (21, [.int 0, .ref mt, .ref lkp, .ref lcd, .ref mli, .ref mru, .ref lfn, .ref mhe, .ref mma, .ref lin, .ref lsc, .ref lva, .ref lpl, .ref (sa 51), .ref lbr, .ref lwa, .int 45, .int (-1)]))] sz) (va_Qi (fun r _ => r = 1) (zB D vwCl (TY cy) (S := Unit) (fun u => [(md, .inr (21, [.int 2, .ref mt, .ref lkp, .ref lcd, .ref mli, .ref mru, .ref lfn, .ref mhe, .ref mma, .ref lin, .ref lsc, .ref lva, .ref lpl, .ref (sa 51), .ref lbr, .ref lwa, .int 45, .int (-1)]))]) (va_A [(md, .inr (21, [.int 0, .ref mt, .ref lkp, .ref lcd, .ref mli, .ref mru, .ref lfn, .ref mhe, .ref mma, .ref lin, .ref lsc, .ref lva, .ref lpl, .ref (sa 51), .ref lbr, .ref lwa, .int 45, .int (-1)]))] sz)) (va_A [(md, .inr (21, [.int 0, .ref mt, .ref lkp, .ref lcd, .ref mli, .ref mru, .ref lfn, .ref mhe, .ref mma, .ref lin, .ref lsc, .ref lva, .ref lpl, .ref (sa 51), .ref lbr, .ref lwa, .int 45, .int (-1)]))] sz)) 0 0 (va_A [(md, .inr (21, [.int 0, .ref mt, .ref lkp, .ref lcd, .ref mli, .ref mru, .ref lfn, .ref mhe, .ref mma, .ref lin, .ref lsc, .ref lva, .ref lpl, .ref (sa 51), .ref lbr, .ref lwa, .int 45, .int (-1)]))] sz) := by
  refine z_start (Qc := fun A => va_Qi (fun r _ => r = 1) (zB D vwCl (TY cy) (S := Unit) (fun u => [(md, .inr (21, [.int 2, .ref mt, .ref lkp, .ref lcd, .ref mli, .ref mru, .ref lfn, .ref mhe, .ref mma, .ref lin, .ref lsc, .ref lva, .ref lpl, .ref (sa 51), .ref lbr, .ref lwa, .int 45, .int (-1)]))]) A) A) PN_RX15 (Nat.le_of_ble_eq_true rfl) ?_
  intro p e s m below meth c A ls hx hb hr hml hts hown hlocks hin hA hP hK hD hS hEn hl
  have hown : s.vm.findClass RX15 = some m.cls := hown
  have hEm := hEn
  have hEn := hEn.1
  have hl : lv_has ls 3 [(0, .ref md), (1, .int 1), (2, .int 2)] := hl
  have hS0 := hS
  refine lv_aload_n hx hb dX15_fails_0 rfl (lv_at hl 0 rfl) ?_
  refine va_get (D := D) (ci := 21) (v := .int 0) (C := RX15) (T := TX15) (N := 18) hx hb hts inX15 hown hK hP 0 rfl rfl 0 (by decide) (hts _ K2086) (fun _ h9 => h9) rfl dX15_fails_1 ?_
  refine lv_if_ne (tgt := 16) hx hb dX15_fails_4 (by decide) (fun c_4 => absurd (by decide) c_4) (fun _ => ?_)
  refine lv_iload_n hx hb dX15_fails_7 rfl (lv_at hl 1 rfl) ?_
  refine lv_if_eq (tgt := 16) hx hb dX15_fails_8 (by decide) (fun c_8 => absurd c_8 (by decide)) (fun _ => ?_)
  refine lv_aload_n hx hb dX15_fails_11 rfl (lv_at hl 0 rfl) ?_
  refine lv_iload_n hx hb dX15_fails_12 rfl (lv_at hl 2 rfl) ?_
  refine va_put (D := D) (ci := 21) (v := .int 2) (ty := .int) (C := RX15) (T := TX15) (N := 18) hx hb hts inX15 tyX15 tyX15_ok nmX15 hown hK hP hD hS 0 rfl rfl 0 (by decide) (hts _ K2086) (fun _ h9 => h9) rfl (by decide +kernel) rfl rfl (Nat.le_of_ble_eq_true rfl) dX15_fails_13 (fun H locs hP hD hS => ?_)
  have hP : va_P D vwCl [(md, .inr (21, [.int 2, .ref mt, .ref lkp, .ref lcd, .ref mli, .ref mru, .ref lfn, .ref mhe, .ref mma, .ref lin, .ref lsc, .ref lva, .ref lpl, .ref (sa 51), .ref lbr, .ref lwa, .int 45, .int (-1)]))] H := hP
  have hD : va_D A [(md, .inr (21, [.int 2, .ref mt, .ref lkp, .ref lcd, .ref mli, .ref mru, .ref lfn, .ref mhe, .ref mma, .ref lin, .ref lsc, .ref lva, .ref lpl, .ref (sa 51), .ref lbr, .ref lwa, .int 45, .int (-1)]))] := hD
  refine lv_aload_n hx hb dX15_fails_16 rfl (lv_at hl 0 rfl) ?_
  refine va_get (D := D) (ci := 21) (v := .int 2) (C := RX15) (T := TX15) (N := 18) hx hb hts inX15 hown hK hP 0 rfl rfl 0 (by decide) (hts _ K2086) (fun _ h9 => h9) rfl dX15_fails_17 ?_
  refine lv_if_le (tgt := 27) hx hb dX15_fails_20 (by decide) (fun c_20 => absurd c_20 (by decide)) (fun _ => ?_)
  refine lv_iconst (v := 1) hx hb dX15_fails_23 (by decide) ?_
  refine lv_goto (tgt := 28) hx hb dX15_fails_24 (by decide) ?_
  exact z_reti () hx hb hr rfl hlocks hK (rfl) hP hD hS (Nat.le_of_ble_eq_true rfl) (Nat.le_of_ble_eq_true rfl) dX15_fails_28
set_option maxHeartbeats 4000000 in
set_option maxRecDepth 100000 in
theorem k_back1 (l : Launch) (D : va_G) (cy : Nat → ClassId) (sa : Nat → Nat) (sv : Nat → Nat) (dc : Nat) (md lkp : Nat) (sz : Nat) (mt lcd mli mru lfn mhe mma lin lsc lva lpl lbr lwa : Nat) (p0 : Int32) (h : rg p0 1 1000) : Met l yX15_back (Cond.code yX15_back cX15_back 2 (some .int) :: ALL) ({ frames := 1, cells := 0, slots := 0, locals := 25 }) (zPc D vwCl (TY cy) (EM sa sv dc) [.ref md, .int p0] [(md, .inr (21, [.int 0, .ref mt, .ref lkp, .ref lcd, .ref mli, .ref mru, .ref lfn, .ref mhe, .ref mma, .ref lin, .ref lsc, .ref lva, .ref lpl, .ref (sa 51), .ref lbr, .ref lwa, .int 45, .int (-1)])), (lkp, .inr (5, [.int 0, .ref dc, .int 0]))] sz) (va_Qi (fun r _ => r = (-1)) (zB D vwCl (TY cy) (S := Unit) (fun u => [(md, .inr (21, [.int 2, .ref mt, .ref lkp, .ref lcd, .ref mli, .ref mru, .ref lfn, .ref mhe, .ref mma, .ref lin, .ref lsc, .ref lva, .ref lpl, .ref (sa 51), .ref lbr, .ref lwa, .int 45, .int (-1)]))]) (va_A [(md, .inr (21, [.int 0, .ref mt, .ref lkp, .ref lcd, .ref mli, .ref mru, .ref lfn, .ref mhe, .ref mma, .ref lin, .ref lsc, .ref lva, .ref lpl, .ref (sa 51), .ref lbr, .ref lwa, .int 45, .int (-1)])), (lkp, .inr (5, [.int 0, .ref dc, .int 0]))] sz)) (va_A [(md, .inr (21, [.int 0, .ref mt, .ref lkp, .ref lcd, .ref mli, .ref mru, .ref lfn, .ref mhe, .ref mma, .ref lin, .ref lsc, .ref lva, .ref lpl, .ref (sa 51), .ref lbr, .ref lwa, .int 45, .int (-1)])), (lkp, .inr (5, [.int 0, .ref dc, .int 0]))] sz)) 0 0 (va_A [(md, .inr (21, [.int 0, .ref mt, .ref lkp, .ref lcd, .ref mli, .ref mru, .ref lfn, .ref mhe, .ref mma, .ref lin, .ref lsc, .ref lva, .ref lpl, .ref (sa 51), .ref lbr, .ref lwa, .int 45, .int (-1)])), (lkp, .inr (5, [.int 0, .ref dc, .int 0]))] sz) := by
  refine z_start (Qc := fun A => va_Qi (fun r _ => r = (-1)) (zB D vwCl (TY cy) (S := Unit) (fun u => [(md, .inr (21, [.int 2, .ref mt, .ref lkp, .ref lcd, .ref mli, .ref mru, .ref lfn, .ref mhe, .ref mma, .ref lin, .ref lsc, .ref lva, .ref lpl, .ref (sa 51), .ref lbr, .ref lwa, .int 45, .int (-1)]))]) A) A) PN_RX15 (Nat.le_of_ble_eq_true rfl) ?_
  intro p e s m below meth c A ls hx hb hr hml hts hown hlocks hin hA hP hK hD hS hEn hl
  have hown : s.vm.findClass RX15 = some m.cls := hown
  have hEm := hEn
  have hEn := hEn.1
  have hl : lv_has ls 2 [(0, .ref md), (1, .int p0)] := hl
  have hS0 := hS
  refine lv_aload_n hx hb dX15_back_0 rfl (lv_at hl 0 rfl) ?_
  have hPc := hP.sub (ws' := [(md, .inr (21, [.int 0, .ref mt, .ref lkp, .ref lcd, .ref mli, .ref mru, .ref lfn, .ref mhe, .ref mma, .ref lin, .ref lsc, .ref lva, .ref lpl, .ref (sa 51), .ref lbr, .ref lwa, .int 45, .int (-1)]))]) [0] rfl
  have hDc := hD.sub (ws' := [(md, .inr (21, [.int 0, .ref mt, .ref lkp, .ref lcd, .ref mli, .ref mru, .ref lfn, .ref mhe, .ref mma, .ref lin, .ref lsc, .ref lva, .ref lpl, .ref (sa 51), .ref lbr, .ref lwa, .int 45, .int (-1)]))]) [0] (by decide) rfl
  have hFc := va_free (wc := [(md, .inr (21, [.int 0, .ref mt, .ref lkp, .ref lcd, .ref mli, .ref mru, .ref lfn, .ref mhe, .ref mma, .ref lin, .ref lsc, .ref lva, .ref lpl, .ref (sa 51), .ref lbr, .ref lwa, .int 45, .int (-1)]))]) hD hS hA [0] rfl
  refine z_callvJ (wr := [(lkp, .inr (5, [.int 0, .ref dc, .int 0]))]) (va_runV (As := []) (rest := []) ⟨hx, hb, hml, hown, hts⟩ (k_begins l D cy sa sv dc md _ mt lkp lcd mli mru lfn mhe mma lin lsc lva lpl lbr lwa) (cwV 0 hts GV_RX15_124 rfl rfl rfl ⟨rfl, HD_yX15_begins⟩ ⟨Nat.le_of_ble_eq_true rfl, Nat.le_of_ble_eq_true rfl⟩) ⟨z_blind EM_ok, va_recv hK hPc (ci := 21) (q0 := 0) rfl rfl, z_pre EM_ok hPc hK hDc hEm hS hFc⟩ rfl rfl hl.1 rfl (lv_room (Nat.le_of_ble_eq_true rfl)) dX15_back_1 ⟨Nat.le_of_ble_eq_true rfl, Nat.le_of_ble_eq_true rfl⟩) hP hD hS hA [0] [1] rfl rfl (by decide) (by decide) (fun u1 H locs hw_1 hP hD hS => ?_)
  have hP : va_P D vwCl [(lkp, .inr (5, [.int 0, .ref dc, .int 0])), (md, .inr (21, [.int 0, .ref mt, .ref lkp, .ref lcd, .ref mli, .ref mru, .ref lfn, .ref mhe, .ref mma, .ref lin, .ref lsc, .ref lva, .ref lpl, .ref (sa 51), .ref lbr, .ref lwa, .int 45, .int (-1)]))] H := hP
  have hD : va_D A [(lkp, .inr (5, [.int 0, .ref dc, .int 0])), (md, .inr (21, [.int 0, .ref mt, .ref lkp, .ref lcd, .ref mli, .ref mru, .ref lfn, .ref mhe, .ref mma, .ref lin, .ref lsc, .ref lva, .ref lpl, .ref (sa 51), .ref lbr, .ref lwa, .int 45, .int (-1)]))] := hD
  refine lv_aload_n hx hb dX15_back_4 rfl (lv_at hl 0 rfl) ?_
  refine lv_iload_n hx hb dX15_back_5 rfl (lv_at hl 1 rfl) ?_
  refine lv_i2l hx hb dX15_back_6 rfl ?_
  refine lv_lconst (v := 1) hx hb dX15_back_7 (by decide) ?_
  refine lv_ldc2 hx hb hown (hts _ K2811) dX15_back_8 ?_
  have hPc := hP.sub (ws' := []) [] rfl
  have hDc := hD.sub (ws' := []) [] (by decide) rfl
  have hFc := va_free (wc := []) hD hS hA [] rfl
  refine z_calliJ (wr := [(lkp, .inr (5, [.int 0, .ref dc, .int 0])), (md, .inr (21, [.int 0, .ref mt, .ref lkp, .ref lcd, .ref mli, .ref mru, .ref lfn, .ref mhe, .ref mma, .ref lin, .ref lsc, .ref lva, .ref lpl, .ref (sa 51), .ref lbr, .ref lwa, .int 45, .int (-1)]))]) (va_runS (As := [.long p0.toInt64, .long 1, .long 1000]) (rest := [.ref md]) ⟨hx, hb, hml, hown, hts⟩ (k_in l D cy sa sv dc _ (p0.toInt64) 1 1000) (va_cwS 3 hts GS_RX15_13 rfl rfl rfl HD_yX15_in ⟨Nat.le_of_ble_eq_true rfl, Nat.le_of_ble_eq_true rfl⟩) ⟨z_blind EM_ok, z_pre EM_ok hPc hK hDc hEm hS hFc⟩ rfl rfl hl.1 rfl (lv_room (Nat.le_of_ble_eq_true rfl)) dX15_back_11 ⟨Nat.le_of_ble_eq_true rfl, Nat.le_of_ble_eq_true rfl⟩) hP hD hS hA [] [0, 1] rfl rfl (by decide) (by decide) (fun r_11 u11 H locs hw_11 hP hD hS => ?_)
  have hP : va_P D vwCl [(lkp, .inr (5, [.int 0, .ref dc, .int 0])), (md, .inr (21, [.int 0, .ref mt, .ref lkp, .ref lcd, .ref mli, .ref mru, .ref lfn, .ref mhe, .ref mma, .ref lin, .ref lsc, .ref lva, .ref lpl, .ref (sa 51), .ref lbr, .ref lwa, .int 45, .int (-1)]))] H := hP
  have hD : va_D A [(lkp, .inr (5, [.int 0, .ref dc, .int 0])), (md, .inr (21, [.int 0, .ref mt, .ref lkp, .ref lcd, .ref mli, .ref mru, .ref lfn, .ref mhe, .ref mma, .ref lin, .ref lsc, .ref lva, .ref lpl, .ref (sa 51), .ref lbr, .ref lwa, .int 45, .int (-1)]))] := hD
  obtain rfl := hw_11
  refine lv_if_ne (tgt := 21) hx hb dX15_back_14 (by decide) (fun _ => ?_) (fun c_14 => absurd c_14 (fun z => absurd ((inL_rg (b := 1000) (by decide) h).symm.trans z) (by decide)))
  refine lv_iconst (v := 0) hx hb dX15_back_21 (by decide) ?_
  refine lv_iconst (v := 1) hx hb dX15_back_22 (by decide) ?_
  have hPc := hP.sub (ws' := [(md, .inr (21, [.int 0, .ref mt, .ref lkp, .ref lcd, .ref mli, .ref mru, .ref lfn, .ref mhe, .ref mma, .ref lin, .ref lsc, .ref lva, .ref lpl, .ref (sa 51), .ref lbr, .ref lwa, .int 45, .int (-1)]))]) [1] rfl
  have hDc := hD.sub (ws' := [(md, .inr (21, [.int 0, .ref mt, .ref lkp, .ref lcd, .ref mli, .ref mru, .ref lfn, .ref mhe, .ref mma, .ref lin, .ref lsc, .ref lva, .ref lpl, .ref (sa 51), .ref lbr, .ref lwa, .int 45, .int (-1)]))]) [1] (by decide) rfl
  have hFc := va_free (wc := [(md, .inr (21, [.int 0, .ref mt, .ref lkp, .ref lcd, .ref mli, .ref mru, .ref lfn, .ref mhe, .ref mma, .ref lin, .ref lsc, .ref lva, .ref lpl, .ref (sa 51), .ref lbr, .ref lwa, .int 45, .int (-1)]))]) hD hS hA [1] rfl
  refine z_calliJ (wr := [(lkp, .inr (5, [.int 0, .ref dc, .int 0]))]) (va_runV (As := [.int 0, .int 1]) (rest := []) ⟨hx, hb, hml, hown, hts⟩ (k_fails0 l D cy sa sv dc md _ mt lkp lcd mli mru lfn mhe mma lin lsc lva lpl lbr lwa 1) (cwV 2 hts GV_RX15_98 rfl rfl rfl ⟨rfl, HD_yX15_fails⟩ ⟨Nat.le_of_ble_eq_true rfl, Nat.le_of_ble_eq_true rfl⟩) ⟨z_blind EM_ok, va_recv hK hPc (ci := 21) (q0 := 0) rfl rfl, z_pre EM_ok hPc hK hDc hEm hS hFc⟩ rfl rfl hl.1 rfl (lv_room (Nat.le_of_ble_eq_true rfl)) dX15_back_23 ⟨Nat.le_of_ble_eq_true rfl, Nat.le_of_ble_eq_true rfl⟩) hP hD hS hA [1] [0] rfl rfl (by decide) (by decide) (fun r_23 u23 H locs hw_23 hP hD hS => ?_)
  have hP : va_P D vwCl [(lkp, .inr (5, [.int 0, .ref dc, .int 0])), (md, .inr (21, [.int 0, .ref mt, .ref lkp, .ref lcd, .ref mli, .ref mru, .ref lfn, .ref mhe, .ref mma, .ref lin, .ref lsc, .ref lva, .ref lpl, .ref (sa 51), .ref lbr, .ref lwa, .int 45, .int (-1)]))] H := hP
  have hD : va_D A [(lkp, .inr (5, [.int 0, .ref dc, .int 0])), (md, .inr (21, [.int 0, .ref mt, .ref lkp, .ref lcd, .ref mli, .ref mru, .ref lfn, .ref mhe, .ref mma, .ref lin, .ref lsc, .ref lva, .ref lpl, .ref (sa 51), .ref lbr, .ref lwa, .int 45, .int (-1)]))] := hD
  obtain rfl := hw_23
  refine lv_if_ne (tgt := 55) hx hb dX15_back_26 (by decide) (fun c_26 => absurd (by decide) c_26) (fun _ => ?_)
  refine lv_aload_n hx hb dX15_back_29 rfl (lv_at hl 0 rfl) ?_
  refine lv_aload_n hx hb dX15_back_30 rfl (lv_at hl 0 rfl) ?_
  refine va_get (D := D) (ci := 21) (v := .ref lkp) (C := RX15) (T := TX15) (N := 18) hx hb hts inX15 hown hK hP 1 rfl rfl 2 (by decide) (hts _ K2088) (fun _ h9 => h9) rfl dX15_back_31 ?_
  have hPc := hP.sub (ws' := [(lkp, .inr (5, [.int 0, .ref dc, .int 0]))]) [0] rfl
  have hDc := hD.sub (ws' := [(lkp, .inr (5, [.int 0, .ref dc, .int 0]))]) [0] (by decide) rfl
  have hFc := va_free (wc := [(lkp, .inr (5, [.int 0, .ref dc, .int 0]))]) hD hS hA [0] rfl
  refine z_callFiJ (wr := [(md, .inr (21, [.int 0, .ref mt, .ref lkp, .ref lcd, .ref mli, .ref mru, .ref lfn, .ref mhe, .ref mma, .ref lin, .ref lsc, .ref lva, .ref lpl, .ref (sa 51), .ref lbr, .ref lwa, .int 45, .int (-1)]))]) (va_runF (As := []) (rest := [.ref md]) (hK.1 5 _ rfl).2 ⟨hx, hb, hml, hown, hts⟩ (k_size l D cy sa sv dc lkp _ dc 0 0) (va_cwF 0 hts GF_RX15_7 rfl rfl rfl (hEm.2.2.1 0 _ rfl) HD___java_util_List____size______I__ ⟨Nat.le_of_ble_eq_true rfl, Nat.le_of_ble_eq_true rfl⟩) ⟨z_blind EM_ok, va_recv hK hPc (ci := 5) (q0 := 0) rfl rfl, z_pre EM_ok hPc hK hDc hEm hS hFc⟩ rfl rfl hl.1 rfl (lv_room (Nat.le_of_ble_eq_true rfl)) dX15_back_34 ⟨Nat.le_of_ble_eq_true rfl, Nat.le_of_ble_eq_true rfl⟩) hP hD hS hA [0] [1] rfl rfl (by decide) (by decide) (fun r_34 u34 H locs hw_34 hP hD hS => ?_)
  have hP : va_P D vwCl [(md, .inr (21, [.int 0, .ref mt, .ref lkp, .ref lcd, .ref mli, .ref mru, .ref lfn, .ref mhe, .ref mma, .ref lin, .ref lsc, .ref lva, .ref lpl, .ref (sa 51), .ref lbr, .ref lwa, .int 45, .int (-1)])), (lkp, .inr (5, [.int 0, .ref dc, .int 0]))] H := hP
  have hD : va_D A [(md, .inr (21, [.int 0, .ref mt, .ref lkp, .ref lcd, .ref mli, .ref mru, .ref lfn, .ref mhe, .ref mma, .ref lin, .ref lsc, .ref lva, .ref lpl, .ref (sa 51), .ref lbr, .ref lwa, .int 45, .int (-1)])), (lkp, .inr (5, [.int 0, .ref dc, .int 0]))] := hD
  obtain rfl := hw_34
  refine lv_iload_n hx hb dX15_back_39 rfl (lv_at hl 1 rfl) ?_
  refine lv_icmp_ge (tgt := 47) hx hb dX15_back_40 (by decide) (fun c_40 => absurd c_40 (run0 h.1)) (fun _ => ?_)
  refine lv_iconst (v := 1) hx hb dX15_back_43 (by decide) ?_
  refine lv_goto (tgt := 48) hx hb dX15_back_44 (by decide) ?_
  refine lv_iconst (v := 2) hx hb dX15_back_48 (by decide) ?_
  have hPc := hP.sub (ws' := [(md, .inr (21, [.int 0, .ref mt, .ref lkp, .ref lcd, .ref mli, .ref mru, .ref lfn, .ref mhe, .ref mma, .ref lin, .ref lsc, .ref lva, .ref lpl, .ref (sa 51), .ref lbr, .ref lwa, .int 45, .int (-1)]))]) [0] rfl
  have hDc := hD.sub (ws' := [(md, .inr (21, [.int 0, .ref mt, .ref lkp, .ref lcd, .ref mli, .ref mru, .ref lfn, .ref mhe, .ref mma, .ref lin, .ref lsc, .ref lva, .ref lpl, .ref (sa 51), .ref lbr, .ref lwa, .int 45, .int (-1)]))]) [0] (by decide) rfl
  have hFc := va_free (wc := [(md, .inr (21, [.int 0, .ref mt, .ref lkp, .ref lcd, .ref mli, .ref mru, .ref lfn, .ref mhe, .ref mma, .ref lin, .ref lsc, .ref lva, .ref lpl, .ref (sa 51), .ref lbr, .ref lwa, .int 45, .int (-1)]))]) hD hS hA [0] rfl
  refine z_calliJ (wr := [(lkp, .inr (5, [.int 0, .ref dc, .int 0]))]) (va_runV (As := [.int 1, .int 2]) (rest := []) ⟨hx, hb, hml, hown, hts⟩ (k_fails2 l D cy sa sv dc md _ mt lkp lcd mli mru lfn mhe mma lin lsc lva lpl lbr lwa) (cwV 2 hts GV_RX15_98 rfl rfl rfl ⟨rfl, HD_yX15_fails⟩ ⟨Nat.le_of_ble_eq_true rfl, Nat.le_of_ble_eq_true rfl⟩) ⟨z_blind EM_ok, va_recv hK hPc (ci := 21) (q0 := 0) rfl rfl, z_pre EM_ok hPc hK hDc hEm hS hFc⟩ rfl rfl hl.1 rfl (lv_room (Nat.le_of_ble_eq_true rfl)) dX15_back_49 ⟨Nat.le_of_ble_eq_true rfl, Nat.le_of_ble_eq_true rfl⟩) hP hD hS hA [0] [1] rfl rfl (by decide) (by decide) (fun r_49 u49 H locs hw_49 hP hD hS => ?_)
  have hP : va_P D vwCl [(lkp, .inr (5, [.int 0, .ref dc, .int 0])), (md, .inr (21, [.int 2, .ref mt, .ref lkp, .ref lcd, .ref mli, .ref mru, .ref lfn, .ref mhe, .ref mma, .ref lin, .ref lsc, .ref lva, .ref lpl, .ref (sa 51), .ref lbr, .ref lwa, .int 45, .int (-1)]))] H := hP
  have hD : va_D A [(lkp, .inr (5, [.int 0, .ref dc, .int 0])), (md, .inr (21, [.int 2, .ref mt, .ref lkp, .ref lcd, .ref mli, .ref mru, .ref lfn, .ref mhe, .ref mma, .ref lin, .ref lsc, .ref lva, .ref lpl, .ref (sa 51), .ref lbr, .ref lwa, .int 45, .int (-1)]))] := hD
  obtain rfl := hw_49
  refine lv_if_eq (tgt := 57) hx hb dX15_back_52 (by decide) (fun c_52 => absurd c_52 (by decide)) (fun _ => ?_)
  refine lv_iconst (v := (-1)) hx hb dX15_back_55 (by decide) ?_
  have hP := hP.sub (ws' := [(md, .inr (21, [.int 2, .ref mt, .ref lkp, .ref lcd, .ref mli, .ref mru, .ref lfn, .ref mhe, .ref mma, .ref lin, .ref lsc, .ref lva, .ref lpl, .ref (sa 51), .ref lbr, .ref lwa, .int 45, .int (-1)]))]) [1] rfl
  have hD := hD.sub (ws' := [(md, .inr (21, [.int 2, .ref mt, .ref lkp, .ref lcd, .ref mli, .ref mru, .ref lfn, .ref mhe, .ref mma, .ref lin, .ref lsc, .ref lva, .ref lpl, .ref (sa 51), .ref lbr, .ref lwa, .int 45, .int (-1)]))]) [1] (by decide) rfl
  exact z_reti () hx hb hr rfl hlocks hK (rfl) hP hD hS (Nat.le_of_ble_eq_true rfl) (Nat.le_of_ble_eq_true rfl) dX15_back_56
