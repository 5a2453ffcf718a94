set_option maxHeartbeats 4000000 in
set_option maxRecDepth 100000 in
/-- isBelow, any two -/
theorem m_isBelow (l : Launch) (D : va_G) (cy : Nat → ClassId) (sa : Nat → Nat) (sz : Nat) (p0 p1 : Int32) : Met l yX11_isBelow (Cond.code yX11_isBelow cX11_isBelow 2 (some .boolean) :: ALL) ({ frames := 0, cells := 0, slots := 0, locals := 0 }) (zPc D vwCl (TY cy) (EX sa) [.int p0, .int p1] [] sz) (va_Qi (fun r _ => r = bl p0 p1) (zB D vwCl (TY cy) (S := Unit) (fun u => []) (va_A [] sz)) (va_A [] sz)) 0 0 (va_A [] sz) := by
  refine z_start (Qc := fun A => va_Qi (fun r _ => r = bl p0 p1) (zB D vwCl (TY cy) (S := Unit) (fun u => []) A) A) PN_RX11 (Nat.le_of_ble_eq_true rfl) ?_
  intro p e s m below meth c A ls hx hb hr hml hts hown hlocks hin hA hP hK hD hS hEn hl
  have hown : s.vm.findClass RX11 = some m.cls := hown
  have hl : lv_has ls 2 [(0, .int p0), (1, .int p1)] := hl
  have hS0 := hS
  refine lv_iload_n hx hb dX11_isBelow_0 rfl (lv_at hl 0 rfl) ?_
  refine lv_if_lt (tgt := 13) hx hb dX11_isBelow_1 (by decide) (fun c_1 => ?_) (fun c_1 => ?_)
  · refine lv_iconst (v := 0) hx hb dX11_isBelow_13 (by decide) ?_
    exact z_reti () hx hb hr rfl hlocks hK (by simp [bl, *]) hP hD hS (Nat.le_of_ble_eq_true rfl) (Nat.le_of_ble_eq_true rfl) dX11_isBelow_14
  · refine lv_iload_n hx hb dX11_isBelow_4 rfl (lv_at hl 0 rfl) ?_
    refine lv_iload_n hx hb dX11_isBelow_5 rfl (lv_at hl 1 rfl) ?_
    refine lv_icmp_ge (tgt := 13) hx hb dX11_isBelow_6 (by decide) (fun c_6 => ?_) (fun c_6 => ?_)
    · refine lv_iconst (v := 0) hx hb dX11_isBelow_13 (by decide) ?_
      exact z_reti () hx hb hr rfl hlocks hK (by simp [bl, *]) hP hD hS (Nat.le_of_ble_eq_true rfl) (Nat.le_of_ble_eq_true rfl) dX11_isBelow_14
    · refine lv_iconst (v := 1) hx hb dX11_isBelow_9 (by decide) ?_
      refine lv_goto (tgt := 14) hx hb dX11_isBelow_10 (by decide) ?_
      exact z_reti () hx hb hr rfl hlocks hK (by simp [bl, *]) hP hD hS (Nat.le_of_ble_eq_true rfl) (Nat.le_of_ble_eq_true rfl) dX11_isBelow_14
set_option maxHeartbeats 4000000 in
set_option maxRecDepth 100000 in
/-- nothing is below 0 -/
theorem m_isBelow0 (l : Launch) (D : va_G) (cy : Nat → ClassId) (sa : Nat → Nat) (sz : Nat) (p0 : Int32) : Met l yX11_isBelow (Cond.code yX11_isBelow cX11_isBelow 2 (some .boolean) :: ALL) ({ frames := 0, cells := 0, slots := 0, locals := 0 }) (zPc D vwCl (TY cy) (EX sa) [.int p0, .int 0] [] sz) (va_Qi (fun r _ => r = 0) (zB D vwCl (TY cy) (S := Unit) (fun u => []) (va_A [] sz)) (va_A [] sz)) 0 0 (va_A [] sz) := by
  refine z_start (Qc := fun A => va_Qi (fun r _ => r = 0) (zB D vwCl (TY cy) (S := Unit) (fun u => []) A) A) PN_RX11 (Nat.le_of_ble_eq_true rfl) ?_
  intro p e s m below meth c A ls hx hb hr hml hts hown hlocks hin hA hP hK hD hS hEn hl
  have hown : s.vm.findClass RX11 = some m.cls := hown
  have hl : lv_has ls 2 [(0, .int p0), (1, .int 0)] := hl
  have hS0 := hS
  refine lv_iload_n hx hb dX11_isBelow_0 rfl (lv_at hl 0 rfl) ?_
  refine lv_if_lt (tgt := 13) hx hb dX11_isBelow_1 (by decide) (fun c_1 => ?_) (fun c_1 => ?_)
  · refine lv_iconst (v := 0) hx hb dX11_isBelow_13 (by decide) ?_
    exact z_reti () hx hb hr rfl hlocks hK (rfl) hP hD hS (Nat.le_of_ble_eq_true rfl) (Nat.le_of_ble_eq_true rfl) dX11_isBelow_14
  · refine lv_iload_n hx hb dX11_isBelow_4 rfl (lv_at hl 0 rfl) ?_
    refine lv_iload_n hx hb dX11_isBelow_5 rfl (lv_at hl 1 rfl) ?_
    refine lv_icmp_ge (tgt := 13) hx hb dX11_isBelow_6 (by decide) (fun _ => ?_) (fun c_6 => absurd (nlt_le c_1) c_6)
    refine lv_iconst (v := 0) hx hb dX11_isBelow_13 (by decide) ?_
    exact z_reti () hx hb hr rfl hlocks hK (rfl) hP hD hS (Nat.le_of_ble_eq_true rfl) (Nat.le_of_ble_eq_true rfl) dX11_isBelow_14
set_option maxHeartbeats 4000000 in
set_option maxRecDepth 100000 in
theorem m_hasPlace (l : Launch) (D : va_G) (cy : Nat → ClassId) (sa : Nat → Nat) (pg : Nat) (sz : Nat) (pf pl pc1 pc2 pk1 pk2 pk3 pk4 pk5 : Nat) (p0 : Int32) : Met l yX3_hasPlace (Cond.code yX3_hasPlace cX3_hasPlace 2 (some .boolean) :: ALL) ({ frames := 1, cells := 0, slots := 0, locals := 21 }) (zPc D vwCl (TY cy) (EX sa) [.ref pg, .int p0] [(pg, .inr (9, [.ref pf, .ref pl, .ref pc1, .ref pc2, .ref pk1, .ref pk2, .ref pk3, .ref pk4, .ref pk5, .int 0]))] sz) (va_Qi (fun r _ => r = 0) (zB D vwCl (TY cy) (S := Unit) (fun u => []) (va_A [(pg, .inr (9, [.ref pf, .ref pl, .ref pc1, .ref pc2, .ref pk1, .ref pk2, .ref pk3, .ref pk4, .ref pk5, .int 0]))] sz)) (va_A [(pg, .inr (9, [.ref pf, .ref pl, .ref pc1, .ref pc2, .ref pk1, .ref pk2, .ref pk3, .ref pk4, .ref pk5, .int 0]))] sz)) 0 0 (va_A [(pg, .inr (9, [.ref pf, .ref pl, .ref pc1, .ref pc2, .ref pk1, .ref pk2, .ref pk3, .ref pk4, .ref pk5, .int 0]))] sz) := by
  refine z_start (Qc := fun A => va_Qi (fun r _ => r = 0) (zB D vwCl (TY cy) (S := Unit) (fun u => []) A) A) PN_RX3 (Nat.le_of_ble_eq_true rfl) ?_
  intro p e s m below meth c A ls hx hb hr hml hts hown hlocks hin hA hP hK hD hS hEn hl
  have hown : s.vm.findClass RX3 = some m.cls := hown
  have hl : lv_has ls 2 [(0, .ref pg), (1, .int p0)] := hl
  have hS0 := hS
  refine lv_iload_n hx hb dX3_hasPlace_0 rfl (lv_at hl 1 rfl) ?_
  refine lv_aload_n hx hb dX3_hasPlace_1 rfl (lv_at hl 0 rfl) ?_
  refine va_get (D := D) (ci := 9) (v := .int 0) (C := RX3) (T := TX3) (N := 10) hx hb hts inX3 hown hK hP 0 rfl rfl 9 (by decide) (hts _ K171) (fun _ h9 => h9) rfl dX3_hasPlace_2 ?_
  have hPc := hP.sub (ws' := []) [] rfl
  have hDc := hD.sub (ws' := []) [] (by decide) rfl
  have hFc := va_free (wc := []) hD hS hA [] rfl
  refine z_calliJ (wr := [(pg, .inr (9, [.ref pf, .ref pl, .ref pc1, .ref pc2, .ref pk1, .ref pk2, .ref pk3, .ref pk4, .ref pk5, .int 0]))]) (va_runSN (As := [.int p0, .int 0]) (rest := []) ⟨hx, hb, hml, hown, hts⟩ (m_isBelow0 l D cy sa _ p0) ⟨va_cnB 2 hts GI_K588 rfl rfl rfl (hEn.1 _ K638) (hts _ K77) HD_yX11_isBelow ⟨Nat.le_of_ble_eq_true rfl, Nat.le_of_ble_eq_true rfl⟩, hts _ K587, trivial⟩ ⟨z_blind EX_ok, z_pre EX_ok hPc hK hDc hEn hS hFc⟩ rfl rfl hl.1 rfl (lv_room (Nat.le_of_ble_eq_true rfl)) dX3_hasPlace_5 ⟨Nat.le_of_ble_eq_true rfl, Nat.le_of_ble_eq_true rfl⟩) hP hD hS hA [] [0] rfl rfl (by decide) (by decide) (fun r_5 u5 H locs hw_5 hP hD hS => ?_)
  have hP : va_P D vwCl [(pg, .inr (9, [.ref pf, .ref pl, .ref pc1, .ref pc2, .ref pk1, .ref pk2, .ref pk3, .ref pk4, .ref pk5, .int 0]))] H := hP
  have hD : va_D A [(pg, .inr (9, [.ref pf, .ref pl, .ref pc1, .ref pc2, .ref pk1, .ref pk2, .ref pk3, .ref pk4, .ref pk5, .int 0]))] := hD
  obtain rfl := hw_5
  have hP := hP.sub (ws' := []) [] rfl
  have hD := hD.sub (ws' := []) [] (by decide) rfl
  exact z_reti () hx hb hr rfl hlocks hK (rfl) hP hD hS (Nat.le_of_ble_eq_true rfl) (Nat.le_of_ble_eq_true rfl) dX3_hasPlace_8
set_option maxHeartbeats 4000000 in
set_option maxRecDepth 100000 in
theorem m_isRow (l : Launch) (D : va_G) (cy : Nat → ClassId) (sa : Nat → Nat) (pf : Nat) (sz : Nat) (pf1 pf2 : Nat) (p0 : Int32) : Met l yX4_isRow (Cond.code yX4_isRow cX4_isRow 2 (some .boolean) :: ALL) ({ frames := 1, cells := 0, slots := 0, locals := 21 }) (zPc D vwCl (TY cy) (EX sa) [.ref pf, .int p0] [(pf, .inr (10, [.ref pf1, .ref pf2, .int 0]))] sz) (va_Qi (fun r _ => r = 0) (zB D vwCl (TY cy) (S := Unit) (fun u => []) (va_A [(pf, .inr (10, [.ref pf1, .ref pf2, .int 0]))] sz)) (va_A [(pf, .inr (10, [.ref pf1, .ref pf2, .int 0]))] sz)) 0 0 (va_A [(pf, .inr (10, [.ref pf1, .ref pf2, .int 0]))] sz) := by
  refine z_start (Qc := fun A => va_Qi (fun r _ => r = 0) (zB D vwCl (TY cy) (S := Unit) (fun u => []) A) A) PN_RX4 (Nat.le_of_ble_eq_true rfl) ?_
  intro p e s m below meth c A ls hx hb hr hml hts hown hlocks hin hA hP hK hD hS hEn hl
  have hown : s.vm.findClass RX4 = some m.cls := hown
  have hl : lv_has ls 2 [(0, .ref pf), (1, .int p0)] := hl
  have hS0 := hS
  refine lv_iload_n hx hb dX4_isRow_0 rfl (lv_at hl 1 rfl) ?_
  refine lv_aload_n hx hb dX4_isRow_1 rfl (lv_at hl 0 rfl) ?_
  refine va_get (D := D) (ci := 10) (v := .int 0) (C := RX4) (T := TX4) (N := 3) hx hb hts inX4 hown hK hP 0 rfl rfl 2 (by decide) (hts _ K148) (fun _ h9 => h9) rfl dX4_isRow_2 ?_
  have hPc := hP.sub (ws' := []) [] rfl
  have hDc := hD.sub (ws' := []) [] (by decide) rfl
  have hFc := va_free (wc := []) hD hS hA [] rfl
  refine z_calliJ (wr := [(pf, .inr (10, [.ref pf1, .ref pf2, .int 0]))]) (va_runSN (As := [.int p0, .int 0]) (rest := []) ⟨hx, hb, hml, hown, hts⟩ (m_isBelow0 l D cy sa _ p0) ⟨va_cnB 2 hts GI_K588 rfl rfl rfl (hEn.1 _ K651) (hts _ K77) HD_yX11_isBelow ⟨Nat.le_of_ble_eq_true rfl, Nat.le_of_ble_eq_true rfl⟩, hts _ K587, trivial⟩ ⟨z_blind EX_ok, z_pre EX_ok hPc hK hDc hEn hS hFc⟩ rfl rfl hl.1 rfl (lv_room (Nat.le_of_ble_eq_true rfl)) dX4_isRow_5 ⟨Nat.le_of_ble_eq_true rfl, Nat.le_of_ble_eq_true rfl⟩) hP hD hS hA [] [0] rfl rfl (by decide) (by decide) (fun r_5 u5 H locs hw_5 hP hD hS => ?_)
  have hP : va_P D vwCl [(pf, .inr (10, [.ref pf1, .ref pf2, .int 0]))] H := hP
  have hD : va_D A [(pf, .inr (10, [.ref pf1, .ref pf2, .int 0]))] := hD
  obtain rfl := hw_5
  have hP := hP.sub (ws' := []) [] rfl
  have hD := hD.sub (ws' := []) [] (by decide) rfl
  exact z_reti () hx hb hr rfl hlocks hK (rfl) hP hD hS (Nat.le_of_ble_eq_true rfl) (Nat.le_of_ble_eq_true rfl) dX4_isRow_8
set_option maxHeartbeats 4000000 in
set_option maxRecDepth 100000 in
theorem m_isVariable (l : Launch) (D : va_G) (cy : Nat → ClassId) (sa : Nat → Nat) (nm : Nat) (sz : Nat) (pg ns nh n1 n2 n3 n4 n5 n6 n7 : Nat) (p0 : Int32) : Met l yX2_isVariable (Cond.code yX2_isVariable cX2_isVariable 2 (some .boolean) :: ALL) ({ frames := 1, cells := 0, slots := 0, locals := 21 }) (zPc D vwCl (TY cy) (EX sa) [.ref nm, .int p0] [(nm, .inr (8, [.ref pg, .ref ns, .ref nh, .ref n1, .ref n2, .ref n3, .ref n4, .ref n5, .ref n6, .ref n7, .int 0]))] sz) (va_Qi (fun r _ => r = 0) (zB D vwCl (TY cy) (S := Unit) (fun u => []) (va_A [(nm, .inr (8, [.ref pg, .ref ns, .ref nh, .ref n1, .ref n2, .ref n3, .ref n4, .ref n5, .ref n6, .ref n7, .int 0]))] sz)) (va_A [(nm, .inr (8, [.ref pg, .ref ns, .ref nh, .ref n1, .ref n2, .ref n3, .ref n4, .ref n5, .ref n6, .ref n7, .int 0]))] sz)) 0 0 (va_A [(nm, .inr (8, [.ref pg, .ref ns, .ref nh, .ref n1, .ref n2, .ref n3, .ref n4, .ref n5, .ref n6, .ref n7, .int 0]))] sz) := by
  refine z_start (Qc := fun A => va_Qi (fun r _ => r = 0) (zB D vwCl (TY cy) (S := Unit) (fun u => []) A) A) PN_RX2 (Nat.le_of_ble_eq_true rfl) ?_
  intro p e s m below meth c A ls hx hb hr hml hts hown hlocks hin hA hP hK hD hS hEn hl
  have hown : s.vm.findClass RX2 = some m.cls := hown
  have hl : lv_has ls 2 [(0, .ref nm), (1, .int p0)] := hl
  have hS0 := hS
  refine lv_iload_n hx hb dX2_isVariable_0 rfl (lv_at hl 1 rfl) ?_
  refine lv_aload_n hx hb dX2_isVariable_1 rfl (lv_at hl 0 rfl) ?_
  refine va_get (D := D) (ci := 8) (v := .int 0) (C := RX2) (T := TX2) (N := 11) hx hb hts inX2 hown hK hP 0 rfl rfl 10 (by decide) (hts _ K214) (fun _ h9 => h9) rfl dX2_isVariable_2 ?_
  have hPc := hP.sub (ws' := []) [] rfl
  have hDc := hD.sub (ws' := []) [] (by decide) rfl
  have hFc := va_free (wc := []) hD hS hA [] rfl
  refine z_calliJ (wr := [(nm, .inr (8, [.ref pg, .ref ns, .ref nh, .ref n1, .ref n2, .ref n3, .ref n4, .ref n5, .ref n6, .ref n7, .int 0]))]) (va_runSN (As := [.int p0, .int 0]) (rest := []) ⟨hx, hb, hml, hown, hts⟩ (m_isBelow0 l D cy sa _ p0) ⟨va_cnB 2 hts GI_K588 rfl rfl rfl (hEn.1 _ K1106) (hts _ K77) HD_yX11_isBelow ⟨Nat.le_of_ble_eq_true rfl, Nat.le_of_ble_eq_true rfl⟩, hts _ K587, trivial⟩ ⟨z_blind EX_ok, z_pre EX_ok hPc hK hDc hEn hS hFc⟩ rfl rfl hl.1 rfl (lv_room (Nat.le_of_ble_eq_true rfl)) dX2_isVariable_5 ⟨Nat.le_of_ble_eq_true rfl, Nat.le_of_ble_eq_true rfl⟩) hP hD hS hA [] [0] rfl rfl (by decide) (by decide) (fun r_5 u5 H locs hw_5 hP hD hS => ?_)
  have hP : va_P D vwCl [(nm, .inr (8, [.ref pg, .ref ns, .ref nh, .ref n1, .ref n2, .ref n3, .ref n4, .ref n5, .ref n6, .ref n7, .int 0]))] H := hP
  have hD : va_D A [(nm, .inr (8, [.ref pg, .ref ns, .ref nh, .ref n1, .ref n2, .ref n3, .ref n4, .ref n5, .ref n6, .ref n7, .int 0]))] := hD
  obtain rfl := hw_5
  have hP := hP.sub (ws' := []) [] rfl
  have hD := hD.sub (ws' := []) [] (by decide) rfl
  exact z_reti () hx hb hr rfl hlocks hK (rfl) hP hD hS (Nat.le_of_ble_eq_true rfl) (Nat.le_of_ble_eq_true rfl) dX2_isVariable_8
set_option maxHeartbeats 4000000 in
set_option maxRecDepth 100000 in
theorem m_isBreakpoint (l : Launch) (D : va_G) (cy : Nat → ClassId) (sa : Nat → Nat) (bp : Nat) (sz : Nat) (pg nm b1 b2 b3 b4 b5 b6 b7 b8 b9 b10 : Nat) (p0 : Int32) : Met l yX0_isBreakpoint (Cond.code yX0_isBreakpoint cX0_isBreakpoint 2 (some .boolean) :: ALL) ({ frames := 1, cells := 0, slots := 0, locals := 21 }) (zPc D vwCl (TY cy) (EX sa) [.ref bp, .int p0] [(bp, .inr (6, [.ref pg, .ref nm, .ref b1, .ref b2, .ref b3, .ref b4, .ref b5, .ref b6, .ref b7, .ref b8, .ref b9, .ref b10, .int 0]))] sz) (va_Qi (fun r _ => r = 0) (zB D vwCl (TY cy) (S := Unit) (fun u => []) (va_A [(bp, .inr (6, [.ref pg, .ref nm, .ref b1, .ref b2, .ref b3, .ref b4, .ref b5, .ref b6, .ref b7, .ref b8, .ref b9, .ref b10, .int 0]))] sz)) (va_A [(bp, .inr (6, [.ref pg, .ref nm, .ref b1, .ref b2, .ref b3, .ref b4, .ref b5, .ref b6, .ref b7, .ref b8, .ref b9, .ref b10, .int 0]))] sz)) 0 0 (va_A [(bp, .inr (6, [.ref pg, .ref nm, .ref b1, .ref b2, .ref b3, .ref b4, .ref b5, .ref b6, .ref b7, .ref b8, .ref b9, .ref b10, .int 0]))] sz) := by
  refine z_start (Qc := fun A => va_Qi (fun r _ => r = 0) (zB D vwCl (TY cy) (S := Unit) (fun u => []) A) A) PN_RX0 (Nat.le_of_ble_eq_true rfl) ?_
  intro p e s m below meth c A ls hx hb hr hml hts hown hlocks hin hA hP hK hD hS hEn hl
  have hown : s.vm.findClass RX0 = some m.cls := hown
  have hl : lv_has ls 2 [(0, .ref bp), (1, .int p0)] := hl
  have hS0 := hS
  refine lv_iload_n hx hb dX0_isBreakpoint_0 rfl (lv_at hl 1 rfl) ?_
  refine lv_aload_n hx hb dX0_isBreakpoint_1 rfl (lv_at hl 0 rfl) ?_
  refine va_get (D := D) (ci := 6) (v := .int 0) (C := RX0) (T := TX0) (N := 13) hx hb hts inX0 hown hK hP 0 rfl rfl 12 (by decide) (hts _ K318) (fun _ h9 => h9) rfl dX0_isBreakpoint_2 ?_
  have hPc := hP.sub (ws' := []) [] rfl
  have hDc := hD.sub (ws' := []) [] (by decide) rfl
  have hFc := va_free (wc := []) hD hS hA [] rfl
  refine z_calliJ (wr := [(bp, .inr (6, [.ref pg, .ref nm, .ref b1, .ref b2, .ref b3, .ref b4, .ref b5, .ref b6, .ref b7, .ref b8, .ref b9, .ref b10, .int 0]))]) (va_runSN (As := [.int p0, .int 0]) (rest := []) ⟨hx, hb, hml, hown, hts⟩ (m_isBelow0 l D cy sa _ p0) ⟨va_cnB 2 hts GI_K588 rfl rfl rfl (hEn.1 _ K1726) (hts _ K77) HD_yX11_isBelow ⟨Nat.le_of_ble_eq_true rfl, Nat.le_of_ble_eq_true rfl⟩, hts _ K587, trivial⟩ ⟨z_blind EX_ok, z_pre EX_ok hPc hK hDc hEn hS hFc⟩ rfl rfl hl.1 rfl (lv_room (Nat.le_of_ble_eq_true rfl)) dX0_isBreakpoint_5 ⟨Nat.le_of_ble_eq_true rfl, Nat.le_of_ble_eq_true rfl⟩) hP hD hS hA [] [0] rfl rfl (by decide) (by decide) (fun r_5 u5 H locs hw_5 hP hD hS => ?_)
  have hP : va_P D vwCl [(bp, .inr (6, [.ref pg, .ref nm, .ref b1, .ref b2, .ref b3, .ref b4, .ref b5, .ref b6, .ref b7, .ref b8, .ref b9, .ref b10, .int 0]))] H := hP
  have hD : va_D A [(bp, .inr (6, [.ref pg, .ref nm, .ref b1, .ref b2, .ref b3, .ref b4, .ref b5, .ref b6, .ref b7, .ref b8, .ref b9, .ref b10, .int 0]))] := hD
  obtain rfl := hw_5
  have hP := hP.sub (ws' := []) [] rfl
  have hD := hD.sub (ws' := []) [] (by decide) rfl
  exact z_reti () hx hb hr rfl hlocks hK (rfl) hP hD hS (Nat.le_of_ble_eq_true rfl) (Nat.le_of_ble_eq_true rfl) dX0_isBreakpoint_8
set_option maxHeartbeats 4000000 in
set_option maxRecDepth 100000 in
theorem m_needPlace (l : Launch) (hfl : l.stackTraces = false) (D : va_G) (cy : Nat → ClassId) (sa : Nat → Nat) (x pg : Nat) (sz : Nat) (nm bp wt nw tr hi he uw vi sp sg pf pl pc1 pc2 pk1 pk2 pk3 pk4 pk5 : Nat) (p0 : Int32) : vx_Met l yX11_needPlace (Cond.code yX11_needPlace cX11_needPlace 2 none :: ALL) ({ frames := 7, cells := 1, slots := 6, locals := 82 }) (zPc D vwCl (TY cy) (EX sa) [.ref x, .int p0] [(x, .inr (17, [.ref pg, .ref nm, .ref bp, .ref wt, .ref nw, .ref tr, .ref hi, .ref he, .ref uw, .ref vi, .ref sp, .ref sg, .int 45, .int (-1)])), (pg, .inr (9, [.ref pf, .ref pl, .ref pc1, .ref pc2, .ref pk1, .ref pk2, .ref pk3, .ref pk4, .ref pk5, .int 0]))] sz) (va_Qv (fun _ => False) (zB D vwCl (TY cy) (S := Unit) (fun u => []) (va_A [(x, .inr (17, [.ref pg, .ref nm, .ref bp, .ref wt, .ref nw, .ref tr, .ref hi, .ref he, .ref uw, .ref vi, .ref sp, .ref sg, .int 45, .int (-1)])), (pg, .inr (9, [.ref pf, .ref pl, .ref pc1, .ref pc2, .ref pk1, .ref pk2, .ref pk3, .ref pk4, .ref pk5, .int 0]))] sz)) (va_A [(x, .inr (17, [.ref pg, .ref nm, .ref bp, .ref wt, .ref nw, .ref tr, .ref hi, .ref he, .ref uw, .ref vi, .ref sp, .ref sg, .int 45, .int (-1)])), (pg, .inr (9, [.ref pf, .ref pl, .ref pc1, .ref pc2, .ref pk1, .ref pk2, .ref pk3, .ref pk4, .ref pk5, .int 0]))] sz)) (zX D vwCl (TY cy) (True) "java/lang/IndexOutOfBoundsException" [] (va_A [(x, .inr (17, [.ref pg, .ref nm, .ref bp, .ref wt, .ref nw, .ref tr, .ref hi, .ref he, .ref uw, .ref vi, .ref sp, .ref sg, .int 45, .int (-1)])), (pg, .inr (9, [.ref pf, .ref pl, .ref pc1, .ref pc2, .ref pk1, .ref pk2, .ref pk3, .ref pk4, .ref pk5, .int 0]))] sz)) 1 6 (va_A [(x, .inr (17, [.ref pg, .ref nm, .ref bp, .ref wt, .ref nw, .ref tr, .ref hi, .ref he, .ref uw, .ref vi, .ref sp, .ref sg, .int 45, .int (-1)])), (pg, .inr (9, [.ref pf, .ref pl, .ref pc1, .ref pc2, .ref pk1, .ref pk2, .ref pk3, .ref pk4, .ref pk5, .int 0]))] sz) := by
  refine z_startX (Qc := fun A => va_Qv (fun _ => False) (zB D vwCl (TY cy) (S := Unit) (fun u => []) A) A) (XC := fun A => zX D vwCl (TY cy) (True) "java/lang/IndexOutOfBoundsException" [] A) PN_RX11 (Nat.le_of_ble_eq_true rfl) ?_
  intro p e s m below meth c A ls hx hb hr hml hts hown hlocks hT hA hP hK hD hS hEn hl
  have hown : s.vm.findClass RX11 = some m.cls := hown
  have hl : lv_has ls 2 [(0, .ref x), (1, .int p0)] := hl
  have hS0 := hS
  refine lv_aload_n hx hb dX11_needPlace_0 rfl (lv_at hl 0 rfl) ?_
  refine va_get (D := D) (ci := 17) (v := .ref pg) (C := RX11) (T := TX11) (N := 14) hx hb hts inX11 hown hK hP 0 rfl rfl 0 (by decide) (hts _ K521) (fun _ h9 => h9) rfl dX11_needPlace_1 ?_
  refine lv_iload_n hx hb dX11_needPlace_4 rfl (lv_at hl 1 rfl) ?_
  have hPc := hP.sub (ws' := [(pg, .inr (9, [.ref pf, .ref pl, .ref pc1, .ref pc2, .ref pk1, .ref pk2, .ref pk3, .ref pk4, .ref pk5, .int 0]))]) [1] rfl
  have hDc := hD.sub (ws' := [(pg, .inr (9, [.ref pf, .ref pl, .ref pc1, .ref pc2, .ref pk1, .ref pk2, .ref pk3, .ref pk4, .ref pk5, .int 0]))]) [1] (by decide) rfl
  have hFc := va_free (wc := [(pg, .inr (9, [.ref pf, .ref pl, .ref pc1, .ref pc2, .ref pk1, .ref pk2, .ref pk3, .ref pk4, .ref pk5, .int 0]))]) hD hS hA [1] rfl
  refine z_calliJ (wr := [(x, .inr (17, [.ref pg, .ref nm, .ref bp, .ref wt, .ref nw, .ref tr, .ref hi, .ref he, .ref uw, .ref vi, .ref sp, .ref sg, .int 45, .int (-1)]))]) (va_runV (As := [.int p0]) (rest := []) ⟨hx, hb, hml, hown, hts⟩ (m_hasPlace l D cy sa pg _ pf pl pc1 pc2 pk1 pk2 pk3 pk4 pk5 p0) (cwV 1 hts GV_RX11_534 rfl rfl rfl ⟨rfl, HD_yX3_hasPlace⟩ ⟨Nat.le_of_ble_eq_true rfl, Nat.le_of_ble_eq_true rfl⟩) ⟨z_blind EX_ok, va_recv hK hPc (ci := 9) (q0 := 0) rfl rfl, z_pre EX_ok hPc hK hDc hEn hS hFc⟩ rfl rfl hl.1 rfl (lv_room (Nat.le_of_ble_eq_true rfl)) dX11_needPlace_5 ⟨Nat.le_of_ble_eq_true rfl, Nat.le_of_ble_eq_true rfl⟩) hP hD hS hA [1] [0] rfl rfl (by decide) (by decide) (fun r_5 u5 H locs hw_5 hP hD hS => ?_)
  have hP : va_P D vwCl [(x, .inr (17, [.ref pg, .ref nm, .ref bp, .ref wt, .ref nw, .ref tr, .ref hi, .ref he, .ref uw, .ref vi, .ref sp, .ref sg, .int 45, .int (-1)]))] H := hP
  have hD : va_D A [(x, .inr (17, [.ref pg, .ref nm, .ref bp, .ref wt, .ref nw, .ref tr, .ref hi, .ref he, .ref uw, .ref vi, .ref sp, .ref sg, .int 45, .int (-1)]))] := hD
  obtain rfl := hw_5
  refine lv_if_ne (tgt := 22) hx hb dX11_needPlace_8 (by decide) (fun c_8 => absurd (by decide) c_8) (fun _ => ?_)
  exact TH_227W (text := "no such place") (k := 39) K890 K110 rfl hx hb hfl hown hts hEn hK hS (trivial) (hl.1.trans hml.symm) dX11_needPlace_11 dX11_needPlace_14 dX11_needPlace_15 dX11_needPlace_18 dX11_needPlace_21 hT hlocks (Nat.le_of_ble_eq_true rfl) (Nat.le_of_ble_eq_true rfl) (Nat.le_of_ble_eq_true rfl) (Nat.le_of_ble_eq_true rfl) (Nat.le_of_ble_eq_true rfl) (Nat.le_of_ble_eq_true rfl)
set_option maxHeartbeats 4000000 in
set_option maxRecDepth 100000 in
theorem m_needFunction (l : Launch) (hfl : l.stackTraces = false) (D : va_G) (cy : Nat → ClassId) (sa : Nat → Nat) (x pg pf : Nat) (sz : Nat) (nm bp wt nw tr hi he uw vi sp sg pl pc1 pc2 pk1 pk2 pk3 pk4 pk5 pf1 pf2 : Nat) (p0 : Int32) : vx_Met l yX11_needFunction (Cond.code yX11_needFunction cX11_needFunction 2 none :: ALL) ({ frames := 7, cells := 1, slots := 6, locals := 82 }) (zPc D vwCl (TY cy) (EX sa) [.ref x, .int p0] [(x, .inr (17, [.ref pg, .ref nm, .ref bp, .ref wt, .ref nw, .ref tr, .ref hi, .ref he, .ref uw, .ref vi, .ref sp, .ref sg, .int 45, .int (-1)])), (pg, .inr (9, [.ref pf, .ref pl, .ref pc1, .ref pc2, .ref pk1, .ref pk2, .ref pk3, .ref pk4, .ref pk5, .int 0])), (pf, .inr (10, [.ref pf1, .ref pf2, .int 0]))] sz) (va_Qv (fun _ => False) (zB D vwCl (TY cy) (S := Unit) (fun u => []) (va_A [(x, .inr (17, [.ref pg, .ref nm, .ref bp, .ref wt, .ref nw, .ref tr, .ref hi, .ref he, .ref uw, .ref vi, .ref sp, .ref sg, .int 45, .int (-1)])), (pg, .inr (9, [.ref pf, .ref pl, .ref pc1, .ref pc2, .ref pk1, .ref pk2, .ref pk3, .ref pk4, .ref pk5, .int 0])), (pf, .inr (10, [.ref pf1, .ref pf2, .int 0]))] sz)) (va_A [(x, .inr (17, [.ref pg, .ref nm, .ref bp, .ref wt, .ref nw, .ref tr, .ref hi, .ref he, .ref uw, .ref vi, .ref sp, .ref sg, .int 45, .int (-1)])), (pg, .inr (9, [.ref pf, .ref pl, .ref pc1, .ref pc2, .ref pk1, .ref pk2, .ref pk3, .ref pk4, .ref pk5, .int 0])), (pf, .inr (10, [.ref pf1, .ref pf2, .int 0]))] sz)) (zX D vwCl (TY cy) (True) "java/lang/IndexOutOfBoundsException" [] (va_A [(x, .inr (17, [.ref pg, .ref nm, .ref bp, .ref wt, .ref nw, .ref tr, .ref hi, .ref he, .ref uw, .ref vi, .ref sp, .ref sg, .int 45, .int (-1)])), (pg, .inr (9, [.ref pf, .ref pl, .ref pc1, .ref pc2, .ref pk1, .ref pk2, .ref pk3, .ref pk4, .ref pk5, .int 0])), (pf, .inr (10, [.ref pf1, .ref pf2, .int 0]))] sz)) 1 6 (va_A [(x, .inr (17, [.ref pg, .ref nm, .ref bp, .ref wt, .ref nw, .ref tr, .ref hi, .ref he, .ref uw, .ref vi, .ref sp, .ref sg, .int 45, .int (-1)])), (pg, .inr (9, [.ref pf, .ref pl, .ref pc1, .ref pc2, .ref pk1, .ref pk2, .ref pk3, .ref pk4, .ref pk5, .int 0])), (pf, .inr (10, [.ref pf1, .ref pf2, .int 0]))] sz) := by
  refine z_startX (Qc := fun A => va_Qv (fun _ => False) (zB D vwCl (TY cy) (S := Unit) (fun u => []) A) A) (XC := fun A => zX D vwCl (TY cy) (True) "java/lang/IndexOutOfBoundsException" [] A) PN_RX11 (Nat.le_of_ble_eq_true rfl) ?_
  intro p e s m below meth c A ls hx hb hr hml hts hown hlocks hT hA hP hK hD hS hEn hl
  have hown : s.vm.findClass RX11 = some m.cls := hown
  have hl : lv_has ls 2 [(0, .ref x), (1, .int p0)] := hl
  have hS0 := hS
  refine lv_aload_n hx hb dX11_needFunction_0 rfl (lv_at hl 0 rfl) ?_
  refine va_get (D := D) (ci := 17) (v := .ref pg) (C := RX11) (T := TX11) (N := 14) hx hb hts inX11 hown hK hP 0 rfl rfl 0 (by decide) (hts _ K521) (fun _ h9 => h9) rfl dX11_needFunction_1 ?_
  refine va_getN (D := D) (ci := 9) (v := .ref pf) (C := RX3) (T := TX3) (N := 10) hx hb hts inX3 hown hK hP 1 rfl rfl 0 (by decide) (va_Nw.use rfl (hEn.1 _ K160)) (fun _ h9 => h9) rfl dX11_needFunction_4 ?_
  refine lv_iload_n hx hb dX11_needFunction_7 rfl (lv_at hl 1 rfl) ?_
  have hPc := hP.sub (ws' := [(pf, .inr (10, [.ref pf1, .ref pf2, .int 0]))]) [2] rfl
  have hDc := hD.sub (ws' := [(pf, .inr (10, [.ref pf1, .ref pf2, .int 0]))]) [2] (by decide) rfl
  have hFc := va_free (wc := [(pf, .inr (10, [.ref pf1, .ref pf2, .int 0]))]) hD hS hA [2] rfl
  refine z_calliJ (wr := [(x, .inr (17, [.ref pg, .ref nm, .ref bp, .ref wt, .ref nw, .ref tr, .ref hi, .ref he, .ref uw, .ref vi, .ref sp, .ref sg, .int 45, .int (-1)])), (pg, .inr (9, [.ref pf, .ref pl, .ref pc1, .ref pc2, .ref pk1, .ref pk2, .ref pk3, .ref pk4, .ref pk5, .int 0]))]) (va_runV (As := [.int p0]) (rest := []) ⟨hx, hb, hml, hown, hts⟩ (m_isRow l D cy sa pf _ pf1 pf2 p0) (cwV 1 hts GV_RX11_219 rfl rfl rfl ⟨rfl, HD_yX4_isRow⟩ ⟨Nat.le_of_ble_eq_true rfl, Nat.le_of_ble_eq_true rfl⟩) ⟨z_blind EX_ok, va_recv hK hPc (ci := 10) (q0 := 0) rfl rfl, z_pre EX_ok hPc hK hDc hEn hS hFc⟩ rfl rfl hl.1 rfl (lv_room (Nat.le_of_ble_eq_true rfl)) dX11_needFunction_8 ⟨Nat.le_of_ble_eq_true rfl, Nat.le_of_ble_eq_true rfl⟩) hP hD hS hA [2] [0, 1] rfl rfl (by decide) (by decide) (fun r_8 u8 H locs hw_8 hP hD hS => ?_)
  have hP : va_P D vwCl [(x, .inr (17, [.ref pg, .ref nm, .ref bp, .ref wt, .ref nw, .ref tr, .ref hi, .ref he, .ref uw, .ref vi, .ref sp, .ref sg, .int 45, .int (-1)])), (pg, .inr (9, [.ref pf, .ref pl, .ref pc1, .ref pc2, .ref pk1, .ref pk2, .ref pk3, .ref pk4, .ref pk5, .int 0]))] H := hP
  have hD : va_D A [(x, .inr (17, [.ref pg, .ref nm, .ref bp, .ref wt, .ref nw, .ref tr, .ref hi, .ref he, .ref uw, .ref vi, .ref sp, .ref sg, .int 45, .int (-1)])), (pg, .inr (9, [.ref pf, .ref pl, .ref pc1, .ref pc2, .ref pk1, .ref pk2, .ref pk3, .ref pk4, .ref pk5, .int 0]))] := hD
  obtain rfl := hw_8
  refine lv_if_ne (tgt := 25) hx hb dX11_needFunction_11 (by decide) (fun c_11 => absurd (by decide) c_11) (fun _ => ?_)
  exact TH_227W (text := "no such function") (k := 40) K890 K110 rfl hx hb hfl hown hts hEn hK hS (trivial) (hl.1.trans hml.symm) dX11_needFunction_14 dX11_needFunction_17 dX11_needFunction_18 dX11_needFunction_21 dX11_needFunction_24 hT hlocks (Nat.le_of_ble_eq_true rfl) (Nat.le_of_ble_eq_true rfl) (Nat.le_of_ble_eq_true rfl) (Nat.le_of_ble_eq_true rfl) (Nat.le_of_ble_eq_true rfl) (Nat.le_of_ble_eq_true rfl)
set_option maxHeartbeats 4000000 in
set_option maxRecDepth 100000 in
theorem m_needThread (l : Launch) (hfl : l.stackTraces = false) (D : va_G) (cy : Nat → ClassId) (sa : Nat → Nat) (x nw : Nat) (sz : Nat) (pg nm bp wt tr hi he uw vi sp sg nwc nwt : Nat) (p0 : Int32) : vx_Met l yX11_needThread (Cond.code yX11_needThread cX11_needThread 2 none :: ALL) ({ frames := 7, cells := 1, slots := 6, locals := 82 }) (zPc D vwCl (TY cy) (EX sa) [.ref x, .int p0] [(x, .inr (17, [.ref pg, .ref nm, .ref bp, .ref wt, .ref nw, .ref tr, .ref hi, .ref he, .ref uw, .ref vi, .ref sp, .ref sg, .int 45, .int (-1)])), (nw, .inr (12, [.ref nwc, .ref nwt, .int 0, .int (-1), .int 0]))] sz) (va_Qv (fun _ => False) (zB D vwCl (TY cy) (S := Unit) (fun u => []) (va_A [(x, .inr (17, [.ref pg, .ref nm, .ref bp, .ref wt, .ref nw, .ref tr, .ref hi, .ref he, .ref uw, .ref vi, .ref sp, .ref sg, .int 45, .int (-1)])), (nw, .inr (12, [.ref nwc, .ref nwt, .int 0, .int (-1), .int 0]))] sz)) (va_A [(x, .inr (17, [.ref pg, .ref nm, .ref bp, .ref wt, .ref nw, .ref tr, .ref hi, .ref he, .ref uw, .ref vi, .ref sp, .ref sg, .int 45, .int (-1)])), (nw, .inr (12, [.ref nwc, .ref nwt, .int 0, .int (-1), .int 0]))] sz)) (zX D vwCl (TY cy) (True) "java/lang/IndexOutOfBoundsException" [] (va_A [(x, .inr (17, [.ref pg, .ref nm, .ref bp, .ref wt, .ref nw, .ref tr, .ref hi, .ref he, .ref uw, .ref vi, .ref sp, .ref sg, .int 45, .int (-1)])), (nw, .inr (12, [.ref nwc, .ref nwt, .int 0, .int (-1), .int 0]))] sz)) 1 6 (va_A [(x, .inr (17, [.ref pg, .ref nm, .ref bp, .ref wt, .ref nw, .ref tr, .ref hi, .ref he, .ref uw, .ref vi, .ref sp, .ref sg, .int 45, .int (-1)])), (nw, .inr (12, [.ref nwc, .ref nwt, .int 0, .int (-1), .int 0]))] sz) := by
  refine z_startX (Qc := fun A => va_Qv (fun _ => False) (zB D vwCl (TY cy) (S := Unit) (fun u => []) A) A) (XC := fun A => zX D vwCl (TY cy) (True) "java/lang/IndexOutOfBoundsException" [] A) PN_RX11 (Nat.le_of_ble_eq_true rfl) ?_
  intro p e s m below meth c A ls hx hb hr hml hts hown hlocks hT hA hP hK hD hS hEn hl
  have hown : s.vm.findClass RX11 = some m.cls := hown
  have hl : lv_has ls 2 [(0, .ref x), (1, .int p0)] := hl
  have hS0 := hS
  refine lv_iload_n hx hb dX11_needThread_0 rfl (lv_at hl 1 rfl) ?_
  refine lv_aload_n hx hb dX11_needThread_1 rfl (lv_at hl 0 rfl) ?_
  refine va_get (D := D) (ci := 17) (v := .ref nw) (C := RX11) (T := TX11) (N := 14) hx hb hts inX11 hown hK hP 0 rfl rfl 4 (by decide) (hts _ K525) (fun _ h9 => h9) rfl dX11_needThread_2 ?_
  refine va_getN (D := D) (ci := 12) (v := .int 0) (C := RX6) (T := TX6) (N := 5) hx hb hts inX6 hown hK hP 1 rfl rfl 2 (by decide) (va_Nw.use rfl (hEn.1 _ K423)) (fun _ h9 => h9) rfl dX11_needThread_5 ?_
  have hPc := hP.sub (ws' := []) [] rfl
  have hDc := hD.sub (ws' := []) [] (by decide) rfl
  have hFc := va_free (wc := []) hD hS hA [] rfl
  refine z_calliJ (wr := [(x, .inr (17, [.ref pg, .ref nm, .ref bp, .ref wt, .ref nw, .ref tr, .ref hi, .ref he, .ref uw, .ref vi, .ref sp, .ref sg, .int 45, .int (-1)])), (nw, .inr (12, [.ref nwc, .ref nwt, .int 0, .int (-1), .int 0]))]) (va_runS (As := [.int p0, .int 0]) (rest := []) ⟨hx, hb, hml, hown, hts⟩ (m_isBelow0 l D cy sa _ p0) (va_cwS 2 hts GS_RX11_168 rfl rfl rfl HD_yX11_isBelow ⟨Nat.le_of_ble_eq_true rfl, Nat.le_of_ble_eq_true rfl⟩) ⟨z_blind EX_ok, z_pre EX_ok hPc hK hDc hEn hS hFc⟩ rfl rfl hl.1 rfl (lv_room (Nat.le_of_ble_eq_true rfl)) dX11_needThread_8 ⟨Nat.le_of_ble_eq_true rfl, Nat.le_of_ble_eq_true rfl⟩) hP hD hS hA [] [0, 1] rfl rfl (by decide) (by decide) (fun r_8 u8 H locs hw_8 hP hD hS => ?_)
  have hP : va_P D vwCl [(x, .inr (17, [.ref pg, .ref nm, .ref bp, .ref wt, .ref nw, .ref tr, .ref hi, .ref he, .ref uw, .ref vi, .ref sp, .ref sg, .int 45, .int (-1)])), (nw, .inr (12, [.ref nwc, .ref nwt, .int 0, .int (-1), .int 0]))] H := hP
  have hD : va_D A [(x, .inr (17, [.ref pg, .ref nm, .ref bp, .ref wt, .ref nw, .ref tr, .ref hi, .ref he, .ref uw, .ref vi, .ref sp, .ref sg, .int 45, .int (-1)])), (nw, .inr (12, [.ref nwc, .ref nwt, .int 0, .int (-1), .int 0]))] := hD
  obtain rfl := hw_8
  refine lv_if_ne (tgt := 25) hx hb dX11_needThread_11 (by decide) (fun c_11 => absurd (by decide) c_11) (fun _ => ?_)
  exact TH_227W (text := "no such thread") (k := 41) K890 K110 rfl hx hb hfl hown hts hEn hK hS (trivial) (hl.1.trans hml.symm) dX11_needThread_14 dX11_needThread_17 dX11_needThread_18 dX11_needThread_21 dX11_needThread_24 hT hlocks (Nat.le_of_ble_eq_true rfl) (Nat.le_of_ble_eq_true rfl) (Nat.le_of_ble_eq_true rfl) (Nat.le_of_ble_eq_true rfl) (Nat.le_of_ble_eq_true rfl) (Nat.le_of_ble_eq_true rfl)
set_option maxHeartbeats 4000000 in
set_option maxRecDepth 100000 in
theorem m_needBreakpoint (l : Launch) (hfl : l.stackTraces = false) (D : va_G) (cy : Nat → ClassId) (sa : Nat → Nat) (x bp : Nat) (sz : Nat) (pg nm wt nw tr hi he uw vi sp sg b1 b2 b3 b4 b5 b6 b7 b8 b9 b10 : Nat) (p0 : Int32) : vx_Met l yX11_needBreakpoint (Cond.code yX11_needBreakpoint cX11_needBreakpoint 2 none :: ALL) ({ frames := 7, cells := 1, slots := 6, locals := 82 }) (zPc D vwCl (TY cy) (EX sa) [.ref x, .int p0] [(x, .inr (17, [.ref pg, .ref nm, .ref bp, .ref wt, .ref nw, .ref tr, .ref hi, .ref he, .ref uw, .ref vi, .ref sp, .ref sg, .int 45, .int (-1)])), (bp, .inr (6, [.ref pg, .ref nm, .ref b1, .ref b2, .ref b3, .ref b4, .ref b5, .ref b6, .ref b7, .ref b8, .ref b9, .ref b10, .int 0]))] sz) (va_Qv (fun _ => False) (zB D vwCl (TY cy) (S := Unit) (fun u => []) (va_A [(x, .inr (17, [.ref pg, .ref nm, .ref bp, .ref wt, .ref nw, .ref tr, .ref hi, .ref he, .ref uw, .ref vi, .ref sp, .ref sg, .int 45, .int (-1)])), (bp, .inr (6, [.ref pg, .ref nm, .ref b1, .ref b2, .ref b3, .ref b4, .ref b5, .ref b6, .ref b7, .ref b8, .ref b9, .ref b10, .int 0]))] sz)) (va_A [(x, .inr (17, [.ref pg, .ref nm, .ref bp, .ref wt, .ref nw, .ref tr, .ref hi, .ref he, .ref uw, .ref vi, .ref sp, .ref sg, .int 45, .int (-1)])), (bp, .inr (6, [.ref pg, .ref nm, .ref b1, .ref b2, .ref b3, .ref b4, .ref b5, .ref b6, .ref b7, .ref b8, .ref b9, .ref b10, .int 0]))] sz)) (zX D vwCl (TY cy) (True) "java/lang/IndexOutOfBoundsException" [] (va_A [(x, .inr (17, [.ref pg, .ref nm, .ref bp, .ref wt, .ref nw, .ref tr, .ref hi, .ref he, .ref uw, .ref vi, .ref sp, .ref sg, .int 45, .int (-1)])), (bp, .inr (6, [.ref pg, .ref nm, .ref b1, .ref b2, .ref b3, .ref b4, .ref b5, .ref b6, .ref b7, .ref b8, .ref b9, .ref b10, .int 0]))] sz)) 1 6 (va_A [(x, .inr (17, [.ref pg, .ref nm, .ref bp, .ref wt, .ref nw, .ref tr, .ref hi, .ref he, .ref uw, .ref vi, .ref sp, .ref sg, .int 45, .int (-1)])), (bp, .inr (6, [.ref pg, .ref nm, .ref b1, .ref b2, .ref b3, .ref b4, .ref b5, .ref b6, .ref b7, .ref b8, .ref b9, .ref b10, .int 0]))] sz) := by
  refine z_startX (Qc := fun A => va_Qv (fun _ => False) (zB D vwCl (TY cy) (S := Unit) (fun u => []) A) A) (XC := fun A => zX D vwCl (TY cy) (True) "java/lang/IndexOutOfBoundsException" [] A) PN_RX11 (Nat.le_of_ble_eq_true rfl) ?_
  intro p e s m below meth c A ls hx hb hr hml hts hown hlocks hT hA hP hK hD hS hEn hl
  have hown : s.vm.findClass RX11 = some m.cls := hown
  have hl : lv_has ls 2 [(0, .ref x), (1, .int p0)] := hl
  have hS0 := hS
  refine lv_aload_n hx hb dX11_needBreakpoint_0 rfl (lv_at hl 0 rfl) ?_
  refine va_get (D := D) (ci := 17) (v := .ref bp) (C := RX11) (T := TX11) (N := 14) hx hb hts inX11 hown hK hP 0 rfl rfl 2 (by decide) (hts _ K523) (fun _ h9 => h9) rfl dX11_needBreakpoint_1 ?_
  refine lv_iload_n hx hb dX11_needBreakpoint_4 rfl (lv_at hl 1 rfl) ?_
  have hPc := hP.sub (ws' := [(bp, .inr (6, [.ref pg, .ref nm, .ref b1, .ref b2, .ref b3, .ref b4, .ref b5, .ref b6, .ref b7, .ref b8, .ref b9, .ref b10, .int 0]))]) [1] rfl
  have hDc := hD.sub (ws' := [(bp, .inr (6, [.ref pg, .ref nm, .ref b1, .ref b2, .ref b3, .ref b4, .ref b5, .ref b6, .ref b7, .ref b8, .ref b9, .ref b10, .int 0]))]) [1] (by decide) rfl
  have hFc := va_free (wc := [(bp, .inr (6, [.ref pg, .ref nm, .ref b1, .ref b2, .ref b3, .ref b4, .ref b5, .ref b6, .ref b7, .ref b8, .ref b9, .ref b10, .int 0]))]) hD hS hA [1] rfl
  refine z_calliJ (wr := [(x, .inr (17, [.ref pg, .ref nm, .ref bp, .ref wt, .ref nw, .ref tr, .ref hi, .ref he, .ref uw, .ref vi, .ref sp, .ref sg, .int 45, .int (-1)]))]) (va_runV (As := [.int p0]) (rest := []) ⟨hx, hb, hml, hown, hts⟩ (m_isBreakpoint l D cy sa bp _ pg nm b1 b2 b3 b4 b5 b6 b7 b8 b9 b10 p0) (cwV 1 hts GV_RX11_543 rfl rfl rfl ⟨rfl, HD_yX0_isBreakpoint⟩ ⟨Nat.le_of_ble_eq_true rfl, Nat.le_of_ble_eq_true rfl⟩) ⟨z_blind EX_ok, va_recv hK hPc (ci := 6) (q0 := 0) rfl rfl, z_pre EX_ok hPc hK hDc hEn hS hFc⟩ rfl rfl hl.1 rfl (lv_room (Nat.le_of_ble_eq_true rfl)) dX11_needBreakpoint_5 ⟨Nat.le_of_ble_eq_true rfl, Nat.le_of_ble_eq_true rfl⟩) hP hD hS hA [1] [0] rfl rfl (by decide) (by decide) (fun r_5 u5 H locs hw_5 hP hD hS => ?_)
  have hP : va_P D vwCl [(x, .inr (17, [.ref pg, .ref nm, .ref bp, .ref wt, .ref nw, .ref tr, .ref hi, .ref he, .ref uw, .ref vi, .ref sp, .ref sg, .int 45, .int (-1)]))] H := hP
  have hD : va_D A [(x, .inr (17, [.ref pg, .ref nm, .ref bp, .ref wt, .ref nw, .ref tr, .ref hi, .ref he, .ref uw, .ref vi, .ref sp, .ref sg, .int 45, .int (-1)]))] := hD
  obtain rfl := hw_5
  refine lv_if_ne (tgt := 22) hx hb dX11_needBreakpoint_8 (by decide) (fun c_8 => absurd (by decide) c_8) (fun _ => ?_)
  exact TH_227W (text := "no such breakpoint") (k := 42) K890 K110 rfl hx hb hfl hown hts hEn hK hS (trivial) (hl.1.trans hml.symm) dX11_needBreakpoint_11 dX11_needBreakpoint_14 dX11_needBreakpoint_15 dX11_needBreakpoint_18 dX11_needBreakpoint_21 hT hlocks (Nat.le_of_ble_eq_true rfl) (Nat.le_of_ble_eq_true rfl) (Nat.le_of_ble_eq_true rfl) (Nat.le_of_ble_eq_true rfl) (Nat.le_of_ble_eq_true rfl) (Nat.le_of_ble_eq_true rfl)
set_option maxHeartbeats 4000000 in
set_option maxRecDepth 100000 in
theorem m_needFrame (l : Launch) (hfl : l.stackTraces = false) (D : va_G) (cy : Nat → ClassId) (sa : Nat → Nat) (x nw : Nat) (sz : Nat) (pg nm bp wt tr hi he uw vi sp sg nwc nwt : Nat) (p0 p1 : Int32) : vx_Met l yX11_needFrame (Cond.code yX11_needFrame cX11_needFrame 3 none :: ALL) ({ frames := 8, cells := 1, slots := 6, locals := 103 }) (zPc D vwCl (TY cy) (EX sa) [.ref x, .int p0, .int p1] [(x, .inr (17, [.ref pg, .ref nm, .ref bp, .ref wt, .ref nw, .ref tr, .ref hi, .ref he, .ref uw, .ref vi, .ref sp, .ref sg, .int 45, .int (-1)])), (nw, .inr (12, [.ref nwc, .ref nwt, .int 0, .int (-1), .int 0]))] sz) (va_Qv (fun _ => False) (zB D vwCl (TY cy) (S := Unit) (fun u => []) (va_A [(x, .inr (17, [.ref pg, .ref nm, .ref bp, .ref wt, .ref nw, .ref tr, .ref hi, .ref he, .ref uw, .ref vi, .ref sp, .ref sg, .int 45, .int (-1)])), (nw, .inr (12, [.ref nwc, .ref nwt, .int 0, .int (-1), .int 0]))] sz)) (va_A [(x, .inr (17, [.ref pg, .ref nm, .ref bp, .ref wt, .ref nw, .ref tr, .ref hi, .ref he, .ref uw, .ref vi, .ref sp, .ref sg, .int 45, .int (-1)])), (nw, .inr (12, [.ref nwc, .ref nwt, .int 0, .int (-1), .int 0]))] sz)) (zX D vwCl (TY cy) (True) "java/lang/IndexOutOfBoundsException" [] (va_A [(x, .inr (17, [.ref pg, .ref nm, .ref bp, .ref wt, .ref nw, .ref tr, .ref hi, .ref he, .ref uw, .ref vi, .ref sp, .ref sg, .int 45, .int (-1)])), (nw, .inr (12, [.ref nwc, .ref nwt, .int 0, .int (-1), .int 0]))] sz)) 1 6 (va_A [(x, .inr (17, [.ref pg, .ref nm, .ref bp, .ref wt, .ref nw, .ref tr, .ref hi, .ref he, .ref uw, .ref vi, .ref sp, .ref sg, .int 45, .int (-1)])), (nw, .inr (12, [.ref nwc, .ref nwt, .int 0, .int (-1), .int 0]))] sz) := by
  refine z_startX (Qc := fun A => va_Qv (fun _ => False) (zB D vwCl (TY cy) (S := Unit) (fun u => []) A) A) (XC := fun A => zX D vwCl (TY cy) (True) "java/lang/IndexOutOfBoundsException" [] A) PN_RX11 (Nat.le_of_ble_eq_true rfl) ?_
  intro p e s m below meth c A ls hx hb hr hml hts hown hlocks hT hA hP hK hD hS hEn hl
  have hown : s.vm.findClass RX11 = some m.cls := hown
  have hl : lv_has ls 3 [(0, .ref x), (1, .int p0), (2, .int p1)] := hl
  have hS0 := hS
  refine lv_aload_n hx hb dX11_needFrame_0 rfl (lv_at hl 0 rfl) ?_
  refine lv_iload_n hx hb dX11_needFrame_1 rfl (lv_at hl 1 rfl) ?_
  refine z_xcallv (vx_runV (As := [.int p0]) (rest := []) ⟨hx, hb, hml, hown, hts⟩ (m_needThread l hfl D cy sa x nw _ pg nm bp wt tr hi he uw vi sp sg nwc nwt p0) (cwV 1 hts GV_RX11_272 rfl rfl rfl ⟨rfl, HD_yX11_needThread⟩ ⟨Nat.le_of_ble_eq_true rfl, Nat.le_of_ble_eq_true rfl⟩) ⟨z_blind EX_ok, va_recv hK hP (ci := 17) (q0 := 0) rfl rfl, z_pre EX_ok hP hK hD hEn hS (z_free hD hS hA)⟩ rfl rfl hl.1 rfl (lv_room (Nat.le_of_ble_eq_true rfl)) dX11_needFrame_2 ⟨Nat.le_of_ble_eq_true rfl, Nat.le_of_ble_eq_true rfl⟩) hD hS hA (fun ce q9 H locs hpx hP hD hS h1 h2 h3 => ?_) (fun u2 H locs hw_2 hP hD hS => hw_2.elim)
  exact z_out hT hlocks hK (trivial) zP0 zD0 hS h1 h2 h3 (Nat.le_of_ble_eq_true rfl) (Nat.le_of_ble_eq_true rfl)
set_option maxHeartbeats 4000000 in
set_option maxRecDepth 100000 in
theorem m_needWord (l : Launch) (hfl : l.stackTraces = false) (D : va_G) (cy : Nat → ClassId) (sa : Nat → Nat) (x nw : Nat) (sz : Nat) (pg nm bp wt tr hi he uw vi sp sg nwc nwt : Nat) (p0 p1 p2 p3 : Int32) : vx_Met l yX11_needWord (Cond.code yX11_needWord cX11_needWord 6 none :: ALL) ({ frames := 9, cells := 1, slots := 6, locals := 125 }) (zPc D vwCl (TY cy) (EX sa) [.ref x, .int p0, .int p1, .int p2, .int p3] [(x, .inr (17, [.ref pg, .ref nm, .ref bp, .ref wt, .ref nw, .ref tr, .ref hi, .ref he, .ref uw, .ref vi, .ref sp, .ref sg, .int 45, .int (-1)])), (nw, .inr (12, [.ref nwc, .ref nwt, .int 0, .int (-1), .int 0]))] sz) (va_Qv (fun _ => False) (zB D vwCl (TY cy) (S := Unit) (fun u => []) (va_A [(x, .inr (17, [.ref pg, .ref nm, .ref bp, .ref wt, .ref nw, .ref tr, .ref hi, .ref he, .ref uw, .ref vi, .ref sp, .ref sg, .int 45, .int (-1)])), (nw, .inr (12, [.ref nwc, .ref nwt, .int 0, .int (-1), .int 0]))] sz)) (va_A [(x, .inr (17, [.ref pg, .ref nm, .ref bp, .ref wt, .ref nw, .ref tr, .ref hi, .ref he, .ref uw, .ref vi, .ref sp, .ref sg, .int 45, .int (-1)])), (nw, .inr (12, [.ref nwc, .ref nwt, .int 0, .int (-1), .int 0]))] sz)) (zX D vwCl (TY cy) (True) "java/lang/IndexOutOfBoundsException" [] (va_A [(x, .inr (17, [.ref pg, .ref nm, .ref bp, .ref wt, .ref nw, .ref tr, .ref hi, .ref he, .ref uw, .ref vi, .ref sp, .ref sg, .int 45, .int (-1)])), (nw, .inr (12, [.ref nwc, .ref nwt, .int 0, .int (-1), .int 0]))] sz)) 1 6 (va_A [(x, .inr (17, [.ref pg, .ref nm, .ref bp, .ref wt, .ref nw, .ref tr, .ref hi, .ref he, .ref uw, .ref vi, .ref sp, .ref sg, .int 45, .int (-1)])), (nw, .inr (12, [.ref nwc, .ref nwt, .int 0, .int (-1), .int 0]))] sz) := by
  refine z_startX (Qc := fun A => va_Qv (fun _ => False) (zB D vwCl (TY cy) (S := Unit) (fun u => []) A) A) (XC := fun A => zX D vwCl (TY cy) (True) "java/lang/IndexOutOfBoundsException" [] A) PN_RX11 (Nat.le_of_ble_eq_true rfl) ?_
  intro p e s m below meth c A ls hx hb hr hml hts hown hlocks hT hA hP hK hD hS hEn hl
  have hown : s.vm.findClass RX11 = some m.cls := hown
  have hl : lv_has ls 6 [(0, .ref x), (1, .int p0), (2, .int p1), (3, .int p2), (4, .int p3)] := hl
  have hS0 := hS
  refine lv_aload_n hx hb dX11_needWord_0 rfl (lv_at hl 0 rfl) ?_
  refine lv_iload_n hx hb dX11_needWord_1 rfl (lv_at hl 1 rfl) ?_
  refine lv_iload_n hx hb dX11_needWord_2 rfl (lv_at hl 2 rfl) ?_
  refine z_xcallv (vx_runV (As := [.int p0, .int p1]) (rest := []) ⟨hx, hb, hml, hown, hts⟩ (m_needFrame l hfl D cy sa x nw _ pg nm bp wt tr hi he uw vi sp sg nwc nwt p0 p1) (cwV 2 hts GV_RX11_317 rfl rfl rfl ⟨rfl, HD_yX11_needFrame⟩ ⟨Nat.le_of_ble_eq_true rfl, Nat.le_of_ble_eq_true rfl⟩) ⟨z_blind EX_ok, va_recv hK hP (ci := 17) (q0 := 0) rfl rfl, z_pre EX_ok hP hK hD hEn hS (z_free hD hS hA)⟩ rfl rfl hl.1 rfl (lv_room (Nat.le_of_ble_eq_true rfl)) dX11_needWord_3 ⟨Nat.le_of_ble_eq_true rfl, Nat.le_of_ble_eq_true rfl⟩) hD hS hA (fun ce q9 H locs hpx hP hD hS h1 h2 h3 => ?_) (fun u3 H locs hw_3 hP hD hS => hw_3.elim)
  exact z_out hT hlocks hK (trivial) zP0 zD0 hS h1 h2 h3 (Nat.le_of_ble_eq_true rfl) (Nat.le_of_ble_eq_true rfl)
