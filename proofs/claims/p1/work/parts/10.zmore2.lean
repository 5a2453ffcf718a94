set_option maxHeartbeats 4000000 in
set_option maxRecDepth 100000 in
theorem m_isSecond (l : Launch) (D : va_G) (cy : Nat → ClassId) (sa : Nat → Nat) (sz : Nat) (p0 p1 : Int32) : Met l yX3_isSecond (Cond.code yX3_isSecond cX3_isSecond 2 (some .boolean) :: ALL) ({ frames := 1, cells := 0, slots := 0, locals := 21 }) (zPc D vwCl (TY cy) (EX sa) [.int p0, .int p1] [] sz) (va_Qi (fun r _ => r = okS p0 p1) (zB D vwCl (TY cy) (S := Unit) (fun u => []) (va_A [] sz)) (va_A [] sz)) 0 0 (va_A [] sz) := by
  refine z_start (Qc := fun A => va_Qi (fun r _ => r = okS p0 p1) (zB D vwCl (TY cy) (S := Unit) (fun u => []) A) A) PN_RX3 (Nat.le_of_ble_eq_true rfl) ?_
  intro p e s m below meth c A ls hx hb hr hml hts hown hlocks hin hA hP hK hD hS hEn hl
  have hown : s.vm.findClass RX3 = some m.cls := hown
  have hl : lv_has ls 2 [(0, .int p0), (1, .int p1)] := hl
  have hS0 := hS
  refine lv_iload_n hx hb dX3_isSecond_0 rfl (lv_at hl 0 rfl) ?_
  rcases lsw p0 with hsw | rfl | rfl | rfl | rfl | rfl | rfl | rfl | rfl | rfl | rfl
  · refine lv_lookup (off := 119) (tgt := 120) hx hb dX3_isSecond_1 (by decide) (by obtain ⟨a0, a1, a2, a3, a4, a5, a6, a7, a8, a9⟩ := hsw; simp [Op.lookupswitch.offset, *]) (by decide) ?_
    refine lv_iconst (v := 0) hx hb dX3_isSecond_120 (by decide) ?_
    exact z_reti () hx hb hr rfl hlocks hK ((okS_d hsw).symm) hP hD hS (Nat.le_of_ble_eq_true rfl) (Nat.le_of_ble_eq_true rfl) dX3_isSecond_121
  · refine lv_lookup (off := 93) (tgt := 94) hx hb dX3_isSecond_1 (by decide) (by decide) (by decide) ?_
    refine lv_iload_n hx hb dX3_isSecond_94 rfl (lv_at hl 1 rfl) ?_
    refine lv_iconst (v := 4) hx hb dX3_isSecond_95 (by decide) ?_
    refine z_calli (va_runSN (As := [.int p1, .int 4]) (rest := []) ⟨hx, hb, hml, hown, hts⟩ (m_isBelow l D cy sa _ p1 4) ⟨va_cnB 2 hts GI_K588 rfl rfl rfl (hEn.1 _ K638) (hts _ K77) HD_yX11_isBelow ⟨Nat.le_of_ble_eq_true rfl, Nat.le_of_ble_eq_true rfl⟩, hts _ K587, trivial⟩ ⟨z_blind EX_ok, z_pre EX_ok hP hK hD hEn hS (z_free hD hS hA)⟩ rfl rfl hl.1 rfl (lv_room (Nat.le_of_ble_eq_true rfl)) dX3_isSecond_96 ⟨Nat.le_of_ble_eq_true rfl, Nat.le_of_ble_eq_true rfl⟩) hD hS hA (fun r_96 u96 H locs hw_96 hP hD hS => ?_)
    have hP : va_P D vwCl [] H := hP
    have hD : va_D A [] := hD
    obtain rfl := hw_96
    exact z_reti () hx hb hr (bl_nar _ _) hlocks hK (rfl) hP hD hS (Nat.le_of_ble_eq_true rfl) (Nat.le_of_ble_eq_true rfl) dX3_isSecond_99
  · refine lv_lookup (off := 93) (tgt := 94) hx hb dX3_isSecond_1 (by decide) (by decide) (by decide) ?_
    refine lv_iload_n hx hb dX3_isSecond_94 rfl (lv_at hl 1 rfl) ?_
    refine lv_iconst (v := 4) hx hb dX3_isSecond_95 (by decide) ?_
    refine z_calli (va_runSN (As := [.int p1, .int 4]) (rest := []) ⟨hx, hb, hml, hown, hts⟩ (m_isBelow l D cy sa _ p1 4) ⟨va_cnB 2 hts GI_K588 rfl rfl rfl (hEn.1 _ K638) (hts _ K77) HD_yX11_isBelow ⟨Nat.le_of_ble_eq_true rfl, Nat.le_of_ble_eq_true rfl⟩, hts _ K587, trivial⟩ ⟨z_blind EX_ok, z_pre EX_ok hP hK hD hEn hS (z_free hD hS hA)⟩ rfl rfl hl.1 rfl (lv_room (Nat.le_of_ble_eq_true rfl)) dX3_isSecond_96 ⟨Nat.le_of_ble_eq_true rfl, Nat.le_of_ble_eq_true rfl⟩) hD hS hA (fun r_96 u96_1 H locs hw_96 hP hD hS => ?_)
    have hP : va_P D vwCl [] H := hP
    have hD : va_D A [] := hD
    obtain rfl := hw_96
    exact z_reti () hx hb hr (bl_nar _ _) hlocks hK (rfl) hP hD hS (Nat.le_of_ble_eq_true rfl) (Nat.le_of_ble_eq_true rfl) dX3_isSecond_99
  · refine lv_lookup (off := 93) (tgt := 94) hx hb dX3_isSecond_1 (by decide) (by decide) (by decide) ?_
    refine lv_iload_n hx hb dX3_isSecond_94 rfl (lv_at hl 1 rfl) ?_
    refine lv_iconst (v := 4) hx hb dX3_isSecond_95 (by decide) ?_
    refine z_calli (va_runSN (As := [.int p1, .int 4]) (rest := []) ⟨hx, hb, hml, hown, hts⟩ (m_isBelow l D cy sa _ p1 4) ⟨va_cnB 2 hts GI_K588 rfl rfl rfl (hEn.1 _ K638) (hts _ K77) HD_yX11_isBelow ⟨Nat.le_of_ble_eq_true rfl, Nat.le_of_ble_eq_true rfl⟩, hts _ K587, trivial⟩ ⟨z_blind EX_ok, z_pre EX_ok hP hK hD hEn hS (z_free hD hS hA)⟩ rfl rfl hl.1 rfl (lv_room (Nat.le_of_ble_eq_true rfl)) dX3_isSecond_96 ⟨Nat.le_of_ble_eq_true rfl, Nat.le_of_ble_eq_true rfl⟩) hD hS hA (fun r_96 u96_2 H locs hw_96 hP hD hS => ?_)
    have hP : va_P D vwCl [] H := hP
    have hD : va_D A [] := hD
    obtain rfl := hw_96
    exact z_reti () hx hb hr (bl_nar _ _) hlocks hK (rfl) hP hD hS (Nat.le_of_ble_eq_true rfl) (Nat.le_of_ble_eq_true rfl) dX3_isSecond_99
  · refine lv_lookup (off := 91) (tgt := 92) hx hb dX3_isSecond_1 (by decide) (by decide) (by decide) ?_
    refine lv_iconst (v := 1) hx hb dX3_isSecond_92 (by decide) ?_
    exact z_reti () hx hb hr rfl hlocks hK (rfl) hP hD hS (Nat.le_of_ble_eq_true rfl) (Nat.le_of_ble_eq_true rfl) dX3_isSecond_93
  · refine lv_lookup (off := 105) (tgt := 106) hx hb dX3_isSecond_1 (by decide) (by decide) (by decide) ?_
    refine lv_iload_n hx hb dX3_isSecond_106 rfl (lv_at hl 1 rfl) ?_
    refine lv_bipush (v := 16) hx hb dX3_isSecond_107 (by decide) ?_
    refine z_calli (va_runSN (As := [.int p1, .int 16]) (rest := []) ⟨hx, hb, hml, hown, hts⟩ (m_isBelow l D cy sa _ p1 16) ⟨va_cnB 2 hts GI_K588 rfl rfl rfl (hEn.1 _ K638) (hts _ K77) HD_yX11_isBelow ⟨Nat.le_of_ble_eq_true rfl, Nat.le_of_ble_eq_true rfl⟩, hts _ K587, trivial⟩ ⟨z_blind EX_ok, z_pre EX_ok hP hK hD hEn hS (z_free hD hS hA)⟩ rfl rfl hl.1 rfl (lv_room (Nat.le_of_ble_eq_true rfl)) dX3_isSecond_109 ⟨Nat.le_of_ble_eq_true rfl, Nat.le_of_ble_eq_true rfl⟩) hD hS hA (fun r_109 u109 H locs hw_109 hP hD hS => ?_)
    have hP : va_P D vwCl [] H := hP
    have hD : va_D A [] := hD
    obtain rfl := hw_109
    exact z_reti () hx hb hr (bl_nar _ _) hlocks hK (rfl) hP hD hS (Nat.le_of_ble_eq_true rfl) (Nat.le_of_ble_eq_true rfl) dX3_isSecond_112
  · refine lv_lookup (off := 112) (tgt := 113) hx hb dX3_isSecond_1 (by decide) (by decide) (by decide) ?_
    refine lv_iload_n hx hb dX3_isSecond_113 rfl (lv_at hl 1 rfl) ?_
    refine lv_bipush (v := 60) hx hb dX3_isSecond_114 (by decide) ?_
    refine z_calli (va_runSN (As := [.int p1, .int 60]) (rest := []) ⟨hx, hb, hml, hown, hts⟩ (m_isBelow l D cy sa _ p1 60) ⟨va_cnB 2 hts GI_K588 rfl rfl rfl (hEn.1 _ K638) (hts _ K77) HD_yX11_isBelow ⟨Nat.le_of_ble_eq_true rfl, Nat.le_of_ble_eq_true rfl⟩, hts _ K587, trivial⟩ ⟨z_blind EX_ok, z_pre EX_ok hP hK hD hEn hS (z_free hD hS hA)⟩ rfl rfl hl.1 rfl (lv_room (Nat.le_of_ble_eq_true rfl)) dX3_isSecond_116 ⟨Nat.le_of_ble_eq_true rfl, Nat.le_of_ble_eq_true rfl⟩) hD hS hA (fun r_116 u116 H locs hw_116 hP hD hS => ?_)
    have hP : va_P D vwCl [] H := hP
    have hD : va_D A [] := hD
    obtain rfl := hw_116
    exact z_reti () hx hb hr (bl_nar _ _) hlocks hK (rfl) hP hD hS (Nat.le_of_ble_eq_true rfl) (Nat.le_of_ble_eq_true rfl) dX3_isSecond_119
  · refine lv_lookup (off := 99) (tgt := 100) hx hb dX3_isSecond_1 (by decide) (by decide) (by decide) ?_
    refine lv_iload_n hx hb dX3_isSecond_100 rfl (lv_at hl 1 rfl) ?_
    refine lv_iconst (v := 4) hx hb dX3_isSecond_101 (by decide) ?_
    refine z_calli (va_runSN (As := [.int p1, .int 4]) (rest := []) ⟨hx, hb, hml, hown, hts⟩ (m_isBelow l D cy sa _ p1 4) ⟨va_cnB 2 hts GI_K588 rfl rfl rfl (hEn.1 _ K638) (hts _ K77) HD_yX11_isBelow ⟨Nat.le_of_ble_eq_true rfl, Nat.le_of_ble_eq_true rfl⟩, hts _ K587, trivial⟩ ⟨z_blind EX_ok, z_pre EX_ok hP hK hD hEn hS (z_free hD hS hA)⟩ rfl rfl hl.1 rfl (lv_room (Nat.le_of_ble_eq_true rfl)) dX3_isSecond_102 ⟨Nat.le_of_ble_eq_true rfl, Nat.le_of_ble_eq_true rfl⟩) hD hS hA (fun r_102 u102 H locs hw_102 hP hD hS => ?_)
    have hP : va_P D vwCl [] H := hP
    have hD : va_D A [] := hD
    obtain rfl := hw_102
    exact z_reti () hx hb hr (bl_nar _ _) hlocks hK (rfl) hP hD hS (Nat.le_of_ble_eq_true rfl) (Nat.le_of_ble_eq_true rfl) dX3_isSecond_105
  · refine lv_lookup (off := 93) (tgt := 94) hx hb dX3_isSecond_1 (by decide) (by decide) (by decide) ?_
    refine lv_iload_n hx hb dX3_isSecond_94 rfl (lv_at hl 1 rfl) ?_
    refine lv_iconst (v := 4) hx hb dX3_isSecond_95 (by decide) ?_
    refine z_calli (va_runSN (As := [.int p1, .int 4]) (rest := []) ⟨hx, hb, hml, hown, hts⟩ (m_isBelow l D cy sa _ p1 4) ⟨va_cnB 2 hts GI_K588 rfl rfl rfl (hEn.1 _ K638) (hts _ K77) HD_yX11_isBelow ⟨Nat.le_of_ble_eq_true rfl, Nat.le_of_ble_eq_true rfl⟩, hts _ K587, trivial⟩ ⟨z_blind EX_ok, z_pre EX_ok hP hK hD hEn hS (z_free hD hS hA)⟩ rfl rfl hl.1 rfl (lv_room (Nat.le_of_ble_eq_true rfl)) dX3_isSecond_96 ⟨Nat.le_of_ble_eq_true rfl, Nat.le_of_ble_eq_true rfl⟩) hD hS hA (fun r_96 u96_3 H locs hw_96 hP hD hS => ?_)
    have hP : va_P D vwCl [] H := hP
    have hD : va_D A [] := hD
    obtain rfl := hw_96
    exact z_reti () hx hb hr (bl_nar _ _) hlocks hK (rfl) hP hD hS (Nat.le_of_ble_eq_true rfl) (Nat.le_of_ble_eq_true rfl) dX3_isSecond_99
  · refine lv_lookup (off := 105) (tgt := 106) hx hb dX3_isSecond_1 (by decide) (by decide) (by decide) ?_
    refine lv_iload_n hx hb dX3_isSecond_106 rfl (lv_at hl 1 rfl) ?_
    refine lv_bipush (v := 16) hx hb dX3_isSecond_107 (by decide) ?_
    refine z_calli (va_runSN (As := [.int p1, .int 16]) (rest := []) ⟨hx, hb, hml, hown, hts⟩ (m_isBelow l D cy sa _ p1 16) ⟨va_cnB 2 hts GI_K588 rfl rfl rfl (hEn.1 _ K638) (hts _ K77) HD_yX11_isBelow ⟨Nat.le_of_ble_eq_true rfl, Nat.le_of_ble_eq_true rfl⟩, hts _ K587, trivial⟩ ⟨z_blind EX_ok, z_pre EX_ok hP hK hD hEn hS (z_free hD hS hA)⟩ rfl rfl hl.1 rfl (lv_room (Nat.le_of_ble_eq_true rfl)) dX3_isSecond_109 ⟨Nat.le_of_ble_eq_true rfl, Nat.le_of_ble_eq_true rfl⟩) hD hS hA (fun r_109 u109_4 H locs hw_109 hP hD hS => ?_)
    have hP : va_P D vwCl [] H := hP
    have hD : va_D A [] := hD
    obtain rfl := hw_109
    exact z_reti () hx hb hr (bl_nar _ _) hlocks hK (rfl) hP hD hS (Nat.le_of_ble_eq_true rfl) (Nat.le_of_ble_eq_true rfl) dX3_isSecond_112
  · refine lv_lookup (off := 99) (tgt := 100) hx hb dX3_isSecond_1 (by decide) (by decide) (by decide) ?_
    refine lv_iload_n hx hb dX3_isSecond_100 rfl (lv_at hl 1 rfl) ?_
    refine lv_iconst (v := 4) hx hb dX3_isSecond_101 (by decide) ?_
    refine z_calli (va_runSN (As := [.int p1, .int 4]) (rest := []) ⟨hx, hb, hml, hown, hts⟩ (m_isBelow l D cy sa _ p1 4) ⟨va_cnB 2 hts GI_K588 rfl rfl rfl (hEn.1 _ K638) (hts _ K77) HD_yX11_isBelow ⟨Nat.le_of_ble_eq_true rfl, Nat.le_of_ble_eq_true rfl⟩, hts _ K587, trivial⟩ ⟨z_blind EX_ok, z_pre EX_ok hP hK hD hEn hS (z_free hD hS hA)⟩ rfl rfl hl.1 rfl (lv_room (Nat.le_of_ble_eq_true rfl)) dX3_isSecond_102 ⟨Nat.le_of_ble_eq_true rfl, Nat.le_of_ble_eq_true rfl⟩) hD hS hA (fun r_102 u102_5 H locs hw_102 hP hD hS => ?_)
    have hP : va_P D vwCl [] H := hP
    have hD : va_D A [] := hD
    obtain rfl := hw_102
    exact z_reti () hx hb hr (bl_nar _ _) hlocks hK (rfl) hP hD hS (Nat.le_of_ble_eq_true rfl) (Nat.le_of_ble_eq_true rfl) dX3_isSecond_105
set_option maxHeartbeats 4000000 in
set_option maxRecDepth 100000 in
theorem m_isInstr (l : Launch) (D : va_G) (cy : Nat → ClassId) (sa : Nat → Nat) (sz : Nat) (p0 p1 p2 : Int32) : Met l yX3_isInstruction (Cond.code yX3_isInstruction cX3_isInstruction 3 (some .boolean) :: ALL) ({ frames := 2, cells := 0, slots := 0, locals := 42 }) (zPc D vwCl (TY cy) (EX sa) [.int p0, .int p1, .int p2] [] sz) (va_Qi (fun r _ => r = okI p0 p1 p2) (zB D vwCl (TY cy) (S := Unit) (fun u => []) (va_A [] sz)) (va_A [] sz)) 0 0 (va_A [] sz) := by
  refine z_start (Qc := fun A => va_Qi (fun r _ => r = okI p0 p1 p2) (zB D vwCl (TY cy) (S := Unit) (fun u => []) A) A) PN_RX3 (Nat.le_of_ble_eq_true rfl) ?_
  intro p e s m below meth c A ls hx hb hr hml hts hown hlocks hin hA hP hK hD hS hEn hl
  have hown : s.vm.findClass RX3 = some m.cls := hown
  have hl : lv_has ls 3 [(0, .int p0), (1, .int p1), (2, .int p2)] := hl
  have hS0 := hS
  refine lv_iload_n hx hb dX3_isInstruction_0 rfl (lv_at hl 0 rfl) ?_
  rcases tsw p0 with hsw | rfl | rfl | rfl | rfl | rfl | rfl | rfl | rfl | rfl | rfl | rfl | rfl | rfl | rfl | rfl | rfl | rfl | rfl | rfl | rfl
  · refine lv_tableOut (tgt := 111) hx hb dX3_isInstruction_1 hsw (by decide) ?_
    refine lv_iload_n hx hb dX3_isInstruction_111 rfl (lv_at hl 1 rfl) ?_
    refine lv_iconst (v := 4) hx hb dX3_isInstruction_112 (by decide) ?_
    refine z_calli (va_runSN (As := [.int p1, .int 4]) (rest := []) ⟨hx, hb, hml, hown, hts⟩ (m_isBelow l D cy sa _ p1 4) ⟨va_cnB 2 hts GI_K588 rfl rfl rfl (hEn.1 _ K638) (hts _ K77) HD_yX11_isBelow ⟨Nat.le_of_ble_eq_true rfl, Nat.le_of_ble_eq_true rfl⟩, hts _ K587, trivial⟩ ⟨z_blind EX_ok, z_pre EX_ok hP hK hD hEn hS (z_free hD hS hA)⟩ rfl rfl hl.1 rfl (lv_room (Nat.le_of_ble_eq_true rfl)) dX3_isInstruction_113 ⟨Nat.le_of_ble_eq_true rfl, Nat.le_of_ble_eq_true rfl⟩) hD hS hA (fun r_113 u113 H locs hw_113 hP hD hS => ?_)
    have hP : va_P D vwCl [] H := hP
    have hD : va_D A [] := hD
    obtain rfl := hw_113
    refine lv_if_eq (tgt := 131) hx hb dX3_isInstruction_116 (by decide) (fun c_116 => ?_) (fun c_116 => ?_)
    · refine lv_iconst (v := 0) hx hb dX3_isInstruction_131 (by decide) ?_
      exact z_reti () hx hb hr rfl hlocks hK (((okI_out hsw).trans (if_pos c_116)).symm) hP hD hS (Nat.le_of_ble_eq_true rfl) (Nat.le_of_ble_eq_true rfl) dX3_isInstruction_132
    · refine lv_iload_n hx hb dX3_isInstruction_119 rfl (lv_at hl 0 rfl) ?_
      refine lv_iload_n hx hb dX3_isInstruction_120 rfl (lv_at hl 2 rfl) ?_
      refine z_calli (va_runS (As := [.int p0, .int p2]) (rest := []) ⟨hx, hb, hml, hown, hts⟩ (m_isSecond l D cy sa _ p0 p2) (va_cwS 2 hts GS_RX3_50 rfl rfl rfl HD_yX3_isSecond ⟨Nat.le_of_ble_eq_true rfl, Nat.le_of_ble_eq_true rfl⟩) ⟨z_blind EX_ok, z_pre EX_ok hP hK hD hEn hS (z_free hD hS hA)⟩ rfl rfl hl.1 rfl (lv_room (Nat.le_of_ble_eq_true rfl)) dX3_isInstruction_121 ⟨Nat.le_of_ble_eq_true rfl, Nat.le_of_ble_eq_true rfl⟩) hD hS hA (fun r_121 u121 H locs hw_121 hP hD hS => ?_)
      have hP : va_P D vwCl [] H := hP
      have hD : va_D A [] := hD
      obtain rfl := hw_121
      refine lv_if_eq (tgt := 131) hx hb dX3_isInstruction_124 (by decide) (fun c_124 => ?_) (fun c_124 => ?_)
      · refine lv_iconst (v := 0) hx hb dX3_isInstruction_131 (by decide) ?_
        exact z_reti () hx hb hr rfl hlocks hK (((okI_out hsw).trans ((if_neg c_116).trans (if_pos c_124))).symm) hP hD hS (Nat.le_of_ble_eq_true rfl) (Nat.le_of_ble_eq_true rfl) dX3_isInstruction_132
      · refine lv_iconst (v := 1) hx hb dX3_isInstruction_127 (by decide) ?_
        refine lv_goto (tgt := 132) hx hb dX3_isInstruction_128 (by decide) ?_
        exact z_reti () hx hb hr rfl hlocks hK (((okI_out hsw).trans ((if_neg c_116).trans (if_neg c_124))).symm) hP hD hS (Nat.le_of_ble_eq_true rfl) (Nat.le_of_ble_eq_true rfl) dX3_isInstruction_132
  · refine lv_tableIn (off := 104) (tgt := 105) hx hb dX3_isInstruction_1 (by decide) (by decide) (by decide) (by decide) ?_
    refine lv_iload_n hx hb dX3_isInstruction_105 rfl (lv_at hl 2 rfl) ?_
    refine lv_iconst (v := 5) hx hb dX3_isInstruction_106 (by decide) ?_
    refine z_calli (va_runSN (As := [.int p2, .int 5]) (rest := []) ⟨hx, hb, hml, hown, hts⟩ (m_isBelow l D cy sa _ p2 5) ⟨va_cnB 2 hts GI_K588 rfl rfl rfl (hEn.1 _ K638) (hts _ K77) HD_yX11_isBelow ⟨Nat.le_of_ble_eq_true rfl, Nat.le_of_ble_eq_true rfl⟩, hts _ K587, trivial⟩ ⟨z_blind EX_ok, z_pre EX_ok hP hK hD hEn hS (z_free hD hS hA)⟩ rfl rfl hl.1 rfl (lv_room (Nat.le_of_ble_eq_true rfl)) dX3_isInstruction_107 ⟨Nat.le_of_ble_eq_true rfl, Nat.le_of_ble_eq_true rfl⟩) hD hS hA (fun r_107 u107 H locs hw_107 hP hD hS => ?_)
    have hP : va_P D vwCl [] H := hP
    have hD : va_D A [] := hD
    obtain rfl := hw_107
    exact z_reti () hx hb hr (bl_nar _ _) hlocks hK (rfl) hP hD hS (Nat.le_of_ble_eq_true rfl) (Nat.le_of_ble_eq_true rfl) dX3_isInstruction_110
  · refine lv_tableIn (off := 110) (tgt := 111) hx hb dX3_isInstruction_1 (by decide) (by decide) (by decide) (by decide) ?_
    refine lv_iload_n hx hb dX3_isInstruction_111 rfl (lv_at hl 1 rfl) ?_
    refine lv_iconst (v := 4) hx hb dX3_isInstruction_112 (by decide) ?_
    refine z_calli (va_runSN (As := [.int p1, .int 4]) (rest := []) ⟨hx, hb, hml, hown, hts⟩ (m_isBelow l D cy sa _ p1 4) ⟨va_cnB 2 hts GI_K588 rfl rfl rfl (hEn.1 _ K638) (hts _ K77) HD_yX11_isBelow ⟨Nat.le_of_ble_eq_true rfl, Nat.le_of_ble_eq_true rfl⟩, hts _ K587, trivial⟩ ⟨z_blind EX_ok, z_pre EX_ok hP hK hD hEn hS (z_free hD hS hA)⟩ rfl rfl hl.1 rfl (lv_room (Nat.le_of_ble_eq_true rfl)) dX3_isInstruction_113 ⟨Nat.le_of_ble_eq_true rfl, Nat.le_of_ble_eq_true rfl⟩) hD hS hA (fun r_113 u113_1 H locs hw_113 hP hD hS => ?_)
    have hP : va_P D vwCl [] H := hP
    have hD : va_D A [] := hD
    obtain rfl := hw_113
    refine lv_if_eq (tgt := 131) hx hb dX3_isInstruction_116 (by decide) (fun c_116 => ?_) (fun c_116 => ?_)
    · refine lv_iconst (v := 0) hx hb dX3_isInstruction_131 (by decide) ?_
      exact z_reti () hx hb hr rfl hlocks hK (((rfl : okI 102 p1 p2 = okD 102 p1 p2).trans (if_pos c_116)).symm) hP hD hS (Nat.le_of_ble_eq_true rfl) (Nat.le_of_ble_eq_true rfl) dX3_isInstruction_132
    · refine lv_iload_n hx hb dX3_isInstruction_119 rfl (lv_at hl 0 rfl) ?_
      refine lv_iload_n hx hb dX3_isInstruction_120 rfl (lv_at hl 2 rfl) ?_
      refine z_calli (va_runS (As := [.int 102, .int p2]) (rest := []) ⟨hx, hb, hml, hown, hts⟩ (m_isSecond l D cy sa _ 102 p2) (va_cwS 2 hts GS_RX3_50 rfl rfl rfl HD_yX3_isSecond ⟨Nat.le_of_ble_eq_true rfl, Nat.le_of_ble_eq_true rfl⟩) ⟨z_blind EX_ok, z_pre EX_ok hP hK hD hEn hS (z_free hD hS hA)⟩ rfl rfl hl.1 rfl (lv_room (Nat.le_of_ble_eq_true rfl)) dX3_isInstruction_121 ⟨Nat.le_of_ble_eq_true rfl, Nat.le_of_ble_eq_true rfl⟩) hD hS hA (fun r_121 u121_2 H locs hw_121 hP hD hS => ?_)
      have hP : va_P D vwCl [] H := hP
      have hD : va_D A [] := hD
      obtain rfl := hw_121
      refine lv_if_eq (tgt := 131) hx hb dX3_isInstruction_124 (by decide) (fun c_124 => ?_) (fun c_124 => ?_)
      · refine lv_iconst (v := 0) hx hb dX3_isInstruction_131 (by decide) ?_
        exact z_reti () hx hb hr rfl hlocks hK (((rfl : okI 102 p1 p2 = okD 102 p1 p2).trans ((if_neg c_116).trans (if_pos c_124))).symm) hP hD hS (Nat.le_of_ble_eq_true rfl) (Nat.le_of_ble_eq_true rfl) dX3_isInstruction_132
      · refine lv_iconst (v := 1) hx hb dX3_isInstruction_127 (by decide) ?_
        refine lv_goto (tgt := 132) hx hb dX3_isInstruction_128 (by decide) ?_
        exact z_reti () hx hb hr rfl hlocks hK (((rfl : okI 102 p1 p2 = okD 102 p1 p2).trans ((if_neg c_116).trans (if_neg c_124))).symm) hP hD hS (Nat.le_of_ble_eq_true rfl) (Nat.le_of_ble_eq_true rfl) dX3_isInstruction_132
  · refine lv_tableIn (off := 110) (tgt := 111) hx hb dX3_isInstruction_1 (by decide) (by decide) (by decide) (by decide) ?_
    refine lv_iload_n hx hb dX3_isInstruction_111 rfl (lv_at hl 1 rfl) ?_
    refine lv_iconst (v := 4) hx hb dX3_isInstruction_112 (by decide) ?_
    refine z_calli (va_runSN (As := [.int p1, .int 4]) (rest := []) ⟨hx, hb, hml, hown, hts⟩ (m_isBelow l D cy sa _ p1 4) ⟨va_cnB 2 hts GI_K588 rfl rfl rfl (hEn.1 _ K638) (hts _ K77) HD_yX11_isBelow ⟨Nat.le_of_ble_eq_true rfl, Nat.le_of_ble_eq_true rfl⟩, hts _ K587, trivial⟩ ⟨z_blind EX_ok, z_pre EX_ok hP hK hD hEn hS (z_free hD hS hA)⟩ rfl rfl hl.1 rfl (lv_room (Nat.le_of_ble_eq_true rfl)) dX3_isInstruction_113 ⟨Nat.le_of_ble_eq_true rfl, Nat.le_of_ble_eq_true rfl⟩) hD hS hA (fun r_113 u113_3 H locs hw_113 hP hD hS => ?_)
    have hP : va_P D vwCl [] H := hP
    have hD : va_D A [] := hD
    obtain rfl := hw_113
    refine lv_if_eq (tgt := 131) hx hb dX3_isInstruction_116 (by decide) (fun c_116 => ?_) (fun c_116 => ?_)
    · refine lv_iconst (v := 0) hx hb dX3_isInstruction_131 (by decide) ?_
      exact z_reti () hx hb hr rfl hlocks hK (((rfl : okI 103 p1 p2 = okD 103 p1 p2).trans (if_pos c_116)).symm) hP hD hS (Nat.le_of_ble_eq_true rfl) (Nat.le_of_ble_eq_true rfl) dX3_isInstruction_132
    · refine lv_iload_n hx hb dX3_isInstruction_119 rfl (lv_at hl 0 rfl) ?_
      refine lv_iload_n hx hb dX3_isInstruction_120 rfl (lv_at hl 2 rfl) ?_
      refine z_calli (va_runS (As := [.int 103, .int p2]) (rest := []) ⟨hx, hb, hml, hown, hts⟩ (m_isSecond l D cy sa _ 103 p2) (va_cwS 2 hts GS_RX3_50 rfl rfl rfl HD_yX3_isSecond ⟨Nat.le_of_ble_eq_true rfl, Nat.le_of_ble_eq_true rfl⟩) ⟨z_blind EX_ok, z_pre EX_ok hP hK hD hEn hS (z_free hD hS hA)⟩ rfl rfl hl.1 rfl (lv_room (Nat.le_of_ble_eq_true rfl)) dX3_isInstruction_121 ⟨Nat.le_of_ble_eq_true rfl, Nat.le_of_ble_eq_true rfl⟩) hD hS hA (fun r_121 u121_4 H locs hw_121 hP hD hS => ?_)
      have hP : va_P D vwCl [] H := hP
      have hD : va_D A [] := hD
      obtain rfl := hw_121
      refine lv_if_eq (tgt := 131) hx hb dX3_isInstruction_124 (by decide) (fun c_124 => ?_) (fun c_124 => ?_)
      · refine lv_iconst (v := 0) hx hb dX3_isInstruction_131 (by decide) ?_
        exact z_reti () hx hb hr rfl hlocks hK (((rfl : okI 103 p1 p2 = okD 103 p1 p2).trans ((if_neg c_116).trans (if_pos c_124))).symm) hP hD hS (Nat.le_of_ble_eq_true rfl) (Nat.le_of_ble_eq_true rfl) dX3_isInstruction_132
      · refine lv_iconst (v := 1) hx hb dX3_isInstruction_127 (by decide) ?_
        refine lv_goto (tgt := 132) hx hb dX3_isInstruction_128 (by decide) ?_
        exact z_reti () hx hb hr rfl hlocks hK (((rfl : okI 103 p1 p2 = okD 103 p1 p2).trans ((if_neg c_116).trans (if_neg c_124))).symm) hP hD hS (Nat.le_of_ble_eq_true rfl) (Nat.le_of_ble_eq_true rfl) dX3_isInstruction_132
  · refine lv_tableIn (off := 95) (tgt := 96) hx hb dX3_isInstruction_1 (by decide) (by decide) (by decide) (by decide) ?_
    refine lv_iconst (v := 1) hx hb dX3_isInstruction_96 (by decide) ?_
    exact z_reti () hx hb hr rfl hlocks hK (rfl) hP hD hS (Nat.le_of_ble_eq_true rfl) (Nat.le_of_ble_eq_true rfl) dX3_isInstruction_97
  · refine lv_tableIn (off := 110) (tgt := 111) hx hb dX3_isInstruction_1 (by decide) (by decide) (by decide) (by decide) ?_
    refine lv_iload_n hx hb dX3_isInstruction_111 rfl (lv_at hl 1 rfl) ?_
    refine lv_iconst (v := 4) hx hb dX3_isInstruction_112 (by decide) ?_
    refine z_calli (va_runSN (As := [.int p1, .int 4]) (rest := []) ⟨hx, hb, hml, hown, hts⟩ (m_isBelow l D cy sa _ p1 4) ⟨va_cnB 2 hts GI_K588 rfl rfl rfl (hEn.1 _ K638) (hts _ K77) HD_yX11_isBelow ⟨Nat.le_of_ble_eq_true rfl, Nat.le_of_ble_eq_true rfl⟩, hts _ K587, trivial⟩ ⟨z_blind EX_ok, z_pre EX_ok hP hK hD hEn hS (z_free hD hS hA)⟩ rfl rfl hl.1 rfl (lv_room (Nat.le_of_ble_eq_true rfl)) dX3_isInstruction_113 ⟨Nat.le_of_ble_eq_true rfl, Nat.le_of_ble_eq_true rfl⟩) hD hS hA (fun r_113 u113_5 H locs hw_113 hP hD hS => ?_)
    have hP : va_P D vwCl [] H := hP
    have hD : va_D A [] := hD
    obtain rfl := hw_113
    refine lv_if_eq (tgt := 131) hx hb dX3_isInstruction_116 (by decide) (fun c_116 => ?_) (fun c_116 => ?_)
    · refine lv_iconst (v := 0) hx hb dX3_isInstruction_131 (by decide) ?_
      exact z_reti () hx hb hr rfl hlocks hK (((rfl : okI 105 p1 p2 = okD 105 p1 p2).trans (if_pos c_116)).symm) hP hD hS (Nat.le_of_ble_eq_true rfl) (Nat.le_of_ble_eq_true rfl) dX3_isInstruction_132
    · refine lv_iload_n hx hb dX3_isInstruction_119 rfl (lv_at hl 0 rfl) ?_
      refine lv_iload_n hx hb dX3_isInstruction_120 rfl (lv_at hl 2 rfl) ?_
      refine z_calli (va_runS (As := [.int 105, .int p2]) (rest := []) ⟨hx, hb, hml, hown, hts⟩ (m_isSecond l D cy sa _ 105 p2) (va_cwS 2 hts GS_RX3_50 rfl rfl rfl HD_yX3_isSecond ⟨Nat.le_of_ble_eq_true rfl, Nat.le_of_ble_eq_true rfl⟩) ⟨z_blind EX_ok, z_pre EX_ok hP hK hD hEn hS (z_free hD hS hA)⟩ rfl rfl hl.1 rfl (lv_room (Nat.le_of_ble_eq_true rfl)) dX3_isInstruction_121 ⟨Nat.le_of_ble_eq_true rfl, Nat.le_of_ble_eq_true rfl⟩) hD hS hA (fun r_121 u121_6 H locs hw_121 hP hD hS => ?_)
      have hP : va_P D vwCl [] H := hP
      have hD : va_D A [] := hD
      obtain rfl := hw_121
      refine lv_if_eq (tgt := 131) hx hb dX3_isInstruction_124 (by decide) (fun c_124 => ?_) (fun c_124 => ?_)
      · refine lv_iconst (v := 0) hx hb dX3_isInstruction_131 (by decide) ?_
        exact z_reti () hx hb hr rfl hlocks hK (((rfl : okI 105 p1 p2 = okD 105 p1 p2).trans ((if_neg c_116).trans (if_pos c_124))).symm) hP hD hS (Nat.le_of_ble_eq_true rfl) (Nat.le_of_ble_eq_true rfl) dX3_isInstruction_132
      · refine lv_iconst (v := 1) hx hb dX3_isInstruction_127 (by decide) ?_
        refine lv_goto (tgt := 132) hx hb dX3_isInstruction_128 (by decide) ?_
        exact z_reti () hx hb hr rfl hlocks hK (((rfl : okI 105 p1 p2 = okD 105 p1 p2).trans ((if_neg c_116).trans (if_neg c_124))).symm) hP hD hS (Nat.le_of_ble_eq_true rfl) (Nat.le_of_ble_eq_true rfl) dX3_isInstruction_132
  · refine lv_tableIn (off := 110) (tgt := 111) hx hb dX3_isInstruction_1 (by decide) (by decide) (by decide) (by decide) ?_
    refine lv_iload_n hx hb dX3_isInstruction_111 rfl (lv_at hl 1 rfl) ?_
    refine lv_iconst (v := 4) hx hb dX3_isInstruction_112 (by decide) ?_
    refine z_calli (va_runSN (As := [.int p1, .int 4]) (rest := []) ⟨hx, hb, hml, hown, hts⟩ (m_isBelow l D cy sa _ p1 4) ⟨va_cnB 2 hts GI_K588 rfl rfl rfl (hEn.1 _ K638) (hts _ K77) HD_yX11_isBelow ⟨Nat.le_of_ble_eq_true rfl, Nat.le_of_ble_eq_true rfl⟩, hts _ K587, trivial⟩ ⟨z_blind EX_ok, z_pre EX_ok hP hK hD hEn hS (z_free hD hS hA)⟩ rfl rfl hl.1 rfl (lv_room (Nat.le_of_ble_eq_true rfl)) dX3_isInstruction_113 ⟨Nat.le_of_ble_eq_true rfl, Nat.le_of_ble_eq_true rfl⟩) hD hS hA (fun r_113 u113_7 H locs hw_113 hP hD hS => ?_)
    have hP : va_P D vwCl [] H := hP
    have hD : va_D A [] := hD
    obtain rfl := hw_113
    refine lv_if_eq (tgt := 131) hx hb dX3_isInstruction_116 (by decide) (fun c_116 => ?_) (fun c_116 => ?_)
    · refine lv_iconst (v := 0) hx hb dX3_isInstruction_131 (by decide) ?_
      exact z_reti () hx hb hr rfl hlocks hK (((rfl : okI 106 p1 p2 = okD 106 p1 p2).trans (if_pos c_116)).symm) hP hD hS (Nat.le_of_ble_eq_true rfl) (Nat.le_of_ble_eq_true rfl) dX3_isInstruction_132
    · refine lv_iload_n hx hb dX3_isInstruction_119 rfl (lv_at hl 0 rfl) ?_
      refine lv_iload_n hx hb dX3_isInstruction_120 rfl (lv_at hl 2 rfl) ?_
      refine z_calli (va_runS (As := [.int 106, .int p2]) (rest := []) ⟨hx, hb, hml, hown, hts⟩ (m_isSecond l D cy sa _ 106 p2) (va_cwS 2 hts GS_RX3_50 rfl rfl rfl HD_yX3_isSecond ⟨Nat.le_of_ble_eq_true rfl, Nat.le_of_ble_eq_true rfl⟩) ⟨z_blind EX_ok, z_pre EX_ok hP hK hD hEn hS (z_free hD hS hA)⟩ rfl rfl hl.1 rfl (lv_room (Nat.le_of_ble_eq_true rfl)) dX3_isInstruction_121 ⟨Nat.le_of_ble_eq_true rfl, Nat.le_of_ble_eq_true rfl⟩) hD hS hA (fun r_121 u121_8 H locs hw_121 hP hD hS => ?_)
      have hP : va_P D vwCl [] H := hP
      have hD : va_D A [] := hD
      obtain rfl := hw_121
      refine lv_if_eq (tgt := 131) hx hb dX3_isInstruction_124 (by decide) (fun c_124 => ?_) (fun c_124 => ?_)
      · refine lv_iconst (v := 0) hx hb dX3_isInstruction_131 (by decide) ?_
        exact z_reti () hx hb hr rfl hlocks hK (((rfl : okI 106 p1 p2 = okD 106 p1 p2).trans ((if_neg c_116).trans (if_pos c_124))).symm) hP hD hS (Nat.le_of_ble_eq_true rfl) (Nat.le_of_ble_eq_true rfl) dX3_isInstruction_132
      · refine lv_iconst (v := 1) hx hb dX3_isInstruction_127 (by decide) ?_
        refine lv_goto (tgt := 132) hx hb dX3_isInstruction_128 (by decide) ?_
        exact z_reti () hx hb hr rfl hlocks hK (((rfl : okI 106 p1 p2 = okD 106 p1 p2).trans ((if_neg c_116).trans (if_neg c_124))).symm) hP hD hS (Nat.le_of_ble_eq_true rfl) (Nat.le_of_ble_eq_true rfl) dX3_isInstruction_132
  · refine lv_tableIn (off := 97) (tgt := 98) hx hb dX3_isInstruction_1 (by decide) (by decide) (by decide) (by decide) ?_
    refine lv_iload_n hx hb dX3_isInstruction_98 rfl (lv_at hl 2 rfl) ?_
    refine lv_bipush (v := 6) hx hb dX3_isInstruction_99 (by decide) ?_
    refine z_calli (va_runSN (As := [.int p2, .int 6]) (rest := []) ⟨hx, hb, hml, hown, hts⟩ (m_isBelow l D cy sa _ p2 6) ⟨va_cnB 2 hts GI_K588 rfl rfl rfl (hEn.1 _ K638) (hts _ K77) HD_yX11_isBelow ⟨Nat.le_of_ble_eq_true rfl, Nat.le_of_ble_eq_true rfl⟩, hts _ K587, trivial⟩ ⟨z_blind EX_ok, z_pre EX_ok hP hK hD hEn hS (z_free hD hS hA)⟩ rfl rfl hl.1 rfl (lv_room (Nat.le_of_ble_eq_true rfl)) dX3_isInstruction_101 ⟨Nat.le_of_ble_eq_true rfl, Nat.le_of_ble_eq_true rfl⟩) hD hS hA (fun r_101 u101 H locs hw_101 hP hD hS => ?_)
    have hP : va_P D vwCl [] H := hP
    have hD : va_D A [] := hD
    obtain rfl := hw_101
    exact z_reti () hx hb hr (bl_nar _ _) hlocks hK (rfl) hP hD hS (Nat.le_of_ble_eq_true rfl) (Nat.le_of_ble_eq_true rfl) dX3_isInstruction_104
  · refine lv_tableIn (off := 110) (tgt := 111) hx hb dX3_isInstruction_1 (by decide) (by decide) (by decide) (by decide) ?_
    refine lv_iload_n hx hb dX3_isInstruction_111 rfl (lv_at hl 1 rfl) ?_
    refine lv_iconst (v := 4) hx hb dX3_isInstruction_112 (by decide) ?_
    refine z_calli (va_runSN (As := [.int p1, .int 4]) (rest := []) ⟨hx, hb, hml, hown, hts⟩ (m_isBelow l D cy sa _ p1 4) ⟨va_cnB 2 hts GI_K588 rfl rfl rfl (hEn.1 _ K638) (hts _ K77) HD_yX11_isBelow ⟨Nat.le_of_ble_eq_true rfl, Nat.le_of_ble_eq_true rfl⟩, hts _ K587, trivial⟩ ⟨z_blind EX_ok, z_pre EX_ok hP hK hD hEn hS (z_free hD hS hA)⟩ rfl rfl hl.1 rfl (lv_room (Nat.le_of_ble_eq_true rfl)) dX3_isInstruction_113 ⟨Nat.le_of_ble_eq_true rfl, Nat.le_of_ble_eq_true rfl⟩) hD hS hA (fun r_113 u113_9 H locs hw_113 hP hD hS => ?_)
    have hP : va_P D vwCl [] H := hP
    have hD : va_D A [] := hD
    obtain rfl := hw_113
    refine lv_if_eq (tgt := 131) hx hb dX3_isInstruction_116 (by decide) (fun c_116 => ?_) (fun c_116 => ?_)
    · refine lv_iconst (v := 0) hx hb dX3_isInstruction_131 (by decide) ?_
      exact z_reti () hx hb hr rfl hlocks hK (((rfl : okI 108 p1 p2 = okD 108 p1 p2).trans (if_pos c_116)).symm) hP hD hS (Nat.le_of_ble_eq_true rfl) (Nat.le_of_ble_eq_true rfl) dX3_isInstruction_132
    · refine lv_iload_n hx hb dX3_isInstruction_119 rfl (lv_at hl 0 rfl) ?_
      refine lv_iload_n hx hb dX3_isInstruction_120 rfl (lv_at hl 2 rfl) ?_
      refine z_calli (va_runS (As := [.int 108, .int p2]) (rest := []) ⟨hx, hb, hml, hown, hts⟩ (m_isSecond l D cy sa _ 108 p2) (va_cwS 2 hts GS_RX3_50 rfl rfl rfl HD_yX3_isSecond ⟨Nat.le_of_ble_eq_true rfl, Nat.le_of_ble_eq_true rfl⟩) ⟨z_blind EX_ok, z_pre EX_ok hP hK hD hEn hS (z_free hD hS hA)⟩ rfl rfl hl.1 rfl (lv_room (Nat.le_of_ble_eq_true rfl)) dX3_isInstruction_121 ⟨Nat.le_of_ble_eq_true rfl, Nat.le_of_ble_eq_true rfl⟩) hD hS hA (fun r_121 u121_10 H locs hw_121 hP hD hS => ?_)
      have hP : va_P D vwCl [] H := hP
      have hD : va_D A [] := hD
      obtain rfl := hw_121
      refine lv_if_eq (tgt := 131) hx hb dX3_isInstruction_124 (by decide) (fun c_124 => ?_) (fun c_124 => ?_)
      · refine lv_iconst (v := 0) hx hb dX3_isInstruction_131 (by decide) ?_
        exact z_reti () hx hb hr rfl hlocks hK (((rfl : okI 108 p1 p2 = okD 108 p1 p2).trans ((if_neg c_116).trans (if_pos c_124))).symm) hP hD hS (Nat.le_of_ble_eq_true rfl) (Nat.le_of_ble_eq_true rfl) dX3_isInstruction_132
      · refine lv_iconst (v := 1) hx hb dX3_isInstruction_127 (by decide) ?_
        refine lv_goto (tgt := 132) hx hb dX3_isInstruction_128 (by decide) ?_
        exact z_reti () hx hb hr rfl hlocks hK (((rfl : okI 108 p1 p2 = okD 108 p1 p2).trans ((if_neg c_116).trans (if_neg c_124))).symm) hP hD hS (Nat.le_of_ble_eq_true rfl) (Nat.le_of_ble_eq_true rfl) dX3_isInstruction_132
  · refine lv_tableIn (off := 110) (tgt := 111) hx hb dX3_isInstruction_1 (by decide) (by decide) (by decide) (by decide) ?_
    refine lv_iload_n hx hb dX3_isInstruction_111 rfl (lv_at hl 1 rfl) ?_
    refine lv_iconst (v := 4) hx hb dX3_isInstruction_112 (by decide) ?_
    refine z_calli (va_runSN (As := [.int p1, .int 4]) (rest := []) ⟨hx, hb, hml, hown, hts⟩ (m_isBelow l D cy sa _ p1 4) ⟨va_cnB 2 hts GI_K588 rfl rfl rfl (hEn.1 _ K638) (hts _ K77) HD_yX11_isBelow ⟨Nat.le_of_ble_eq_true rfl, Nat.le_of_ble_eq_true rfl⟩, hts _ K587, trivial⟩ ⟨z_blind EX_ok, z_pre EX_ok hP hK hD hEn hS (z_free hD hS hA)⟩ rfl rfl hl.1 rfl (lv_room (Nat.le_of_ble_eq_true rfl)) dX3_isInstruction_113 ⟨Nat.le_of_ble_eq_true rfl, Nat.le_of_ble_eq_true rfl⟩) hD hS hA (fun r_113 u113_11 H locs hw_113 hP hD hS => ?_)
    have hP : va_P D vwCl [] H := hP
    have hD : va_D A [] := hD
    obtain rfl := hw_113
    refine lv_if_eq (tgt := 131) hx hb dX3_isInstruction_116 (by decide) (fun c_116 => ?_) (fun c_116 => ?_)
    · refine lv_iconst (v := 0) hx hb dX3_isInstruction_131 (by decide) ?_
      exact z_reti () hx hb hr rfl hlocks hK (((rfl : okI 109 p1 p2 = okD 109 p1 p2).trans (if_pos c_116)).symm) hP hD hS (Nat.le_of_ble_eq_true rfl) (Nat.le_of_ble_eq_true rfl) dX3_isInstruction_132
    · refine lv_iload_n hx hb dX3_isInstruction_119 rfl (lv_at hl 0 rfl) ?_
      refine lv_iload_n hx hb dX3_isInstruction_120 rfl (lv_at hl 2 rfl) ?_
      refine z_calli (va_runS (As := [.int 109, .int p2]) (rest := []) ⟨hx, hb, hml, hown, hts⟩ (m_isSecond l D cy sa _ 109 p2) (va_cwS 2 hts GS_RX3_50 rfl rfl rfl HD_yX3_isSecond ⟨Nat.le_of_ble_eq_true rfl, Nat.le_of_ble_eq_true rfl⟩) ⟨z_blind EX_ok, z_pre EX_ok hP hK hD hEn hS (z_free hD hS hA)⟩ rfl rfl hl.1 rfl (lv_room (Nat.le_of_ble_eq_true rfl)) dX3_isInstruction_121 ⟨Nat.le_of_ble_eq_true rfl, Nat.le_of_ble_eq_true rfl⟩) hD hS hA (fun r_121 u121_12 H locs hw_121 hP hD hS => ?_)
      have hP : va_P D vwCl [] H := hP
      have hD : va_D A [] := hD
      obtain rfl := hw_121
      refine lv_if_eq (tgt := 131) hx hb dX3_isInstruction_124 (by decide) (fun c_124 => ?_) (fun c_124 => ?_)
      · refine lv_iconst (v := 0) hx hb dX3_isInstruction_131 (by decide) ?_
        exact z_reti () hx hb hr rfl hlocks hK (((rfl : okI 109 p1 p2 = okD 109 p1 p2).trans ((if_neg c_116).trans (if_pos c_124))).symm) hP hD hS (Nat.le_of_ble_eq_true rfl) (Nat.le_of_ble_eq_true rfl) dX3_isInstruction_132
      · refine lv_iconst (v := 1) hx hb dX3_isInstruction_127 (by decide) ?_
        refine lv_goto (tgt := 132) hx hb dX3_isInstruction_128 (by decide) ?_
        exact z_reti () hx hb hr rfl hlocks hK (((rfl : okI 109 p1 p2 = okD 109 p1 p2).trans ((if_neg c_116).trans (if_neg c_124))).symm) hP hD hS (Nat.le_of_ble_eq_true rfl) (Nat.le_of_ble_eq_true rfl) dX3_isInstruction_132
  · refine lv_tableIn (off := 95) (tgt := 96) hx hb dX3_isInstruction_1 (by decide) (by decide) (by decide) (by decide) ?_
    refine lv_iconst (v := 1) hx hb dX3_isInstruction_96 (by decide) ?_
    exact z_reti () hx hb hr rfl hlocks hK (rfl) hP hD hS (Nat.le_of_ble_eq_true rfl) (Nat.le_of_ble_eq_true rfl) dX3_isInstruction_97
  · refine lv_tableIn (off := 110) (tgt := 111) hx hb dX3_isInstruction_1 (by decide) (by decide) (by decide) (by decide) ?_
    refine lv_iload_n hx hb dX3_isInstruction_111 rfl (lv_at hl 1 rfl) ?_
    refine lv_iconst (v := 4) hx hb dX3_isInstruction_112 (by decide) ?_
    refine z_calli (va_runSN (As := [.int p1, .int 4]) (rest := []) ⟨hx, hb, hml, hown, hts⟩ (m_isBelow l D cy sa _ p1 4) ⟨va_cnB 2 hts GI_K588 rfl rfl rfl (hEn.1 _ K638) (hts _ K77) HD_yX11_isBelow ⟨Nat.le_of_ble_eq_true rfl, Nat.le_of_ble_eq_true rfl⟩, hts _ K587, trivial⟩ ⟨z_blind EX_ok, z_pre EX_ok hP hK hD hEn hS (z_free hD hS hA)⟩ rfl rfl hl.1 rfl (lv_room (Nat.le_of_ble_eq_true rfl)) dX3_isInstruction_113 ⟨Nat.le_of_ble_eq_true rfl, Nat.le_of_ble_eq_true rfl⟩) hD hS hA (fun r_113 u113_13 H locs hw_113 hP hD hS => ?_)
    have hP : va_P D vwCl [] H := hP
    have hD : va_D A [] := hD
    obtain rfl := hw_113
    refine lv_if_eq (tgt := 131) hx hb dX3_isInstruction_116 (by decide) (fun c_116 => ?_) (fun c_116 => ?_)
    · refine lv_iconst (v := 0) hx hb dX3_isInstruction_131 (by decide) ?_
      exact z_reti () hx hb hr rfl hlocks hK (((rfl : okI 111 p1 p2 = okD 111 p1 p2).trans (if_pos c_116)).symm) hP hD hS (Nat.le_of_ble_eq_true rfl) (Nat.le_of_ble_eq_true rfl) dX3_isInstruction_132
    · refine lv_iload_n hx hb dX3_isInstruction_119 rfl (lv_at hl 0 rfl) ?_
      refine lv_iload_n hx hb dX3_isInstruction_120 rfl (lv_at hl 2 rfl) ?_
      refine z_calli (va_runS (As := [.int 111, .int p2]) (rest := []) ⟨hx, hb, hml, hown, hts⟩ (m_isSecond l D cy sa _ 111 p2) (va_cwS 2 hts GS_RX3_50 rfl rfl rfl HD_yX3_isSecond ⟨Nat.le_of_ble_eq_true rfl, Nat.le_of_ble_eq_true rfl⟩) ⟨z_blind EX_ok, z_pre EX_ok hP hK hD hEn hS (z_free hD hS hA)⟩ rfl rfl hl.1 rfl (lv_room (Nat.le_of_ble_eq_true rfl)) dX3_isInstruction_121 ⟨Nat.le_of_ble_eq_true rfl, Nat.le_of_ble_eq_true rfl⟩) hD hS hA (fun r_121 u121_14 H locs hw_121 hP hD hS => ?_)
      have hP : va_P D vwCl [] H := hP
      have hD : va_D A [] := hD
      obtain rfl := hw_121
      refine lv_if_eq (tgt := 131) hx hb dX3_isInstruction_124 (by decide) (fun c_124 => ?_) (fun c_124 => ?_)
      · refine lv_iconst (v := 0) hx hb dX3_isInstruction_131 (by decide) ?_
        exact z_reti () hx hb hr rfl hlocks hK (((rfl : okI 111 p1 p2 = okD 111 p1 p2).trans ((if_neg c_116).trans (if_pos c_124))).symm) hP hD hS (Nat.le_of_ble_eq_true rfl) (Nat.le_of_ble_eq_true rfl) dX3_isInstruction_132
      · refine lv_iconst (v := 1) hx hb dX3_isInstruction_127 (by decide) ?_
        refine lv_goto (tgt := 132) hx hb dX3_isInstruction_128 (by decide) ?_
        exact z_reti () hx hb hr rfl hlocks hK (((rfl : okI 111 p1 p2 = okD 111 p1 p2).trans ((if_neg c_116).trans (if_neg c_124))).symm) hP hD hS (Nat.le_of_ble_eq_true rfl) (Nat.le_of_ble_eq_true rfl) dX3_isInstruction_132
  · refine lv_tableIn (off := 110) (tgt := 111) hx hb dX3_isInstruction_1 (by decide) (by decide) (by decide) (by decide) ?_
    refine lv_iload_n hx hb dX3_isInstruction_111 rfl (lv_at hl 1 rfl) ?_
    refine lv_iconst (v := 4) hx hb dX3_isInstruction_112 (by decide) ?_
    refine z_calli (va_runSN (As := [.int p1, .int 4]) (rest := []) ⟨hx, hb, hml, hown, hts⟩ (m_isBelow l D cy sa _ p1 4) ⟨va_cnB 2 hts GI_K588 rfl rfl rfl (hEn.1 _ K638) (hts _ K77) HD_yX11_isBelow ⟨Nat.le_of_ble_eq_true rfl, Nat.le_of_ble_eq_true rfl⟩, hts _ K587, trivial⟩ ⟨z_blind EX_ok, z_pre EX_ok hP hK hD hEn hS (z_free hD hS hA)⟩ rfl rfl hl.1 rfl (lv_room (Nat.le_of_ble_eq_true rfl)) dX3_isInstruction_113 ⟨Nat.le_of_ble_eq_true rfl, Nat.le_of_ble_eq_true rfl⟩) hD hS hA (fun r_113 u113_15 H locs hw_113 hP hD hS => ?_)
    have hP : va_P D vwCl [] H := hP
    have hD : va_D A [] := hD
    obtain rfl := hw_113
    refine lv_if_eq (tgt := 131) hx hb dX3_isInstruction_116 (by decide) (fun c_116 => ?_) (fun c_116 => ?_)
    · refine lv_iconst (v := 0) hx hb dX3_isInstruction_131 (by decide) ?_
      exact z_reti () hx hb hr rfl hlocks hK (((rfl : okI 112 p1 p2 = okD 112 p1 p2).trans (if_pos c_116)).symm) hP hD hS (Nat.le_of_ble_eq_true rfl) (Nat.le_of_ble_eq_true rfl) dX3_isInstruction_132
    · refine lv_iload_n hx hb dX3_isInstruction_119 rfl (lv_at hl 0 rfl) ?_
      refine lv_iload_n hx hb dX3_isInstruction_120 rfl (lv_at hl 2 rfl) ?_
      refine z_calli (va_runS (As := [.int 112, .int p2]) (rest := []) ⟨hx, hb, hml, hown, hts⟩ (m_isSecond l D cy sa _ 112 p2) (va_cwS 2 hts GS_RX3_50 rfl rfl rfl HD_yX3_isSecond ⟨Nat.le_of_ble_eq_true rfl, Nat.le_of_ble_eq_true rfl⟩) ⟨z_blind EX_ok, z_pre EX_ok hP hK hD hEn hS (z_free hD hS hA)⟩ rfl rfl hl.1 rfl (lv_room (Nat.le_of_ble_eq_true rfl)) dX3_isInstruction_121 ⟨Nat.le_of_ble_eq_true rfl, Nat.le_of_ble_eq_true rfl⟩) hD hS hA (fun r_121 u121_16 H locs hw_121 hP hD hS => ?_)
      have hP : va_P D vwCl [] H := hP
      have hD : va_D A [] := hD
      obtain rfl := hw_121
      refine lv_if_eq (tgt := 131) hx hb dX3_isInstruction_124 (by decide) (fun c_124 => ?_) (fun c_124 => ?_)
      · refine lv_iconst (v := 0) hx hb dX3_isInstruction_131 (by decide) ?_
        exact z_reti () hx hb hr rfl hlocks hK (((rfl : okI 112 p1 p2 = okD 112 p1 p2).trans ((if_neg c_116).trans (if_pos c_124))).symm) hP hD hS (Nat.le_of_ble_eq_true rfl) (Nat.le_of_ble_eq_true rfl) dX3_isInstruction_132
      · refine lv_iconst (v := 1) hx hb dX3_isInstruction_127 (by decide) ?_
        refine lv_goto (tgt := 132) hx hb dX3_isInstruction_128 (by decide) ?_
        exact z_reti () hx hb hr rfl hlocks hK (((rfl : okI 112 p1 p2 = okD 112 p1 p2).trans ((if_neg c_116).trans (if_neg c_124))).symm) hP hD hS (Nat.le_of_ble_eq_true rfl) (Nat.le_of_ble_eq_true rfl) dX3_isInstruction_132
  · refine lv_tableIn (off := 110) (tgt := 111) hx hb dX3_isInstruction_1 (by decide) (by decide) (by decide) (by decide) ?_
    refine lv_iload_n hx hb dX3_isInstruction_111 rfl (lv_at hl 1 rfl) ?_
    refine lv_iconst (v := 4) hx hb dX3_isInstruction_112 (by decide) ?_
    refine z_calli (va_runSN (As := [.int p1, .int 4]) (rest := []) ⟨hx, hb, hml, hown, hts⟩ (m_isBelow l D cy sa _ p1 4) ⟨va_cnB 2 hts GI_K588 rfl rfl rfl (hEn.1 _ K638) (hts _ K77) HD_yX11_isBelow ⟨Nat.le_of_ble_eq_true rfl, Nat.le_of_ble_eq_true rfl⟩, hts _ K587, trivial⟩ ⟨z_blind EX_ok, z_pre EX_ok hP hK hD hEn hS (z_free hD hS hA)⟩ rfl rfl hl.1 rfl (lv_room (Nat.le_of_ble_eq_true rfl)) dX3_isInstruction_113 ⟨Nat.le_of_ble_eq_true rfl, Nat.le_of_ble_eq_true rfl⟩) hD hS hA (fun r_113 u113_17 H locs hw_113 hP hD hS => ?_)
    have hP : va_P D vwCl [] H := hP
    have hD : va_D A [] := hD
    obtain rfl := hw_113
    refine lv_if_eq (tgt := 131) hx hb dX3_isInstruction_116 (by decide) (fun c_116 => ?_) (fun c_116 => ?_)
    · refine lv_iconst (v := 0) hx hb dX3_isInstruction_131 (by decide) ?_
      exact z_reti () hx hb hr rfl hlocks hK (((rfl : okI 113 p1 p2 = okD 113 p1 p2).trans (if_pos c_116)).symm) hP hD hS (Nat.le_of_ble_eq_true rfl) (Nat.le_of_ble_eq_true rfl) dX3_isInstruction_132
    · refine lv_iload_n hx hb dX3_isInstruction_119 rfl (lv_at hl 0 rfl) ?_
      refine lv_iload_n hx hb dX3_isInstruction_120 rfl (lv_at hl 2 rfl) ?_
      refine z_calli (va_runS (As := [.int 113, .int p2]) (rest := []) ⟨hx, hb, hml, hown, hts⟩ (m_isSecond l D cy sa _ 113 p2) (va_cwS 2 hts GS_RX3_50 rfl rfl rfl HD_yX3_isSecond ⟨Nat.le_of_ble_eq_true rfl, Nat.le_of_ble_eq_true rfl⟩) ⟨z_blind EX_ok, z_pre EX_ok hP hK hD hEn hS (z_free hD hS hA)⟩ rfl rfl hl.1 rfl (lv_room (Nat.le_of_ble_eq_true rfl)) dX3_isInstruction_121 ⟨Nat.le_of_ble_eq_true rfl, Nat.le_of_ble_eq_true rfl⟩) hD hS hA (fun r_121 u121_18 H locs hw_121 hP hD hS => ?_)
      have hP : va_P D vwCl [] H := hP
      have hD : va_D A [] := hD
      obtain rfl := hw_121
      refine lv_if_eq (tgt := 131) hx hb dX3_isInstruction_124 (by decide) (fun c_124 => ?_) (fun c_124 => ?_)
      · refine lv_iconst (v := 0) hx hb dX3_isInstruction_131 (by decide) ?_
        exact z_reti () hx hb hr rfl hlocks hK (((rfl : okI 113 p1 p2 = okD 113 p1 p2).trans ((if_neg c_116).trans (if_pos c_124))).symm) hP hD hS (Nat.le_of_ble_eq_true rfl) (Nat.le_of_ble_eq_true rfl) dX3_isInstruction_132
      · refine lv_iconst (v := 1) hx hb dX3_isInstruction_127 (by decide) ?_
        refine lv_goto (tgt := 132) hx hb dX3_isInstruction_128 (by decide) ?_
        exact z_reti () hx hb hr rfl hlocks hK (((rfl : okI 113 p1 p2 = okD 113 p1 p2).trans ((if_neg c_116).trans (if_neg c_124))).symm) hP hD hS (Nat.le_of_ble_eq_true rfl) (Nat.le_of_ble_eq_true rfl) dX3_isInstruction_132
  · refine lv_tableIn (off := 95) (tgt := 96) hx hb dX3_isInstruction_1 (by decide) (by decide) (by decide) (by decide) ?_
    refine lv_iconst (v := 1) hx hb dX3_isInstruction_96 (by decide) ?_
    exact z_reti () hx hb hr rfl hlocks hK (rfl) hP hD hS (Nat.le_of_ble_eq_true rfl) (Nat.le_of_ble_eq_true rfl) dX3_isInstruction_97
  · refine lv_tableIn (off := 110) (tgt := 111) hx hb dX3_isInstruction_1 (by decide) (by decide) (by decide) (by decide) ?_
    refine lv_iload_n hx hb dX3_isInstruction_111 rfl (lv_at hl 1 rfl) ?_
    refine lv_iconst (v := 4) hx hb dX3_isInstruction_112 (by decide) ?_
    refine z_calli (va_runSN (As := [.int p1, .int 4]) (rest := []) ⟨hx, hb, hml, hown, hts⟩ (m_isBelow l D cy sa _ p1 4) ⟨va_cnB 2 hts GI_K588 rfl rfl rfl (hEn.1 _ K638) (hts _ K77) HD_yX11_isBelow ⟨Nat.le_of_ble_eq_true rfl, Nat.le_of_ble_eq_true rfl⟩, hts _ K587, trivial⟩ ⟨z_blind EX_ok, z_pre EX_ok hP hK hD hEn hS (z_free hD hS hA)⟩ rfl rfl hl.1 rfl (lv_room (Nat.le_of_ble_eq_true rfl)) dX3_isInstruction_113 ⟨Nat.le_of_ble_eq_true rfl, Nat.le_of_ble_eq_true rfl⟩) hD hS hA (fun r_113 u113_19 H locs hw_113 hP hD hS => ?_)
    have hP : va_P D vwCl [] H := hP
    have hD : va_D A [] := hD
    obtain rfl := hw_113
    refine lv_if_eq (tgt := 131) hx hb dX3_isInstruction_116 (by decide) (fun c_116 => ?_) (fun c_116 => ?_)
    · refine lv_iconst (v := 0) hx hb dX3_isInstruction_131 (by decide) ?_
      exact z_reti () hx hb hr rfl hlocks hK (((rfl : okI 115 p1 p2 = okD 115 p1 p2).trans (if_pos c_116)).symm) hP hD hS (Nat.le_of_ble_eq_true rfl) (Nat.le_of_ble_eq_true rfl) dX3_isInstruction_132
    · refine lv_iload_n hx hb dX3_isInstruction_119 rfl (lv_at hl 0 rfl) ?_
      refine lv_iload_n hx hb dX3_isInstruction_120 rfl (lv_at hl 2 rfl) ?_
      refine z_calli (va_runS (As := [.int 115, .int p2]) (rest := []) ⟨hx, hb, hml, hown, hts⟩ (m_isSecond l D cy sa _ 115 p2) (va_cwS 2 hts GS_RX3_50 rfl rfl rfl HD_yX3_isSecond ⟨Nat.le_of_ble_eq_true rfl, Nat.le_of_ble_eq_true rfl⟩) ⟨z_blind EX_ok, z_pre EX_ok hP hK hD hEn hS (z_free hD hS hA)⟩ rfl rfl hl.1 rfl (lv_room (Nat.le_of_ble_eq_true rfl)) dX3_isInstruction_121 ⟨Nat.le_of_ble_eq_true rfl, Nat.le_of_ble_eq_true rfl⟩) hD hS hA (fun r_121 u121_20 H locs hw_121 hP hD hS => ?_)
      have hP : va_P D vwCl [] H := hP
      have hD : va_D A [] := hD
      obtain rfl := hw_121
      refine lv_if_eq (tgt := 131) hx hb dX3_isInstruction_124 (by decide) (fun c_124 => ?_) (fun c_124 => ?_)
      · refine lv_iconst (v := 0) hx hb dX3_isInstruction_131 (by decide) ?_
        exact z_reti () hx hb hr rfl hlocks hK (((rfl : okI 115 p1 p2 = okD 115 p1 p2).trans ((if_neg c_116).trans (if_pos c_124))).symm) hP hD hS (Nat.le_of_ble_eq_true rfl) (Nat.le_of_ble_eq_true rfl) dX3_isInstruction_132
      · refine lv_iconst (v := 1) hx hb dX3_isInstruction_127 (by decide) ?_
        refine lv_goto (tgt := 132) hx hb dX3_isInstruction_128 (by decide) ?_
        exact z_reti () hx hb hr rfl hlocks hK (((rfl : okI 115 p1 p2 = okD 115 p1 p2).trans ((if_neg c_116).trans (if_neg c_124))).symm) hP hD hS (Nat.le_of_ble_eq_true rfl) (Nat.le_of_ble_eq_true rfl) dX3_isInstruction_132
  · refine lv_tableIn (off := 110) (tgt := 111) hx hb dX3_isInstruction_1 (by decide) (by decide) (by decide) (by decide) ?_
    refine lv_iload_n hx hb dX3_isInstruction_111 rfl (lv_at hl 1 rfl) ?_
    refine lv_iconst (v := 4) hx hb dX3_isInstruction_112 (by decide) ?_
    refine z_calli (va_runSN (As := [.int p1, .int 4]) (rest := []) ⟨hx, hb, hml, hown, hts⟩ (m_isBelow l D cy sa _ p1 4) ⟨va_cnB 2 hts GI_K588 rfl rfl rfl (hEn.1 _ K638) (hts _ K77) HD_yX11_isBelow ⟨Nat.le_of_ble_eq_true rfl, Nat.le_of_ble_eq_true rfl⟩, hts _ K587, trivial⟩ ⟨z_blind EX_ok, z_pre EX_ok hP hK hD hEn hS (z_free hD hS hA)⟩ rfl rfl hl.1 rfl (lv_room (Nat.le_of_ble_eq_true rfl)) dX3_isInstruction_113 ⟨Nat.le_of_ble_eq_true rfl, Nat.le_of_ble_eq_true rfl⟩) hD hS hA (fun r_113 u113_21 H locs hw_113 hP hD hS => ?_)
    have hP : va_P D vwCl [] H := hP
    have hD : va_D A [] := hD
    obtain rfl := hw_113
    refine lv_if_eq (tgt := 131) hx hb dX3_isInstruction_116 (by decide) (fun c_116 => ?_) (fun c_116 => ?_)
    · refine lv_iconst (v := 0) hx hb dX3_isInstruction_131 (by decide) ?_
      exact z_reti () hx hb hr rfl hlocks hK (((rfl : okI 116 p1 p2 = okD 116 p1 p2).trans (if_pos c_116)).symm) hP hD hS (Nat.le_of_ble_eq_true rfl) (Nat.le_of_ble_eq_true rfl) dX3_isInstruction_132
    · refine lv_iload_n hx hb dX3_isInstruction_119 rfl (lv_at hl 0 rfl) ?_
      refine lv_iload_n hx hb dX3_isInstruction_120 rfl (lv_at hl 2 rfl) ?_
      refine z_calli (va_runS (As := [.int 116, .int p2]) (rest := []) ⟨hx, hb, hml, hown, hts⟩ (m_isSecond l D cy sa _ 116 p2) (va_cwS 2 hts GS_RX3_50 rfl rfl rfl HD_yX3_isSecond ⟨Nat.le_of_ble_eq_true rfl, Nat.le_of_ble_eq_true rfl⟩) ⟨z_blind EX_ok, z_pre EX_ok hP hK hD hEn hS (z_free hD hS hA)⟩ rfl rfl hl.1 rfl (lv_room (Nat.le_of_ble_eq_true rfl)) dX3_isInstruction_121 ⟨Nat.le_of_ble_eq_true rfl, Nat.le_of_ble_eq_true rfl⟩) hD hS hA (fun r_121 u121_22 H locs hw_121 hP hD hS => ?_)
      have hP : va_P D vwCl [] H := hP
      have hD : va_D A [] := hD
      obtain rfl := hw_121
      refine lv_if_eq (tgt := 131) hx hb dX3_isInstruction_124 (by decide) (fun c_124 => ?_) (fun c_124 => ?_)
      · refine lv_iconst (v := 0) hx hb dX3_isInstruction_131 (by decide) ?_
        exact z_reti () hx hb hr rfl hlocks hK (((rfl : okI 116 p1 p2 = okD 116 p1 p2).trans ((if_neg c_116).trans (if_pos c_124))).symm) hP hD hS (Nat.le_of_ble_eq_true rfl) (Nat.le_of_ble_eq_true rfl) dX3_isInstruction_132
      · refine lv_iconst (v := 1) hx hb dX3_isInstruction_127 (by decide) ?_
        refine lv_goto (tgt := 132) hx hb dX3_isInstruction_128 (by decide) ?_
        exact z_reti () hx hb hr rfl hlocks hK (((rfl : okI 116 p1 p2 = okD 116 p1 p2).trans ((if_neg c_116).trans (if_neg c_124))).symm) hP hD hS (Nat.le_of_ble_eq_true rfl) (Nat.le_of_ble_eq_true rfl) dX3_isInstruction_132
  · refine lv_tableIn (off := 110) (tgt := 111) hx hb dX3_isInstruction_1 (by decide) (by decide) (by decide) (by decide) ?_
    refine lv_iload_n hx hb dX3_isInstruction_111 rfl (lv_at hl 1 rfl) ?_
    refine lv_iconst (v := 4) hx hb dX3_isInstruction_112 (by decide) ?_
    refine z_calli (va_runSN (As := [.int p1, .int 4]) (rest := []) ⟨hx, hb, hml, hown, hts⟩ (m_isBelow l D cy sa _ p1 4) ⟨va_cnB 2 hts GI_K588 rfl rfl rfl (hEn.1 _ K638) (hts _ K77) HD_yX11_isBelow ⟨Nat.le_of_ble_eq_true rfl, Nat.le_of_ble_eq_true rfl⟩, hts _ K587, trivial⟩ ⟨z_blind EX_ok, z_pre EX_ok hP hK hD hEn hS (z_free hD hS hA)⟩ rfl rfl hl.1 rfl (lv_room (Nat.le_of_ble_eq_true rfl)) dX3_isInstruction_113 ⟨Nat.le_of_ble_eq_true rfl, Nat.le_of_ble_eq_true rfl⟩) hD hS hA (fun r_113 u113_23 H locs hw_113 hP hD hS => ?_)
    have hP : va_P D vwCl [] H := hP
    have hD : va_D A [] := hD
    obtain rfl := hw_113
    refine lv_if_eq (tgt := 131) hx hb dX3_isInstruction_116 (by decide) (fun c_116 => ?_) (fun c_116 => ?_)
    · refine lv_iconst (v := 0) hx hb dX3_isInstruction_131 (by decide) ?_
      exact z_reti () hx hb hr rfl hlocks hK (((rfl : okI 117 p1 p2 = okD 117 p1 p2).trans (if_pos c_116)).symm) hP hD hS (Nat.le_of_ble_eq_true rfl) (Nat.le_of_ble_eq_true rfl) dX3_isInstruction_132
    · refine lv_iload_n hx hb dX3_isInstruction_119 rfl (lv_at hl 0 rfl) ?_
      refine lv_iload_n hx hb dX3_isInstruction_120 rfl (lv_at hl 2 rfl) ?_
      refine z_calli (va_runS (As := [.int 117, .int p2]) (rest := []) ⟨hx, hb, hml, hown, hts⟩ (m_isSecond l D cy sa _ 117 p2) (va_cwS 2 hts GS_RX3_50 rfl rfl rfl HD_yX3_isSecond ⟨Nat.le_of_ble_eq_true rfl, Nat.le_of_ble_eq_true rfl⟩) ⟨z_blind EX_ok, z_pre EX_ok hP hK hD hEn hS (z_free hD hS hA)⟩ rfl rfl hl.1 rfl (lv_room (Nat.le_of_ble_eq_true rfl)) dX3_isInstruction_121 ⟨Nat.le_of_ble_eq_true rfl, Nat.le_of_ble_eq_true rfl⟩) hD hS hA (fun r_121 u121_24 H locs hw_121 hP hD hS => ?_)
      have hP : va_P D vwCl [] H := hP
      have hD : va_D A [] := hD
      obtain rfl := hw_121
      refine lv_if_eq (tgt := 131) hx hb dX3_isInstruction_124 (by decide) (fun c_124 => ?_) (fun c_124 => ?_)
      · refine lv_iconst (v := 0) hx hb dX3_isInstruction_131 (by decide) ?_
        exact z_reti () hx hb hr rfl hlocks hK (((rfl : okI 117 p1 p2 = okD 117 p1 p2).trans ((if_neg c_116).trans (if_pos c_124))).symm) hP hD hS (Nat.le_of_ble_eq_true rfl) (Nat.le_of_ble_eq_true rfl) dX3_isInstruction_132
      · refine lv_iconst (v := 1) hx hb dX3_isInstruction_127 (by decide) ?_
        refine lv_goto (tgt := 132) hx hb dX3_isInstruction_128 (by decide) ?_
        exact z_reti () hx hb hr rfl hlocks hK (((rfl : okI 117 p1 p2 = okD 117 p1 p2).trans ((if_neg c_116).trans (if_neg c_124))).symm) hP hD hS (Nat.le_of_ble_eq_true rfl) (Nat.le_of_ble_eq_true rfl) dX3_isInstruction_132
  · refine lv_tableIn (off := 110) (tgt := 111) hx hb dX3_isInstruction_1 (by decide) (by decide) (by decide) (by decide) ?_
    refine lv_iload_n hx hb dX3_isInstruction_111 rfl (lv_at hl 1 rfl) ?_
    refine lv_iconst (v := 4) hx hb dX3_isInstruction_112 (by decide) ?_
    refine z_calli (va_runSN (As := [.int p1, .int 4]) (rest := []) ⟨hx, hb, hml, hown, hts⟩ (m_isBelow l D cy sa _ p1 4) ⟨va_cnB 2 hts GI_K588 rfl rfl rfl (hEn.1 _ K638) (hts _ K77) HD_yX11_isBelow ⟨Nat.le_of_ble_eq_true rfl, Nat.le_of_ble_eq_true rfl⟩, hts _ K587, trivial⟩ ⟨z_blind EX_ok, z_pre EX_ok hP hK hD hEn hS (z_free hD hS hA)⟩ rfl rfl hl.1 rfl (lv_room (Nat.le_of_ble_eq_true rfl)) dX3_isInstruction_113 ⟨Nat.le_of_ble_eq_true rfl, Nat.le_of_ble_eq_true rfl⟩) hD hS hA (fun r_113 u113_25 H locs hw_113 hP hD hS => ?_)
    have hP : va_P D vwCl [] H := hP
    have hD : va_D A [] := hD
    obtain rfl := hw_113
    refine lv_if_eq (tgt := 131) hx hb dX3_isInstruction_116 (by decide) (fun c_116 => ?_) (fun c_116 => ?_)
    · refine lv_iconst (v := 0) hx hb dX3_isInstruction_131 (by decide) ?_
      exact z_reti () hx hb hr rfl hlocks hK (((rfl : okI 118 p1 p2 = okD 118 p1 p2).trans (if_pos c_116)).symm) hP hD hS (Nat.le_of_ble_eq_true rfl) (Nat.le_of_ble_eq_true rfl) dX3_isInstruction_132
    · refine lv_iload_n hx hb dX3_isInstruction_119 rfl (lv_at hl 0 rfl) ?_
      refine lv_iload_n hx hb dX3_isInstruction_120 rfl (lv_at hl 2 rfl) ?_
      refine z_calli (va_runS (As := [.int 118, .int p2]) (rest := []) ⟨hx, hb, hml, hown, hts⟩ (m_isSecond l D cy sa _ 118 p2) (va_cwS 2 hts GS_RX3_50 rfl rfl rfl HD_yX3_isSecond ⟨Nat.le_of_ble_eq_true rfl, Nat.le_of_ble_eq_true rfl⟩) ⟨z_blind EX_ok, z_pre EX_ok hP hK hD hEn hS (z_free hD hS hA)⟩ rfl rfl hl.1 rfl (lv_room (Nat.le_of_ble_eq_true rfl)) dX3_isInstruction_121 ⟨Nat.le_of_ble_eq_true rfl, Nat.le_of_ble_eq_true rfl⟩) hD hS hA (fun r_121 u121_26 H locs hw_121 hP hD hS => ?_)
      have hP : va_P D vwCl [] H := hP
      have hD : va_D A [] := hD
      obtain rfl := hw_121
      refine lv_if_eq (tgt := 131) hx hb dX3_isInstruction_124 (by decide) (fun c_124 => ?_) (fun c_124 => ?_)
      · refine lv_iconst (v := 0) hx hb dX3_isInstruction_131 (by decide) ?_
        exact z_reti () hx hb hr rfl hlocks hK (((rfl : okI 118 p1 p2 = okD 118 p1 p2).trans ((if_neg c_116).trans (if_pos c_124))).symm) hP hD hS (Nat.le_of_ble_eq_true rfl) (Nat.le_of_ble_eq_true rfl) dX3_isInstruction_132
      · refine lv_iconst (v := 1) hx hb dX3_isInstruction_127 (by decide) ?_
        refine lv_goto (tgt := 132) hx hb dX3_isInstruction_128 (by decide) ?_
        exact z_reti () hx hb hr rfl hlocks hK (((rfl : okI 118 p1 p2 = okD 118 p1 p2).trans ((if_neg c_116).trans (if_neg c_124))).symm) hP hD hS (Nat.le_of_ble_eq_true rfl) (Nat.le_of_ble_eq_true rfl) dX3_isInstruction_132
  · refine lv_tableIn (off := 110) (tgt := 111) hx hb dX3_isInstruction_1 (by decide) (by decide) (by decide) (by decide) ?_
    refine lv_iload_n hx hb dX3_isInstruction_111 rfl (lv_at hl 1 rfl) ?_
    refine lv_iconst (v := 4) hx hb dX3_isInstruction_112 (by decide) ?_
    refine z_calli (va_runSN (As := [.int p1, .int 4]) (rest := []) ⟨hx, hb, hml, hown, hts⟩ (m_isBelow l D cy sa _ p1 4) ⟨va_cnB 2 hts GI_K588 rfl rfl rfl (hEn.1 _ K638) (hts _ K77) HD_yX11_isBelow ⟨Nat.le_of_ble_eq_true rfl, Nat.le_of_ble_eq_true rfl⟩, hts _ K587, trivial⟩ ⟨z_blind EX_ok, z_pre EX_ok hP hK hD hEn hS (z_free hD hS hA)⟩ rfl rfl hl.1 rfl (lv_room (Nat.le_of_ble_eq_true rfl)) dX3_isInstruction_113 ⟨Nat.le_of_ble_eq_true rfl, Nat.le_of_ble_eq_true rfl⟩) hD hS hA (fun r_113 u113_27 H locs hw_113 hP hD hS => ?_)
    have hP : va_P D vwCl [] H := hP
    have hD : va_D A [] := hD
    obtain rfl := hw_113
    refine lv_if_eq (tgt := 131) hx hb dX3_isInstruction_116 (by decide) (fun c_116 => ?_) (fun c_116 => ?_)
    · refine lv_iconst (v := 0) hx hb dX3_isInstruction_131 (by decide) ?_
      exact z_reti () hx hb hr rfl hlocks hK (((rfl : okI 119 p1 p2 = okD 119 p1 p2).trans (if_pos c_116)).symm) hP hD hS (Nat.le_of_ble_eq_true rfl) (Nat.le_of_ble_eq_true rfl) dX3_isInstruction_132
    · refine lv_iload_n hx hb dX3_isInstruction_119 rfl (lv_at hl 0 rfl) ?_
      refine lv_iload_n hx hb dX3_isInstruction_120 rfl (lv_at hl 2 rfl) ?_
      refine z_calli (va_runS (As := [.int 119, .int p2]) (rest := []) ⟨hx, hb, hml, hown, hts⟩ (m_isSecond l D cy sa _ 119 p2) (va_cwS 2 hts GS_RX3_50 rfl rfl rfl HD_yX3_isSecond ⟨Nat.le_of_ble_eq_true rfl, Nat.le_of_ble_eq_true rfl⟩) ⟨z_blind EX_ok, z_pre EX_ok hP hK hD hEn hS (z_free hD hS hA)⟩ rfl rfl hl.1 rfl (lv_room (Nat.le_of_ble_eq_true rfl)) dX3_isInstruction_121 ⟨Nat.le_of_ble_eq_true rfl, Nat.le_of_ble_eq_true rfl⟩) hD hS hA (fun r_121 u121_28 H locs hw_121 hP hD hS => ?_)
      have hP : va_P D vwCl [] H := hP
      have hD : va_D A [] := hD
      obtain rfl := hw_121
      refine lv_if_eq (tgt := 131) hx hb dX3_isInstruction_124 (by decide) (fun c_124 => ?_) (fun c_124 => ?_)
      · refine lv_iconst (v := 0) hx hb dX3_isInstruction_131 (by decide) ?_
        exact z_reti () hx hb hr rfl hlocks hK (((rfl : okI 119 p1 p2 = okD 119 p1 p2).trans ((if_neg c_116).trans (if_pos c_124))).symm) hP hD hS (Nat.le_of_ble_eq_true rfl) (Nat.le_of_ble_eq_true rfl) dX3_isInstruction_132
      · refine lv_iconst (v := 1) hx hb dX3_isInstruction_127 (by decide) ?_
        refine lv_goto (tgt := 132) hx hb dX3_isInstruction_128 (by decide) ?_
        exact z_reti () hx hb hr rfl hlocks hK (((rfl : okI 119 p1 p2 = okD 119 p1 p2).trans ((if_neg c_116).trans (if_neg c_124))).symm) hP hD hS (Nat.le_of_ble_eq_true rfl) (Nat.le_of_ble_eq_true rfl) dX3_isInstruction_132
  · refine lv_tableIn (off := 95) (tgt := 96) hx hb dX3_isInstruction_1 (by decide) (by decide) (by decide) (by decide) ?_
    refine lv_iconst (v := 1) hx hb dX3_isInstruction_96 (by decide) ?_
    exact z_reti () hx hb hr rfl hlocks hK (rfl) hP hD hS (Nat.le_of_ble_eq_true rfl) (Nat.le_of_ble_eq_true rfl) dX3_isInstruction_97
set_option maxHeartbeats 4000000 in
set_option maxRecDepth 100000 in
theorem m_needInstr1 (l : Launch) (D : va_G) (cy : Nat → ClassId) (sa : Nat → Nat) (sz : Nat) (p0 p1 p2 : Int32) (h : okI p0 p1 p2 = 1) : Met l yX11_needInstruction (Cond.code yX11_needInstruction cX11_needInstruction 3 none :: ALL) ({ frames := 3, cells := 0, slots := 0, locals := 64 }) (zPc D vwCl (TY cy) (EX sa) [.int p0, .int p1, .int p2] [] sz) (va_Qv (fun _ => True) (zB D vwCl (TY cy) (S := Unit) (fun u => []) (va_A [] sz)) (va_A [] sz)) 0 0 (va_A [] sz) := by
  refine z_start (Qc := fun A => va_Qv (fun _ => True) (zB D vwCl (TY cy) (S := Unit) (fun u => []) A) A) PN_RX11 (Nat.le_of_ble_eq_true rfl) ?_
  intro p e s m below meth c A ls hx hb hr hml hts hown hlocks hin hA hP hK hD hS hEn hl
  have hown : s.vm.findClass RX11 = some m.cls := hown
  have hl : lv_has ls 3 [(0, .int p0), (1, .int p1), (2, .int p2)] := hl
  have hS0 := hS
  refine lv_iload_n hx hb dX11_needInstruction_0 rfl (lv_at hl 0 rfl) ?_
  refine lv_iload_n hx hb dX11_needInstruction_1 rfl (lv_at hl 1 rfl) ?_
  refine lv_iload_n hx hb dX11_needInstruction_2 rfl (lv_at hl 2 rfl) ?_
  refine z_calli (va_runS (As := [.int p0, .int p1, .int p2]) (rest := []) ⟨hx, hb, hml, hown, hts⟩ (m_isInstr l D cy sa _ p0 p1 p2) (va_cwS 3 hts GS_RX11_522 rfl rfl rfl HD_yX3_isInstruction ⟨Nat.le_of_ble_eq_true rfl, Nat.le_of_ble_eq_true rfl⟩) ⟨z_blind EX_ok, z_pre EX_ok hP hK hD hEn hS (z_free hD hS hA)⟩ rfl rfl hl.1 rfl (lv_room (Nat.le_of_ble_eq_true rfl)) dX11_needInstruction_3 ⟨Nat.le_of_ble_eq_true rfl, Nat.le_of_ble_eq_true rfl⟩) hD hS hA (fun r_3 u3 H locs hw_3 hP hD hS => ?_)
  have hP : va_P D vwCl [] H := hP
  have hD : va_D A [] := hD
  obtain rfl := hw_3
  refine lv_if_ne (tgt := 20) hx hb dX11_needInstruction_6 (by decide) (fun _ => ?_) (fun c_6 => absurd c_6 (by rw [h]; decide))
  exact z_retv () hx hb hr hlocks hK (trivial) hP hD hS (Nat.le_of_ble_eq_true rfl) (Nat.le_of_ble_eq_true rfl) dX11_needInstruction_20
set_option maxHeartbeats 4000000 in
set_option maxRecDepth 100000 in
theorem m_needInstr0 (l : Launch) (hfl : l.stackTraces = false) (D : va_G) (cy : Nat → ClassId) (sa : Nat → Nat) (sz : Nat) (p0 p1 p2 : Int32) (h : okI p0 p1 p2 = 0) : vx_Met l yX11_needInstruction (Cond.code yX11_needInstruction cX11_needInstruction 3 none :: ALL) ({ frames := 7, cells := 1, slots := 6, locals := 82 }) (zPc D vwCl (TY cy) (EX sa) [.int p0, .int p1, .int p2] [] sz) (va_Qv (fun _ => False) (zB D vwCl (TY cy) (S := Unit) (fun u => []) (va_A [] sz)) (va_A [] sz)) (zX D vwCl (TY cy) (True) "java/lang/IllegalArgumentException" [] (va_A [] sz)) 1 6 (va_A [] sz) := by
  refine z_startX (Qc := fun A => va_Qv (fun _ => False) (zB D vwCl (TY cy) (S := Unit) (fun u => []) A) A) (XC := fun A => zX D vwCl (TY cy) (True) "java/lang/IllegalArgumentException" [] A) PN_RX11 (Nat.le_of_ble_eq_true rfl) ?_
  intro p e s m below meth c A ls hx hb hr hml hts hown hlocks hT hA hP hK hD hS hEn hl
  have hown : s.vm.findClass RX11 = some m.cls := hown
  have hl : lv_has ls 3 [(0, .int p0), (1, .int p1), (2, .int p2)] := hl
  have hS0 := hS
  refine lv_iload_n hx hb dX11_needInstruction_0 rfl (lv_at hl 0 rfl) ?_
  refine lv_iload_n hx hb dX11_needInstruction_1 rfl (lv_at hl 1 rfl) ?_
  refine lv_iload_n hx hb dX11_needInstruction_2 rfl (lv_at hl 2 rfl) ?_
  refine z_calli (va_runS (As := [.int p0, .int p1, .int p2]) (rest := []) ⟨hx, hb, hml, hown, hts⟩ (m_isInstr l D cy sa _ p0 p1 p2) (va_cwS 3 hts GS_RX11_522 rfl rfl rfl HD_yX3_isInstruction ⟨Nat.le_of_ble_eq_true rfl, Nat.le_of_ble_eq_true rfl⟩) ⟨z_blind EX_ok, z_pre EX_ok hP hK hD hEn hS (z_free hD hS hA)⟩ rfl rfl hl.1 rfl (lv_room (Nat.le_of_ble_eq_true rfl)) dX11_needInstruction_3 ⟨Nat.le_of_ble_eq_true rfl, Nat.le_of_ble_eq_true rfl⟩) hD hS hA (fun r_3 u3 H locs hw_3 hP hD hS => ?_)
  have hP : va_P D vwCl [] H := hP
  have hD : va_D A [] := hD
  obtain rfl := hw_3
  refine lv_if_ne (tgt := 20) hx hb dX11_needInstruction_6 (by decide) (fun c_6 => absurd h c_6) (fun _ => ?_)
  exact TH_175W (text := "no such kind, or a number is out of range") (k := 35) K749 K102 rfl hx hb hfl hown hts hEn hK hS (trivial) (hl.1.trans hml.symm) dX11_needInstruction_9 dX11_needInstruction_12 dX11_needInstruction_13 dX11_needInstruction_16 dX11_needInstruction_19 hT hlocks (Nat.le_of_ble_eq_true rfl) (Nat.le_of_ble_eq_true rfl) (Nat.le_of_ble_eq_true rfl) (Nat.le_of_ble_eq_true rfl) (Nat.le_of_ble_eq_true rfl) (Nat.le_of_ble_eq_true rfl)
set_option maxHeartbeats 4000000 in
set_option maxRecDepth 100000 in
theorem m_code0 (l : Launch) (hfl : l.stackTraces = false) (D : va_G) (cy : Nat → ClassId) (sa : Nat → Nat) (sz : Nat) (x : Nat) (p0 p1 p2 : Int32) (h : okI p0 p1 p2 = 0) : vx_Met l yX11_code (Cond.code yX11_code cX11_code 5 (some .int) :: ALL) ({ frames := 8, cells := 1, slots := 6, locals := 104 }) (zPc D vwCl (TY cy) (EX sa) [.ref x, .int p0, .int p1, .int p2] [] sz) (va_Qi (fun _ _ => False) (zB D vwCl (TY cy) (S := Unit) (fun u => []) (va_A [] sz)) (va_A [] sz)) (zX D vwCl (TY cy) (True) "java/lang/IllegalArgumentException" [] (va_A [] sz)) 1 6 (va_A [] sz) := by
  refine z_startX (Qc := fun A => va_Qi (fun _ _ => False) (zB D vwCl (TY cy) (S := Unit) (fun u => []) A) A) (XC := fun A => zX D vwCl (TY cy) (True) "java/lang/IllegalArgumentException" [] A) PN_RX11 (Nat.le_of_ble_eq_true rfl) ?_
  intro p e s m below meth c A ls hx hb hr hml hts hown hlocks hT hA hP hK hD hS hEn hl
  have hown : s.vm.findClass RX11 = some m.cls := hown
  have hl : lv_has ls 5 [(0, .ref x), (1, .int p0), (2, .int p1), (3, .int p2)] := hl
  have hS0 := hS
  refine lv_iload_n hx hb dX11_code_0 rfl (lv_at hl 1 rfl) ?_
  refine lv_iload_n hx hb dX11_code_1 rfl (lv_at hl 2 rfl) ?_
  refine lv_iload_n hx hb dX11_code_2 rfl (lv_at hl 3 rfl) ?_
  refine z_xcallv (vx_runS (As := [.int p0, .int p1, .int p2]) (rest := []) ⟨hx, hb, hml, hown, hts⟩ (m_needInstr0 l hfl D cy sa _ p0 p1 p2 h) (va_cwS 3 hts GS_RX11_98 rfl rfl rfl HD_yX11_needInstruction ⟨Nat.le_of_ble_eq_true rfl, Nat.le_of_ble_eq_true rfl⟩) ⟨z_blind EX_ok, z_pre EX_ok hP hK hD hEn hS (z_free hD hS hA)⟩ rfl rfl hl.1 rfl (lv_room (Nat.le_of_ble_eq_true rfl)) dX11_code_3 ⟨Nat.le_of_ble_eq_true rfl, Nat.le_of_ble_eq_true rfl⟩) hD hS hA (fun ce q9 H locs hpx hP hD hS h1 h2 h3 => ?_) (fun u3 H locs hw_3 hP hD hS => hw_3.elim)
  exact z_out hT hlocks hK (trivial) zP0 zD0 hS h1 h2 h3 (Nat.le_of_ble_eq_true rfl) (Nat.le_of_ble_eq_true rfl)
set_option maxHeartbeats 4000000 in
set_option maxRecDepth 100000 in
theorem m_isBelow01 (l : Launch) (D : va_G) (cy : Nat → ClassId) (sa : Nat → Nat) (sz : Nat) : Met l yX11_isBelow (Cond.code yX11_isBelow cX11_isBelow 2 (some .boolean) :: ALL) ({ frames := 0, cells := 0, slots := 0, locals := 0 }) (zPc D vwCl (TY cy) (EX sa) [.int 0, .int 1] [] sz) (va_Qi (fun r _ => r = 1) (zB D vwCl (TY cy) (S := Unit) (fun u => []) (va_A [] sz)) (va_A [] sz)) 0 0 (va_A [] sz) := by
  refine z_start (Qc := fun A => va_Qi (fun r _ => r = 1) (zB D vwCl (TY cy) (S := Unit) (fun u => []) A) A) PN_RX11 (Nat.le_of_ble_eq_true rfl) ?_
  intro p e s m below meth c A ls hx hb hr hml hts hown hlocks hin hA hP hK hD hS hEn hl
  have hown : s.vm.findClass RX11 = some m.cls := hown
  have hl : lv_has ls 2 [(0, .int 0), (1, .int 1)] := hl
  have hS0 := hS
  refine lv_iload_n hx hb dX11_isBelow_0 rfl (lv_at hl 0 rfl) ?_
  refine lv_if_lt (tgt := 13) hx hb dX11_isBelow_1 (by decide) (fun c_1 => absurd c_1 (by decide)) (fun _ => ?_)
  refine lv_iload_n hx hb dX11_isBelow_4 rfl (lv_at hl 0 rfl) ?_
  refine lv_iload_n hx hb dX11_isBelow_5 rfl (lv_at hl 1 rfl) ?_
  refine lv_icmp_ge (tgt := 13) hx hb dX11_isBelow_6 (by decide) (fun c_6 => absurd c_6 (by decide)) (fun _ => ?_)
  refine lv_iconst (v := 1) hx hb dX11_isBelow_9 (by decide) ?_
  refine lv_goto (tgt := 14) hx hb dX11_isBelow_10 (by decide) ?_
  exact z_reti () hx hb hr rfl hlocks hK (rfl) hP hD hS (Nat.le_of_ble_eq_true rfl) (Nat.le_of_ble_eq_true rfl) dX11_isBelow_14
set_option maxHeartbeats 4000000 in
set_option maxRecDepth 100000 in
theorem m_hasPlace1 (l : Launch) (D : va_G) (cy : Nat → ClassId) (sa : Nat → Nat) (pg : Nat) (sz : Nat) (pf pl pc1 pc2 pk1 pk2 pk3 pk4 pk5 : Nat) : Met l yX3_hasPlace (Cond.code yX3_hasPlace cX3_hasPlace 2 (some .boolean) :: ALL) ({ frames := 1, cells := 0, slots := 0, locals := 21 }) (zPc D vwCl (TY cy) (EX sa) [.ref pg, .int 0] [(pg, .inr (9, [.ref pf, .ref pl, .ref pc1, .ref pc2, .ref pk1, .ref pk2, .ref pk3, .ref pk4, .ref pk5, .int 1]))] sz) (va_Qi (fun r _ => r = 1) (zB D vwCl (TY cy) (S := Unit) (fun u => [(pg, .inr (9, [.ref pf, .ref pl, .ref pc1, .ref pc2, .ref pk1, .ref pk2, .ref pk3, .ref pk4, .ref pk5, .int 1]))]) (va_A [(pg, .inr (9, [.ref pf, .ref pl, .ref pc1, .ref pc2, .ref pk1, .ref pk2, .ref pk3, .ref pk4, .ref pk5, .int 1]))] sz)) (va_A [(pg, .inr (9, [.ref pf, .ref pl, .ref pc1, .ref pc2, .ref pk1, .ref pk2, .ref pk3, .ref pk4, .ref pk5, .int 1]))] sz)) 0 0 (va_A [(pg, .inr (9, [.ref pf, .ref pl, .ref pc1, .ref pc2, .ref pk1, .ref pk2, .ref pk3, .ref pk4, .ref pk5, .int 1]))] sz) := by
  refine z_start (Qc := fun A => va_Qi (fun r _ => r = 1) (zB D vwCl (TY cy) (S := Unit) (fun u => [(pg, .inr (9, [.ref pf, .ref pl, .ref pc1, .ref pc2, .ref pk1, .ref pk2, .ref pk3, .ref pk4, .ref pk5, .int 1]))]) A) A) PN_RX3 (Nat.le_of_ble_eq_true rfl) ?_
  intro p e s m below meth c A ls hx hb hr hml hts hown hlocks hin hA hP hK hD hS hEn hl
  have hown : s.vm.findClass RX3 = some m.cls := hown
  have hl : lv_has ls 2 [(0, .ref pg), (1, .int 0)] := hl
  have hS0 := hS
  refine lv_iload_n hx hb dX3_hasPlace_0 rfl (lv_at hl 1 rfl) ?_
  refine lv_aload_n hx hb dX3_hasPlace_1 rfl (lv_at hl 0 rfl) ?_
  refine va_get (D := D) (ci := 9) (v := .int 1) (C := RX3) (T := TX3) (N := 10) hx hb hts inX3 hown hK hP 0 rfl rfl 9 (by decide) (hts _ K171) (fun _ h9 => h9) rfl dX3_hasPlace_2 ?_
  have hPc := hP.sub (ws' := []) [] rfl
  have hDc := hD.sub (ws' := []) [] (by decide) rfl
  have hFc := va_free (wc := []) hD hS hA [] rfl
  refine z_calliJ (wr := [(pg, .inr (9, [.ref pf, .ref pl, .ref pc1, .ref pc2, .ref pk1, .ref pk2, .ref pk3, .ref pk4, .ref pk5, .int 1]))]) (va_runSN (As := [.int 0, .int 1]) (rest := []) ⟨hx, hb, hml, hown, hts⟩ (m_isBelow01 l D cy sa _) ⟨va_cnB 2 hts GI_K588 rfl rfl rfl (hEn.1 _ K638) (hts _ K77) HD_yX11_isBelow ⟨Nat.le_of_ble_eq_true rfl, Nat.le_of_ble_eq_true rfl⟩, hts _ K587, trivial⟩ ⟨z_blind EX_ok, z_pre EX_ok hPc hK hDc hEn hS hFc⟩ rfl rfl hl.1 rfl (lv_room (Nat.le_of_ble_eq_true rfl)) dX3_hasPlace_5 ⟨Nat.le_of_ble_eq_true rfl, Nat.le_of_ble_eq_true rfl⟩) hP hD hS hA [] [0] rfl rfl (by decide) (by decide) (fun r_5 u5 H locs hw_5 hP hD hS => ?_)
  have hP : va_P D vwCl [(pg, .inr (9, [.ref pf, .ref pl, .ref pc1, .ref pc2, .ref pk1, .ref pk2, .ref pk3, .ref pk4, .ref pk5, .int 1]))] H := hP
  have hD : va_D A [(pg, .inr (9, [.ref pf, .ref pl, .ref pc1, .ref pc2, .ref pk1, .ref pk2, .ref pk3, .ref pk4, .ref pk5, .int 1]))] := hD
  obtain rfl := hw_5
  exact z_reti () hx hb hr rfl hlocks hK (rfl) hP hD hS (Nat.le_of_ble_eq_true rfl) (Nat.le_of_ble_eq_true rfl) dX3_hasPlace_8
set_option maxHeartbeats 4000000 in
set_option maxRecDepth 100000 in
theorem m_put (l : Launch) (D : va_G) (cy : Nat → ClassId) (sa : Nat → Nat) (pg pk1 pk2 pk3 : Nat) (sz : Nat) (pf pl pc1 pc2 pk4 pk5 : Nat) (p0 p1 p2 : Int32) : Met l yX3_put (Cond.code yX3_put cX3_put 5 none :: ALL) ({ frames := 2, cells := 0, slots := 0, locals := 42 }) (zPc D vwCl (TY cy) (EX sa) [.ref pg, .int 0, .int p0, .int p1, .int p2] [(pg, .inr (9, [.ref pf, .ref pl, .ref pc1, .ref pc2, .ref pk1, .ref pk2, .ref pk3, .ref pk4, .ref pk5, .int 1])), (pk1, .inl (cy 1, 60, .inl (fun _ => 0))), (pk2, .inl (cy 0, 60, .inl (fun _ => 0))), (pk3, .inl (cy 0, 60, .inl (fun _ => 0)))] sz) (va_Qv (fun _ => True) (zB D vwCl (TY cy) (S := Unit) (fun u => [(pg, .inr (9, [.ref pf, .ref pl, .ref pc1, .ref pc2, .ref pk1, .ref pk2, .ref pk3, .ref pk4, .ref pk5, .int 1]))]) (va_A [(pg, .inr (9, [.ref pf, .ref pl, .ref pc1, .ref pc2, .ref pk1, .ref pk2, .ref pk3, .ref pk4, .ref pk5, .int 1])), (pk1, .inl (cy 1, 60, .inl (fun _ => 0))), (pk2, .inl (cy 0, 60, .inl (fun _ => 0))), (pk3, .inl (cy 0, 60, .inl (fun _ => 0)))] sz)) (va_A [(pg, .inr (9, [.ref pf, .ref pl, .ref pc1, .ref pc2, .ref pk1, .ref pk2, .ref pk3, .ref pk4, .ref pk5, .int 1])), (pk1, .inl (cy 1, 60, .inl (fun _ => 0))), (pk2, .inl (cy 0, 60, .inl (fun _ => 0))), (pk3, .inl (cy 0, 60, .inl (fun _ => 0)))] sz)) 0 0 (va_A [(pg, .inr (9, [.ref pf, .ref pl, .ref pc1, .ref pc2, .ref pk1, .ref pk2, .ref pk3, .ref pk4, .ref pk5, .int 1])), (pk1, .inl (cy 1, 60, .inl (fun _ => 0))), (pk2, .inl (cy 0, 60, .inl (fun _ => 0))), (pk3, .inl (cy 0, 60, .inl (fun _ => 0)))] sz) := by
  refine z_start (Qc := fun A => va_Qv (fun _ => True) (zB D vwCl (TY cy) (S := Unit) (fun u => [(pg, .inr (9, [.ref pf, .ref pl, .ref pc1, .ref pc2, .ref pk1, .ref pk2, .ref pk3, .ref pk4, .ref pk5, .int 1]))]) A) A) PN_RX3 (Nat.le_of_ble_eq_true rfl) ?_
  intro p e s m below meth c A ls hx hb hr hml hts hown hlocks hin hA hP hK hD hS hEn hl
  have hown : s.vm.findClass RX3 = some m.cls := hown
  have hl : lv_has ls 5 [(0, .ref pg), (1, .int 0), (2, .int p0), (3, .int p1), (4, .int p2)] := hl
  have hS0 := hS
  refine lv_aload_n hx hb dX3_put_0 rfl (lv_at hl 0 rfl) ?_
  refine lv_iload_n hx hb dX3_put_1 rfl (lv_at hl 1 rfl) ?_
  have hPc := hP.sub (ws' := [(pg, .inr (9, [.ref pf, .ref pl, .ref pc1, .ref pc2, .ref pk1, .ref pk2, .ref pk3, .ref pk4, .ref pk5, .int 1]))]) [0] rfl
  have hDc := hD.sub (ws' := [(pg, .inr (9, [.ref pf, .ref pl, .ref pc1, .ref pc2, .ref pk1, .ref pk2, .ref pk3, .ref pk4, .ref pk5, .int 1]))]) [0] (by decide) rfl
  have hFc := va_free (wc := [(pg, .inr (9, [.ref pf, .ref pl, .ref pc1, .ref pc2, .ref pk1, .ref pk2, .ref pk3, .ref pk4, .ref pk5, .int 1]))]) hD hS hA [0] rfl
  refine z_calliJ (wr := [(pk1, .inl (cy 1, 60, .inl (fun _ => 0))), (pk2, .inl (cy 0, 60, .inl (fun _ => 0))), (pk3, .inl (cy 0, 60, .inl (fun _ => 0)))]) (va_runV (As := [.int 0]) (rest := []) ⟨hx, hb, hml, hown, hts⟩ (m_hasPlace1 l D cy sa pg _ pf pl pc1 pc2 pk1 pk2 pk3 pk4 pk5) (cwV 1 hts GV_RX3_66 rfl rfl rfl ⟨rfl, HD_yX3_hasPlace⟩ ⟨Nat.le_of_ble_eq_true rfl, Nat.le_of_ble_eq_true rfl⟩) ⟨z_blind EX_ok, va_recv hK hPc (ci := 9) (q0 := 0) rfl rfl, z_pre EX_ok hPc hK hDc hEn hS hFc⟩ rfl rfl hl.1 rfl (lv_room (Nat.le_of_ble_eq_true rfl)) dX3_put_2 ⟨Nat.le_of_ble_eq_true rfl, Nat.le_of_ble_eq_true rfl⟩) hP hD hS hA [0] [1, 2, 3] rfl rfl (by decide) (by decide) (fun r_2 u2 H locs hw_2 hP hD hS => ?_)
  have hP : va_P D vwCl [(pk1, .inl (cy 1, 60, .inl (fun _ => 0))), (pk2, .inl (cy 0, 60, .inl (fun _ => 0))), (pk3, .inl (cy 0, 60, .inl (fun _ => 0))), (pg, .inr (9, [.ref pf, .ref pl, .ref pc1, .ref pc2, .ref pk1, .ref pk2, .ref pk3, .ref pk4, .ref pk5, .int 1]))] H := hP
  have hD : va_D A [(pk1, .inl (cy 1, 60, .inl (fun _ => 0))), (pk2, .inl (cy 0, 60, .inl (fun _ => 0))), (pk3, .inl (cy 0, 60, .inl (fun _ => 0))), (pg, .inr (9, [.ref pf, .ref pl, .ref pc1, .ref pc2, .ref pk1, .ref pk2, .ref pk3, .ref pk4, .ref pk5, .int 1]))] := hD
  obtain rfl := hw_2
  refine lv_if_eq (tgt := 30) hx hb dX3_put_5 (by decide) (fun c_5 => absurd c_5 (by decide)) (fun _ => ?_)
  refine lv_aload_n hx hb dX3_put_8 rfl (lv_at hl 0 rfl) ?_
  refine va_get (D := D) (ci := 9) (v := .ref pk1) (C := RX3) (T := TX3) (N := 10) hx hb hts inX3 hown hK hP 3 rfl rfl 4 (by decide) (hts _ K166) (fun _ h9 => h9) rfl dX3_put_9 ?_
  refine lv_iload_n hx hb dX3_put_12 rfl (lv_at hl 1 rfl) ?_
  refine lv_iload_n hx hb dX3_put_13 rfl (lv_at hl 2 rfl) ?_
  refine va_cast hx hb hK hP hD hS 0 1 rfl rfl (by unfold vp_in; decide) dX3_put_14 (fun H locs hP hD hS => ?_)
  have hP : va_P D vwCl [(pk1, .inl (cy 1, 60, .inl (upd (fun _ => 0) 0 (vp_nar .char p0)))), (pk2, .inl (cy 0, 60, .inl (fun _ => 0))), (pk3, .inl (cy 0, 60, .inl (fun _ => 0))), (pg, .inr (9, [.ref pf, .ref pl, .ref pc1, .ref pc2, .ref pk1, .ref pk2, .ref pk3, .ref pk4, .ref pk5, .int 1]))] H := hP
  have hD : va_D A [(pk1, .inl (cy 1, 60, .inl (upd (fun _ => 0) 0 (vp_nar .char p0)))), (pk2, .inl (cy 0, 60, .inl (fun _ => 0))), (pk3, .inl (cy 0, 60, .inl (fun _ => 0))), (pg, .inr (9, [.ref pf, .ref pl, .ref pc1, .ref pc2, .ref pk1, .ref pk2, .ref pk3, .ref pk4, .ref pk5, .int 1]))] := hD
  refine lv_aload_n hx hb dX3_put_15 rfl (lv_at hl 0 rfl) ?_
  refine va_get (D := D) (ci := 9) (v := .ref pk2) (C := RX3) (T := TX3) (N := 10) hx hb hts inX3 hown hK hP 3 rfl rfl 5 (by decide) (hts _ K167) (fun _ h9 => h9) rfl dX3_put_16 ?_
  refine lv_iload_n hx hb dX3_put_19 rfl (lv_at hl 1 rfl) ?_
  refine lv_iload_n hx hb dX3_put_20 rfl (lv_at hl 3 rfl) ?_
  refine va_iast hx hb hK hP hD hS 1 0 rfl rfl (by unfold vp_in; decide) dX3_put_21 (fun H locs hP hD hS => ?_)
  have hP : va_P D vwCl [(pk1, .inl (cy 1, 60, .inl (upd (fun _ => 0) 0 (vp_nar .char p0)))), (pk2, .inl (cy 0, 60, .inl (upd (fun _ => 0) 0 p1))), (pk3, .inl (cy 0, 60, .inl (fun _ => 0))), (pg, .inr (9, [.ref pf, .ref pl, .ref pc1, .ref pc2, .ref pk1, .ref pk2, .ref pk3, .ref pk4, .ref pk5, .int 1]))] H := hP
  have hD : va_D A [(pk1, .inl (cy 1, 60, .inl (upd (fun _ => 0) 0 (vp_nar .char p0)))), (pk2, .inl (cy 0, 60, .inl (upd (fun _ => 0) 0 p1))), (pk3, .inl (cy 0, 60, .inl (fun _ => 0))), (pg, .inr (9, [.ref pf, .ref pl, .ref pc1, .ref pc2, .ref pk1, .ref pk2, .ref pk3, .ref pk4, .ref pk5, .int 1]))] := hD
  refine lv_aload_n hx hb dX3_put_22 rfl (lv_at hl 0 rfl) ?_
  refine va_get (D := D) (ci := 9) (v := .ref pk3) (C := RX3) (T := TX3) (N := 10) hx hb hts inX3 hown hK hP 3 rfl rfl 6 (by decide) (hts _ K168) (fun _ h9 => h9) rfl dX3_put_23 ?_
  refine lv_iload_n hx hb dX3_put_26 rfl (lv_at hl 1 rfl) ?_
  refine lv_iload hx hb dX3_put_27 (lv_at hl 4 rfl) ?_
  refine va_iast hx hb hK hP hD hS 2 0 rfl rfl (by unfold vp_in; decide) dX3_put_29 (fun H locs hP hD hS => ?_)
  have hP : va_P D vwCl [(pk1, .inl (cy 1, 60, .inl (upd (fun _ => 0) 0 (vp_nar .char p0)))), (pk2, .inl (cy 0, 60, .inl (upd (fun _ => 0) 0 p1))), (pk3, .inl (cy 0, 60, .inl (upd (fun _ => 0) 0 p2))), (pg, .inr (9, [.ref pf, .ref pl, .ref pc1, .ref pc2, .ref pk1, .ref pk2, .ref pk3, .ref pk4, .ref pk5, .int 1]))] H := hP
  have hD : va_D A [(pk1, .inl (cy 1, 60, .inl (upd (fun _ => 0) 0 (vp_nar .char p0)))), (pk2, .inl (cy 0, 60, .inl (upd (fun _ => 0) 0 p1))), (pk3, .inl (cy 0, 60, .inl (upd (fun _ => 0) 0 p2))), (pg, .inr (9, [.ref pf, .ref pl, .ref pc1, .ref pc2, .ref pk1, .ref pk2, .ref pk3, .ref pk4, .ref pk5, .int 1]))] := hD
  have hP := hP.sub (ws' := [(pg, .inr (9, [.ref pf, .ref pl, .ref pc1, .ref pc2, .ref pk1, .ref pk2, .ref pk3, .ref pk4, .ref pk5, .int 1]))]) [3] rfl
  have hD := hD.sub (ws' := [(pg, .inr (9, [.ref pf, .ref pl, .ref pc1, .ref pc2, .ref pk1, .ref pk2, .ref pk3, .ref pk4, .ref pk5, .int 1]))]) [3] (by decide) rfl
  exact z_retv () hx hb hr hlocks hK (trivial) hP hD hS (Nat.le_of_ble_eq_true rfl) (Nat.le_of_ble_eq_true rfl) dX3_put_30
set_option maxHeartbeats 4000000 in
set_option maxRecDepth 100000 in
theorem m_append (l : Launch) (D : va_G) (cy : Nat → ClassId) (sa : Nat → Nat) (pg pk1 pk2 pk3 pk4 pk5 : Nat) (sz : Nat) (pf pl pc1 pc2 : Nat) (p0 p1 p2 : Int32) : Met l yX3_append (Cond.code yX3_append cX3_append 4 (some .int) :: ALL) ({ frames := 3, cells := 0, slots := 0, locals := 66 }) (zPc D vwCl (TY cy) (EX sa) [.ref pg, .int p0, .int p1, .int p2] [(pg, .inr (9, [.ref pf, .ref pl, .ref pc1, .ref pc2, .ref pk1, .ref pk2, .ref pk3, .ref pk4, .ref pk5, .int 0])), (pk1, .inl (cy 1, 60, .inl (fun _ => 0))), (pk2, .inl (cy 0, 60, .inl (fun _ => 0))), (pk3, .inl (cy 0, 60, .inl (fun _ => 0))), (pk4, .inl (cy 0, 60, .inl (fun _ => 0))), (pk5, .inl (cy 1, 60, .inl (fun _ => 0)))] sz) (va_Qi (fun r _ => r = 0) (zB D vwCl (TY cy) (S := Unit) (fun u => []) (va_A [(pg, .inr (9, [.ref pf, .ref pl, .ref pc1, .ref pc2, .ref pk1, .ref pk2, .ref pk3, .ref pk4, .ref pk5, .int 0])), (pk1, .inl (cy 1, 60, .inl (fun _ => 0))), (pk2, .inl (cy 0, 60, .inl (fun _ => 0))), (pk3, .inl (cy 0, 60, .inl (fun _ => 0))), (pk4, .inl (cy 0, 60, .inl (fun _ => 0))), (pk5, .inl (cy 1, 60, .inl (fun _ => 0)))] sz)) (va_A [(pg, .inr (9, [.ref pf, .ref pl, .ref pc1, .ref pc2, .ref pk1, .ref pk2, .ref pk3, .ref pk4, .ref pk5, .int 0])), (pk1, .inl (cy 1, 60, .inl (fun _ => 0))), (pk2, .inl (cy 0, 60, .inl (fun _ => 0))), (pk3, .inl (cy 0, 60, .inl (fun _ => 0))), (pk4, .inl (cy 0, 60, .inl (fun _ => 0))), (pk5, .inl (cy 1, 60, .inl (fun _ => 0)))] sz)) 0 0 (va_A [(pg, .inr (9, [.ref pf, .ref pl, .ref pc1, .ref pc2, .ref pk1, .ref pk2, .ref pk3, .ref pk4, .ref pk5, .int 0])), (pk1, .inl (cy 1, 60, .inl (fun _ => 0))), (pk2, .inl (cy 0, 60, .inl (fun _ => 0))), (pk3, .inl (cy 0, 60, .inl (fun _ => 0))), (pk4, .inl (cy 0, 60, .inl (fun _ => 0))), (pk5, .inl (cy 1, 60, .inl (fun _ => 0)))] sz) := by
  refine z_start (Qc := fun A => va_Qi (fun r _ => r = 0) (zB D vwCl (TY cy) (S := Unit) (fun u => []) A) A) PN_RX3 (Nat.le_of_ble_eq_true rfl) ?_
  intro p e s m below meth c A ls hx hb hr hml hts hown hlocks hin hA hP hK hD hS hEn hl
  have hown : s.vm.findClass RX3 = some m.cls := hown
  have hl : lv_has ls 4 [(0, .ref pg), (1, .int p0), (2, .int p1), (3, .int p2)] := hl
  have hS0 := hS
  refine lv_aload_n hx hb dX3_append_0 rfl (lv_at hl 0 rfl) ?_
  have hPc := hP.sub (ws' := [(pg, .inr (9, [.ref pf, .ref pl, .ref pc1, .ref pc2, .ref pk1, .ref pk2, .ref pk3, .ref pk4, .ref pk5, .int 0]))]) [0] rfl
  have hDc := hD.sub (ws' := [(pg, .inr (9, [.ref pf, .ref pl, .ref pc1, .ref pc2, .ref pk1, .ref pk2, .ref pk3, .ref pk4, .ref pk5, .int 0]))]) [0] (by decide) rfl
  have hFc := va_free (wc := [(pg, .inr (9, [.ref pf, .ref pl, .ref pc1, .ref pc2, .ref pk1, .ref pk2, .ref pk3, .ref pk4, .ref pk5, .int 0]))]) hD hS hA [0] rfl
  refine z_calliJ (wr := [(pk1, .inl (cy 1, 60, .inl (fun _ => 0))), (pk2, .inl (cy 0, 60, .inl (fun _ => 0))), (pk3, .inl (cy 0, 60, .inl (fun _ => 0))), (pk4, .inl (cy 0, 60, .inl (fun _ => 0))), (pk5, .inl (cy 1, 60, .inl (fun _ => 0)))]) (va_runV (As := []) (rest := []) ⟨hx, hb, hml, hown, hts⟩ (m_pgFull l D cy sa pg _ pf pl pc1 pc2 pk1 pk2 pk3 pk4 pk5) (cwV 0 hts GV_RX3_58 rfl rfl rfl ⟨rfl, HD_yX3_isFull⟩ ⟨Nat.le_of_ble_eq_true rfl, Nat.le_of_ble_eq_true rfl⟩) ⟨z_blind EX_ok, va_recv hK hPc (ci := 9) (q0 := 0) rfl rfl, z_pre EX_ok hPc hK hDc hEn hS hFc⟩ rfl rfl hl.1 rfl (lv_room (Nat.le_of_ble_eq_true rfl)) dX3_append_1 ⟨Nat.le_of_ble_eq_true rfl, Nat.le_of_ble_eq_true rfl⟩) hP hD hS hA [0] [1, 2, 3, 4, 5] rfl rfl (by decide) (by decide) (fun r_1 u1 H locs hw_1 hP hD hS => ?_)
  have hP : va_P D vwCl [(pk1, .inl (cy 1, 60, .inl (fun _ => 0))), (pk2, .inl (cy 0, 60, .inl (fun _ => 0))), (pk3, .inl (cy 0, 60, .inl (fun _ => 0))), (pk4, .inl (cy 0, 60, .inl (fun _ => 0))), (pk5, .inl (cy 1, 60, .inl (fun _ => 0))), (pg, .inr (9, [.ref pf, .ref pl, .ref pc1, .ref pc2, .ref pk1, .ref pk2, .ref pk3, .ref pk4, .ref pk5, .int 0]))] H := hP
  have hD : va_D A [(pk1, .inl (cy 1, 60, .inl (fun _ => 0))), (pk2, .inl (cy 0, 60, .inl (fun _ => 0))), (pk3, .inl (cy 0, 60, .inl (fun _ => 0))), (pk4, .inl (cy 0, 60, .inl (fun _ => 0))), (pk5, .inl (cy 1, 60, .inl (fun _ => 0))), (pg, .inr (9, [.ref pf, .ref pl, .ref pc1, .ref pc2, .ref pk1, .ref pk2, .ref pk3, .ref pk4, .ref pk5, .int 0]))] := hD
  obtain rfl := hw_1
  refine lv_if_eq (tgt := 9) hx hb dX3_append_4 (by decide) (fun _ => ?_) (fun c_4 => absurd (by decide) c_4)
  refine lv_aload_n hx hb dX3_append_9 rfl (lv_at hl 0 rfl) ?_
  refine va_get (D := D) (ci := 9) (v := .ref pk4) (C := RX3) (T := TX3) (N := 10) hx hb hts inX3 hown hK hP 5 rfl rfl 7 (by decide) (hts _ K169) (fun _ h9 => h9) rfl dX3_append_10 ?_
  refine lv_aload_n hx hb dX3_append_13 rfl (lv_at hl 0 rfl) ?_
  refine va_get (D := D) (ci := 9) (v := .int 0) (C := RX3) (T := TX3) (N := 10) hx hb hts inX3 hown hK hP 5 rfl rfl 9 (by decide) (hts _ K171) (fun _ h9 => h9) rfl dX3_append_14 ?_
  refine lv_iconst (v := (-1)) hx hb dX3_append_17 (by decide) ?_
  refine va_iast hx hb hK hP hD hS 3 0 rfl rfl (by unfold vp_in; decide) dX3_append_18 (fun H locs hP hD hS => ?_)
  have hP : va_P D vwCl [(pk1, .inl (cy 1, 60, .inl (fun _ => 0))), (pk2, .inl (cy 0, 60, .inl (fun _ => 0))), (pk3, .inl (cy 0, 60, .inl (fun _ => 0))), (pk4, .inl (cy 0, 60, .inl (upd (fun _ => 0) 0 (-1)))), (pk5, .inl (cy 1, 60, .inl (fun _ => 0))), (pg, .inr (9, [.ref pf, .ref pl, .ref pc1, .ref pc2, .ref pk1, .ref pk2, .ref pk3, .ref pk4, .ref pk5, .int 0]))] H := hP
  have hD : va_D A [(pk1, .inl (cy 1, 60, .inl (fun _ => 0))), (pk2, .inl (cy 0, 60, .inl (fun _ => 0))), (pk3, .inl (cy 0, 60, .inl (fun _ => 0))), (pk4, .inl (cy 0, 60, .inl (upd (fun _ => 0) 0 (-1)))), (pk5, .inl (cy 1, 60, .inl (fun _ => 0))), (pg, .inr (9, [.ref pf, .ref pl, .ref pc1, .ref pc2, .ref pk1, .ref pk2, .ref pk3, .ref pk4, .ref pk5, .int 0]))] := hD
  refine lv_aload_n hx hb dX3_append_19 rfl (lv_at hl 0 rfl) ?_
  refine va_get (D := D) (ci := 9) (v := .ref pk5) (C := RX3) (T := TX3) (N := 10) hx hb hts inX3 hown hK hP 5 rfl rfl 8 (by decide) (hts _ K170) (fun _ h9 => h9) rfl dX3_append_20 ?_
  refine lv_aload_n hx hb dX3_append_23 rfl (lv_at hl 0 rfl) ?_
  refine va_get (D := D) (ci := 9) (v := .int 0) (C := RX3) (T := TX3) (N := 10) hx hb hts inX3 hown hK hP 5 rfl rfl 9 (by decide) (hts _ K171) (fun _ h9 => h9) rfl dX3_append_24 ?_
  refine lv_bipush (v := 45) hx hb dX3_append_27 (by decide) ?_
  refine va_cast hx hb hK hP hD hS 4 1 rfl rfl (by unfold vp_in; decide) dX3_append_29 (fun H locs hP hD hS => ?_)
  have hP : va_P D vwCl [(pk1, .inl (cy 1, 60, .inl (fun _ => 0))), (pk2, .inl (cy 0, 60, .inl (fun _ => 0))), (pk3, .inl (cy 0, 60, .inl (fun _ => 0))), (pk4, .inl (cy 0, 60, .inl (upd (fun _ => 0) 0 (-1)))), (pk5, .inl (cy 1, 60, .inl (upd (fun _ => 0) 0 (vp_nar .char 45)))), (pg, .inr (9, [.ref pf, .ref pl, .ref pc1, .ref pc2, .ref pk1, .ref pk2, .ref pk3, .ref pk4, .ref pk5, .int 0]))] H := hP
  have hD : va_D A [(pk1, .inl (cy 1, 60, .inl (fun _ => 0))), (pk2, .inl (cy 0, 60, .inl (fun _ => 0))), (pk3, .inl (cy 0, 60, .inl (fun _ => 0))), (pk4, .inl (cy 0, 60, .inl (upd (fun _ => 0) 0 (-1)))), (pk5, .inl (cy 1, 60, .inl (upd (fun _ => 0) 0 (vp_nar .char 45)))), (pg, .inr (9, [.ref pf, .ref pl, .ref pc1, .ref pc2, .ref pk1, .ref pk2, .ref pk3, .ref pk4, .ref pk5, .int 0]))] := hD
  refine lv_aload_n hx hb dX3_append_30 rfl (lv_at hl 0 rfl) ?_
  refine lv_dup hx hb dX3_append_31 rfl ?_
  refine va_get (D := D) (ci := 9) (v := .int 0) (C := RX3) (T := TX3) (N := 10) hx hb hts inX3 hown hK hP 5 rfl rfl 9 (by decide) (hts _ K171) (fun _ h9 => h9) rfl dX3_append_32 ?_
  refine lv_iconst (v := 1) hx hb dX3_append_35 (by decide) ?_
  refine lv_iadd hx hb dX3_append_36 ?_
  refine lv_topi (fun v_1 hv_1 => ?_)
  obtain rfl : v_1 = 1 := hv_1.trans (by decide)
  refine va_put (D := D) (ci := 9) (v := .int 1) (ty := .int) (C := RX3) (T := TX3) (N := 10) hx hb hts inX3 tyX3 tyX3_ok nmX3 hown hK hP hD hS 5 rfl rfl 9 (by decide) (hts _ K171) (fun _ h9 => h9) rfl (by decide +kernel) rfl rfl (Nat.le_of_ble_eq_true rfl) dX3_append_37 (fun H locs hP hD hS => ?_)
  have hP : va_P D vwCl [(pk1, .inl (cy 1, 60, .inl (fun _ => 0))), (pk2, .inl (cy 0, 60, .inl (fun _ => 0))), (pk3, .inl (cy 0, 60, .inl (fun _ => 0))), (pk4, .inl (cy 0, 60, .inl (upd (fun _ => 0) 0 (-1)))), (pk5, .inl (cy 1, 60, .inl (upd (fun _ => 0) 0 (vp_nar .char 45)))), (pg, .inr (9, [.ref pf, .ref pl, .ref pc1, .ref pc2, .ref pk1, .ref pk2, .ref pk3, .ref pk4, .ref pk5, .int 1]))] H := hP
  have hD : va_D A [(pk1, .inl (cy 1, 60, .inl (fun _ => 0))), (pk2, .inl (cy 0, 60, .inl (fun _ => 0))), (pk3, .inl (cy 0, 60, .inl (fun _ => 0))), (pk4, .inl (cy 0, 60, .inl (upd (fun _ => 0) 0 (-1)))), (pk5, .inl (cy 1, 60, .inl (upd (fun _ => 0) 0 (vp_nar .char 45)))), (pg, .inr (9, [.ref pf, .ref pl, .ref pc1, .ref pc2, .ref pk1, .ref pk2, .ref pk3, .ref pk4, .ref pk5, .int 1]))] := hD
  refine lv_aload_n hx hb dX3_append_40 rfl (lv_at hl 0 rfl) ?_
  refine lv_aload_n hx hb dX3_append_41 rfl (lv_at hl 0 rfl) ?_
  refine va_get (D := D) (ci := 9) (v := .int 1) (C := RX3) (T := TX3) (N := 10) hx hb hts inX3 hown hK hP 5 rfl rfl 9 (by decide) (hts _ K171) (fun _ h9 => h9) rfl dX3_append_42 ?_
  refine lv_iconst (v := 1) hx hb dX3_append_45 (by decide) ?_
  refine lv_isub hx hb dX3_append_46 ?_
  refine lv_topi (fun v_2 hv_2 => ?_)
  obtain rfl : v_2 = 0 := hv_2.trans (by decide)
  refine lv_iload_n hx hb dX3_append_47 rfl (lv_at hl 1 rfl) ?_
  refine lv_iload_n hx hb dX3_append_48 rfl (lv_at hl 2 rfl) ?_
  refine lv_iload_n hx hb dX3_append_49 rfl (lv_at hl 3 rfl) ?_
  have hPc := hP.sub (ws' := [(pg, .inr (9, [.ref pf, .ref pl, .ref pc1, .ref pc2, .ref pk1, .ref pk2, .ref pk3, .ref pk4, .ref pk5, .int 1])), (pk1, .inl (cy 1, 60, .inl (fun _ => 0))), (pk2, .inl (cy 0, 60, .inl (fun _ => 0))), (pk3, .inl (cy 0, 60, .inl (fun _ => 0)))]) [5, 0, 1, 2] rfl
  have hDc := hD.sub (ws' := [(pg, .inr (9, [.ref pf, .ref pl, .ref pc1, .ref pc2, .ref pk1, .ref pk2, .ref pk3, .ref pk4, .ref pk5, .int 1])), (pk1, .inl (cy 1, 60, .inl (fun _ => 0))), (pk2, .inl (cy 0, 60, .inl (fun _ => 0))), (pk3, .inl (cy 0, 60, .inl (fun _ => 0)))]) [5, 0, 1, 2] (by decide) rfl
  have hFc := va_free (wc := [(pg, .inr (9, [.ref pf, .ref pl, .ref pc1, .ref pc2, .ref pk1, .ref pk2, .ref pk3, .ref pk4, .ref pk5, .int 1])), (pk1, .inl (cy 1, 60, .inl (fun _ => 0))), (pk2, .inl (cy 0, 60, .inl (fun _ => 0))), (pk3, .inl (cy 0, 60, .inl (fun _ => 0)))]) hD hS hA [5, 0, 1, 2] rfl
  refine z_callvJ (wr := [(pk4, .inl (cy 0, 60, .inl (upd (fun _ => 0) 0 (-1)))), (pk5, .inl (cy 1, 60, .inl (upd (fun _ => 0) 0 (vp_nar .char 45))))]) (va_runV (As := [.int 0, .int p0, .int p1, .int p2]) (rest := []) ⟨hx, hb, hml, hown, hts⟩ (m_put l D cy sa pg pk1 pk2 pk3 _ pf pl pc1 pc2 pk4 pk5 p0 p1 p2) (cwV 4 hts GV_RX3_62 rfl rfl rfl ⟨rfl, HD_yX3_put⟩ ⟨Nat.le_of_ble_eq_true rfl, Nat.le_of_ble_eq_true rfl⟩) ⟨z_blind EX_ok, va_recv hK hPc (ci := 9) (q0 := 0) rfl rfl, z_pre EX_ok hPc hK hDc hEn hS hFc⟩ rfl rfl hl.1 rfl (lv_room (Nat.le_of_ble_eq_true rfl)) dX3_append_50 ⟨Nat.le_of_ble_eq_true rfl, Nat.le_of_ble_eq_true rfl⟩) hP hD hS hA [5, 0, 1, 2] [3, 4] rfl rfl (by decide) (by decide) (fun u50 H locs hw_50 hP hD hS => ?_)
  have hP : va_P D vwCl [(pk4, .inl (cy 0, 60, .inl (upd (fun _ => 0) 0 (-1)))), (pk5, .inl (cy 1, 60, .inl (upd (fun _ => 0) 0 (vp_nar .char 45)))), (pg, .inr (9, [.ref pf, .ref pl, .ref pc1, .ref pc2, .ref pk1, .ref pk2, .ref pk3, .ref pk4, .ref pk5, .int 1]))] H := hP
  have hD : va_D A [(pk4, .inl (cy 0, 60, .inl (upd (fun _ => 0) 0 (-1)))), (pk5, .inl (cy 1, 60, .inl (upd (fun _ => 0) 0 (vp_nar .char 45)))), (pg, .inr (9, [.ref pf, .ref pl, .ref pc1, .ref pc2, .ref pk1, .ref pk2, .ref pk3, .ref pk4, .ref pk5, .int 1]))] := hD
  refine lv_aload_n hx hb dX3_append_53 rfl (lv_at hl 0 rfl) ?_
  refine va_get (D := D) (ci := 9) (v := .int 1) (C := RX3) (T := TX3) (N := 10) hx hb hts inX3 hown hK hP 2 rfl rfl 9 (by decide) (hts _ K171) (fun _ h9 => h9) rfl dX3_append_54 ?_
  refine lv_iconst (v := 1) hx hb dX3_append_57 (by decide) ?_
  refine lv_isub hx hb dX3_append_58 ?_
  refine lv_topi (fun v_3 hv_3 => ?_)
  obtain rfl : v_3 = 0 := hv_3.trans (by decide)
  have hP := hP.sub (ws' := []) [] rfl
  have hD := hD.sub (ws' := []) [] (by decide) rfl
  exact z_reti () hx hb hr rfl hlocks hK (rfl) hP hD hS (Nat.le_of_ble_eq_true rfl) (Nat.le_of_ble_eq_true rfl) dX3_append_59
set_option maxHeartbeats 4000000 in
set_option maxRecDepth 100000 in
theorem m_code1 (l : Launch) (D : va_G) (cy : Nat → ClassId) (sa : Nat → Nat) (x pg pk1 pk2 pk3 pk4 pk5 nw nwc nwt nwt0 nwt0r nwt0s nwt1 nwt1r nwt1s nwt2 nwt2r nwt2s hs hsc hst hst0 hst0r hst0s hst1 hst1r hst1s hst2 hst2r hst2s hi : Nat) (sz : Nat) (nm bp wt tr he uw vi sp sg pf pl pc1 pc2 ht : Nat) (p0 p1 p2 : Int32) (h : okI p0 p1 p2 = 1) : Met l yX11_code (Cond.code yX11_code cX11_code 5 (some .int) :: ALL) ({ frames := 5, cells := 0, slots := 0, locals := 104 }) (zPc D vwCl (TY cy) (EX sa) [.ref x, .int p0, .int p1, .int p2] [(x, .inr (17, [.ref pg, .ref nm, .ref bp, .ref wt, .ref nw, .ref tr, .ref hi, .ref he, .ref uw, .ref vi, .ref sp, .ref sg, .int 45, .int (-1)])), (pg, .inr (9, [.ref pf, .ref pl, .ref pc1, .ref pc2, .ref pk1, .ref pk2, .ref pk3, .ref pk4, .ref pk5, .int 0])), (pk1, .inl (cy 1, 60, .inl (fun _ => 0))), (pk2, .inl (cy 0, 60, .inl (fun _ => 0))), (pk3, .inl (cy 0, 60, .inl (fun _ => 0))), (pk4, .inl (cy 0, 60, .inl (fun _ => 0))), (pk5, .inl (cy 1, 60, .inl (fun _ => 0))), (nw, .inr (12, [.ref nwc, .ref nwt, .int 0, .int (-1), .int 0])), (nwc, .inl (cy 0, 16, .inl (fun _ => 0))), (nwt, .inl (cy 5, 3, .inr (.inr (.inr (.inr (va_up (va_up (va_up (fun _ => none) 0 (some nwt0)) 1 (some nwt1)) 2 (some nwt2))))))), (nwt0, .inr (13, [.ref nwt0r, .ref nwt0s, .int 0, .int 0, .int 0, .int 114, .int 45])), (nwt0r, .inl (cy 0, 4, .inl (fun _ => 0))), (nwt0s, .inl (cy 0, 40, .inl (fun _ => 0))), (nwt1, .inr (13, [.ref nwt1r, .ref nwt1s, .int 0, .int 0, .int 0, .int 114, .int 45])), (nwt1r, .inl (cy 0, 4, .inl (fun _ => 0))), (nwt1s, .inl (cy 0, 40, .inl (fun _ => 0))), (nwt2, .inr (13, [.ref nwt2r, .ref nwt2s, .int 0, .int 0, .int 0, .int 114, .int 45])), (nwt2r, .inl (cy 0, 4, .inl (fun _ => 0))), (nwt2s, .inl (cy 0, 40, .inl (fun _ => 0))), (hs, .inr (12, [.ref hsc, .ref hst, .int 0, .int (-1), .int 0])), (hsc, .inl (cy 0, 16, .inl (fun _ => 0))), (hst, .inl (cy 5, 3, .inr (.inr (.inr (.inr (va_up (va_up (va_up (fun _ => none) 0 (some hst0)) 1 (some hst1)) 2 (some hst2))))))), (hst0, .inr (13, [.ref hst0r, .ref hst0s, .int 0, .int 0, .int 0, .int 114, .int 45])), (hst0r, .inl (cy 0, 4, .inl (fun _ => 0))), (hst0s, .inl (cy 0, 40, .inl (fun _ => 0))), (hst1, .inr (13, [.ref hst1r, .ref hst1s, .int 0, .int 0, .int 0, .int 114, .int 45])), (hst1r, .inl (cy 0, 4, .inl (fun _ => 0))), (hst1s, .inl (cy 0, 40, .inl (fun _ => 0))), (hst2, .inr (13, [.ref hst2r, .ref hst2s, .int 0, .int 0, .int 0, .int 114, .int 45])), (hst2r, .inl (cy 0, 4, .inl (fun _ => 0))), (hst2s, .inl (cy 0, 40, .inl (fun _ => 0))), (hi, .inr (7, [.ref pg, .ref hs, .ref ht, .int 0]))] sz) (va_Qi (fun r _ => r = 0) (zB D vwCl (TY cy) (S := Unit) (fun u => []) (va_A [(x, .inr (17, [.ref pg, .ref nm, .ref bp, .ref wt, .ref nw, .ref tr, .ref hi, .ref he, .ref uw, .ref vi, .ref sp, .ref sg, .int 45, .int (-1)])), (pg, .inr (9, [.ref pf, .ref pl, .ref pc1, .ref pc2, .ref pk1, .ref pk2, .ref pk3, .ref pk4, .ref pk5, .int 0])), (pk1, .inl (cy 1, 60, .inl (fun _ => 0))), (pk2, .inl (cy 0, 60, .inl (fun _ => 0))), (pk3, .inl (cy 0, 60, .inl (fun _ => 0))), (pk4, .inl (cy 0, 60, .inl (fun _ => 0))), (pk5, .inl (cy 1, 60, .inl (fun _ => 0))), (nw, .inr (12, [.ref nwc, .ref nwt, .int 0, .int (-1), .int 0])), (nwc, .inl (cy 0, 16, .inl (fun _ => 0))), (nwt, .inl (cy 5, 3, .inr (.inr (.inr (.inr (va_up (va_up (va_up (fun _ => none) 0 (some nwt0)) 1 (some nwt1)) 2 (some nwt2))))))), (nwt0, .inr (13, [.ref nwt0r, .ref nwt0s, .int 0, .int 0, .int 0, .int 114, .int 45])), (nwt0r, .inl (cy 0, 4, .inl (fun _ => 0))), (nwt0s, .inl (cy 0, 40, .inl (fun _ => 0))), (nwt1, .inr (13, [.ref nwt1r, .ref nwt1s, .int 0, .int 0, .int 0, .int 114, .int 45])), (nwt1r, .inl (cy 0, 4, .inl (fun _ => 0))), (nwt1s, .inl (cy 0, 40, .inl (fun _ => 0))), (nwt2, .inr (13, [.ref nwt2r, .ref nwt2s, .int 0, .int 0, .int 0, .int 114, .int 45])), (nwt2r, .inl (cy 0, 4, .inl (fun _ => 0))), (nwt2s, .inl (cy 0, 40, .inl (fun _ => 0))), (hs, .inr (12, [.ref hsc, .ref hst, .int 0, .int (-1), .int 0])), (hsc, .inl (cy 0, 16, .inl (fun _ => 0))), (hst, .inl (cy 5, 3, .inr (.inr (.inr (.inr (va_up (va_up (va_up (fun _ => none) 0 (some hst0)) 1 (some hst1)) 2 (some hst2))))))), (hst0, .inr (13, [.ref hst0r, .ref hst0s, .int 0, .int 0, .int 0, .int 114, .int 45])), (hst0r, .inl (cy 0, 4, .inl (fun _ => 0))), (hst0s, .inl (cy 0, 40, .inl (fun _ => 0))), (hst1, .inr (13, [.ref hst1r, .ref hst1s, .int 0, .int 0, .int 0, .int 114, .int 45])), (hst1r, .inl (cy 0, 4, .inl (fun _ => 0))), (hst1s, .inl (cy 0, 40, .inl (fun _ => 0))), (hst2, .inr (13, [.ref hst2r, .ref hst2s, .int 0, .int 0, .int 0, .int 114, .int 45])), (hst2r, .inl (cy 0, 4, .inl (fun _ => 0))), (hst2s, .inl (cy 0, 40, .inl (fun _ => 0))), (hi, .inr (7, [.ref pg, .ref hs, .ref ht, .int 0]))] sz)) (va_A [(x, .inr (17, [.ref pg, .ref nm, .ref bp, .ref wt, .ref nw, .ref tr, .ref hi, .ref he, .ref uw, .ref vi, .ref sp, .ref sg, .int 45, .int (-1)])), (pg, .inr (9, [.ref pf, .ref pl, .ref pc1, .ref pc2, .ref pk1, .ref pk2, .ref pk3, .ref pk4, .ref pk5, .int 0])), (pk1, .inl (cy 1, 60, .inl (fun _ => 0))), (pk2, .inl (cy 0, 60, .inl (fun _ => 0))), (pk3, .inl (cy 0, 60, .inl (fun _ => 0))), (pk4, .inl (cy 0, 60, .inl (fun _ => 0))), (pk5, .inl (cy 1, 60, .inl (fun _ => 0))), (nw, .inr (12, [.ref nwc, .ref nwt, .int 0, .int (-1), .int 0])), (nwc, .inl (cy 0, 16, .inl (fun _ => 0))), (nwt, .inl (cy 5, 3, .inr (.inr (.inr (.inr (va_up (va_up (va_up (fun _ => none) 0 (some nwt0)) 1 (some nwt1)) 2 (some nwt2))))))), (nwt0, .inr (13, [.ref nwt0r, .ref nwt0s, .int 0, .int 0, .int 0, .int 114, .int 45])), (nwt0r, .inl (cy 0, 4, .inl (fun _ => 0))), (nwt0s, .inl (cy 0, 40, .inl (fun _ => 0))), (nwt1, .inr (13, [.ref nwt1r, .ref nwt1s, .int 0, .int 0, .int 0, .int 114, .int 45])), (nwt1r, .inl (cy 0, 4, .inl (fun _ => 0))), (nwt1s, .inl (cy 0, 40, .inl (fun _ => 0))), (nwt2, .inr (13, [.ref nwt2r, .ref nwt2s, .int 0, .int 0, .int 0, .int 114, .int 45])), (nwt2r, .inl (cy 0, 4, .inl (fun _ => 0))), (nwt2s, .inl (cy 0, 40, .inl (fun _ => 0))), (hs, .inr (12, [.ref hsc, .ref hst, .int 0, .int (-1), .int 0])), (hsc, .inl (cy 0, 16, .inl (fun _ => 0))), (hst, .inl (cy 5, 3, .inr (.inr (.inr (.inr (va_up (va_up (va_up (fun _ => none) 0 (some hst0)) 1 (some hst1)) 2 (some hst2))))))), (hst0, .inr (13, [.ref hst0r, .ref hst0s, .int 0, .int 0, .int 0, .int 114, .int 45])), (hst0r, .inl (cy 0, 4, .inl (fun _ => 0))), (hst0s, .inl (cy 0, 40, .inl (fun _ => 0))), (hst1, .inr (13, [.ref hst1r, .ref hst1s, .int 0, .int 0, .int 0, .int 114, .int 45])), (hst1r, .inl (cy 0, 4, .inl (fun _ => 0))), (hst1s, .inl (cy 0, 40, .inl (fun _ => 0))), (hst2, .inr (13, [.ref hst2r, .ref hst2s, .int 0, .int 0, .int 0, .int 114, .int 45])), (hst2r, .inl (cy 0, 4, .inl (fun _ => 0))), (hst2s, .inl (cy 0, 40, .inl (fun _ => 0))), (hi, .inr (7, [.ref pg, .ref hs, .ref ht, .int 0]))] sz)) 0 0 (va_A [(x, .inr (17, [.ref pg, .ref nm, .ref bp, .ref wt, .ref nw, .ref tr, .ref hi, .ref he, .ref uw, .ref vi, .ref sp, .ref sg, .int 45, .int (-1)])), (pg, .inr (9, [.ref pf, .ref pl, .ref pc1, .ref pc2, .ref pk1, .ref pk2, .ref pk3, .ref pk4, .ref pk5, .int 0])), (pk1, .inl (cy 1, 60, .inl (fun _ => 0))), (pk2, .inl (cy 0, 60, .inl (fun _ => 0))), (pk3, .inl (cy 0, 60, .inl (fun _ => 0))), (pk4, .inl (cy 0, 60, .inl (fun _ => 0))), (pk5, .inl (cy 1, 60, .inl (fun _ => 0))), (nw, .inr (12, [.ref nwc, .ref nwt, .int 0, .int (-1), .int 0])), (nwc, .inl (cy 0, 16, .inl (fun _ => 0))), (nwt, .inl (cy 5, 3, .inr (.inr (.inr (.inr (va_up (va_up (va_up (fun _ => none) 0 (some nwt0)) 1 (some nwt1)) 2 (some nwt2))))))), (nwt0, .inr (13, [.ref nwt0r, .ref nwt0s, .int 0, .int 0, .int 0, .int 114, .int 45])), (nwt0r, .inl (cy 0, 4, .inl (fun _ => 0))), (nwt0s, .inl (cy 0, 40, .inl (fun _ => 0))), (nwt1, .inr (13, [.ref nwt1r, .ref nwt1s, .int 0, .int 0, .int 0, .int 114, .int 45])), (nwt1r, .inl (cy 0, 4, .inl (fun _ => 0))), (nwt1s, .inl (cy 0, 40, .inl (fun _ => 0))), (nwt2, .inr (13, [.ref nwt2r, .ref nwt2s, .int 0, .int 0, .int 0, .int 114, .int 45])), (nwt2r, .inl (cy 0, 4, .inl (fun _ => 0))), (nwt2s, .inl (cy 0, 40, .inl (fun _ => 0))), (hs, .inr (12, [.ref hsc, .ref hst, .int 0, .int (-1), .int 0])), (hsc, .inl (cy 0, 16, .inl (fun _ => 0))), (hst, .inl (cy 5, 3, .inr (.inr (.inr (.inr (va_up (va_up (va_up (fun _ => none) 0 (some hst0)) 1 (some hst1)) 2 (some hst2))))))), (hst0, .inr (13, [.ref hst0r, .ref hst0s, .int 0, .int 0, .int 0, .int 114, .int 45])), (hst0r, .inl (cy 0, 4, .inl (fun _ => 0))), (hst0s, .inl (cy 0, 40, .inl (fun _ => 0))), (hst1, .inr (13, [.ref hst1r, .ref hst1s, .int 0, .int 0, .int 0, .int 114, .int 45])), (hst1r, .inl (cy 0, 4, .inl (fun _ => 0))), (hst1s, .inl (cy 0, 40, .inl (fun _ => 0))), (hst2, .inr (13, [.ref hst2r, .ref hst2s, .int 0, .int 0, .int 0, .int 114, .int 45])), (hst2r, .inl (cy 0, 4, .inl (fun _ => 0))), (hst2s, .inl (cy 0, 40, .inl (fun _ => 0))), (hi, .inr (7, [.ref pg, .ref hs, .ref ht, .int 0]))] sz) := by
  refine z_start (Qc := fun A => va_Qi (fun r _ => r = 0) (zB D vwCl (TY cy) (S := Unit) (fun u => []) A) A) PN_RX11 (Nat.le_of_ble_eq_true rfl) ?_
  intro p e s m below meth c A ls hx hb hr hml hts hown hlocks hin hA hP hK hD hS hEn hl
  have hown : s.vm.findClass RX11 = some m.cls := hown
  have hl : lv_has ls 5 [(0, .ref x), (1, .int p0), (2, .int p1), (3, .int p2)] := hl
  have hS0 := hS
  refine lv_iload_n hx hb dX11_code_0 rfl (lv_at hl 1 rfl) ?_
  refine lv_iload_n hx hb dX11_code_1 rfl (lv_at hl 2 rfl) ?_
  refine lv_iload_n hx hb dX11_code_2 rfl (lv_at hl 3 rfl) ?_
  have hPc := hP.sub (ws' := []) [] rfl
  have hDc := hD.sub (ws' := []) [] (by decide) rfl
  have hFc := va_free (wc := []) hD hS hA [] rfl
  refine z_callvJ (wr := [(x, .inr (17, [.ref pg, .ref nm, .ref bp, .ref wt, .ref nw, .ref tr, .ref hi, .ref he, .ref uw, .ref vi, .ref sp, .ref sg, .int 45, .int (-1)])), (pg, .inr (9, [.ref pf, .ref pl, .ref pc1, .ref pc2, .ref pk1, .ref pk2, .ref pk3, .ref pk4, .ref pk5, .int 0])), (pk1, .inl (cy 1, 60, .inl (fun _ => 0))), (pk2, .inl (cy 0, 60, .inl (fun _ => 0))), (pk3, .inl (cy 0, 60, .inl (fun _ => 0))), (pk4, .inl (cy 0, 60, .inl (fun _ => 0))), (pk5, .inl (cy 1, 60, .inl (fun _ => 0))), (nw, .inr (12, [.ref nwc, .ref nwt, .int 0, .int (-1), .int 0])), (nwc, .inl (cy 0, 16, .inl (fun _ => 0))), (nwt, .inl (cy 5, 3, .inr (.inr (.inr (.inr (va_up (va_up (va_up (fun _ => none) 0 (some nwt0)) 1 (some nwt1)) 2 (some nwt2))))))), (nwt0, .inr (13, [.ref nwt0r, .ref nwt0s, .int 0, .int 0, .int 0, .int 114, .int 45])), (nwt0r, .inl (cy 0, 4, .inl (fun _ => 0))), (nwt0s, .inl (cy 0, 40, .inl (fun _ => 0))), (nwt1, .inr (13, [.ref nwt1r, .ref nwt1s, .int 0, .int 0, .int 0, .int 114, .int 45])), (nwt1r, .inl (cy 0, 4, .inl (fun _ => 0))), (nwt1s, .inl (cy 0, 40, .inl (fun _ => 0))), (nwt2, .inr (13, [.ref nwt2r, .ref nwt2s, .int 0, .int 0, .int 0, .int 114, .int 45])), (nwt2r, .inl (cy 0, 4, .inl (fun _ => 0))), (nwt2s, .inl (cy 0, 40, .inl (fun _ => 0))), (hs, .inr (12, [.ref hsc, .ref hst, .int 0, .int (-1), .int 0])), (hsc, .inl (cy 0, 16, .inl (fun _ => 0))), (hst, .inl (cy 5, 3, .inr (.inr (.inr (.inr (va_up (va_up (va_up (fun _ => none) 0 (some hst0)) 1 (some hst1)) 2 (some hst2))))))), (hst0, .inr (13, [.ref hst0r, .ref hst0s, .int 0, .int 0, .int 0, .int 114, .int 45])), (hst0r, .inl (cy 0, 4, .inl (fun _ => 0))), (hst0s, .inl (cy 0, 40, .inl (fun _ => 0))), (hst1, .inr (13, [.ref hst1r, .ref hst1s, .int 0, .int 0, .int 0, .int 114, .int 45])), (hst1r, .inl (cy 0, 4, .inl (fun _ => 0))), (hst1s, .inl (cy 0, 40, .inl (fun _ => 0))), (hst2, .inr (13, [.ref hst2r, .ref hst2s, .int 0, .int 0, .int 0, .int 114, .int 45])), (hst2r, .inl (cy 0, 4, .inl (fun _ => 0))), (hst2s, .inl (cy 0, 40, .inl (fun _ => 0))), (hi, .inr (7, [.ref pg, .ref hs, .ref ht, .int 0]))]) (va_runS (As := [.int p0, .int p1, .int p2]) (rest := []) ⟨hx, hb, hml, hown, hts⟩ (m_needInstr1 l D cy sa _ p0 p1 p2 h) (va_cwS 3 hts GS_RX11_98 rfl rfl rfl HD_yX11_needInstruction ⟨Nat.le_of_ble_eq_true rfl, Nat.le_of_ble_eq_true rfl⟩) ⟨z_blind EX_ok, z_pre EX_ok hPc hK hDc hEn hS hFc⟩ rfl rfl hl.1 rfl (lv_room (Nat.le_of_ble_eq_true rfl)) dX11_code_3 ⟨Nat.le_of_ble_eq_true rfl, Nat.le_of_ble_eq_true rfl⟩) hP hD hS hA [] [0, 1, 2, 3, 4, 5, 6, 7, 8, 9, 10, 11, 12, 13, 14, 15, 16, 17, 18, 19, 20, 21, 22, 23, 24, 25, 26, 27, 28, 29, 30, 31] rfl rfl (by decide) (by decide) (fun u3 H locs hw_3 hP hD hS => ?_)
  have hP : va_P D vwCl [(x, .inr (17, [.ref pg, .ref nm, .ref bp, .ref wt, .ref nw, .ref tr, .ref hi, .ref he, .ref uw, .ref vi, .ref sp, .ref sg, .int 45, .int (-1)])), (pg, .inr (9, [.ref pf, .ref pl, .ref pc1, .ref pc2, .ref pk1, .ref pk2, .ref pk3, .ref pk4, .ref pk5, .int 0])), (pk1, .inl (cy 1, 60, .inl (fun _ => 0))), (pk2, .inl (cy 0, 60, .inl (fun _ => 0))), (pk3, .inl (cy 0, 60, .inl (fun _ => 0))), (pk4, .inl (cy 0, 60, .inl (fun _ => 0))), (pk5, .inl (cy 1, 60, .inl (fun _ => 0))), (nw, .inr (12, [.ref nwc, .ref nwt, .int 0, .int (-1), .int 0])), (nwc, .inl (cy 0, 16, .inl (fun _ => 0))), (nwt, .inl (cy 5, 3, .inr (.inr (.inr (.inr (va_up (va_up (va_up (fun _ => none) 0 (some nwt0)) 1 (some nwt1)) 2 (some nwt2))))))), (nwt0, .inr (13, [.ref nwt0r, .ref nwt0s, .int 0, .int 0, .int 0, .int 114, .int 45])), (nwt0r, .inl (cy 0, 4, .inl (fun _ => 0))), (nwt0s, .inl (cy 0, 40, .inl (fun _ => 0))), (nwt1, .inr (13, [.ref nwt1r, .ref nwt1s, .int 0, .int 0, .int 0, .int 114, .int 45])), (nwt1r, .inl (cy 0, 4, .inl (fun _ => 0))), (nwt1s, .inl (cy 0, 40, .inl (fun _ => 0))), (nwt2, .inr (13, [.ref nwt2r, .ref nwt2s, .int 0, .int 0, .int 0, .int 114, .int 45])), (nwt2r, .inl (cy 0, 4, .inl (fun _ => 0))), (nwt2s, .inl (cy 0, 40, .inl (fun _ => 0))), (hs, .inr (12, [.ref hsc, .ref hst, .int 0, .int (-1), .int 0])), (hsc, .inl (cy 0, 16, .inl (fun _ => 0))), (hst, .inl (cy 5, 3, .inr (.inr (.inr (.inr (va_up (va_up (va_up (fun _ => none) 0 (some hst0)) 1 (some hst1)) 2 (some hst2))))))), (hst0, .inr (13, [.ref hst0r, .ref hst0s, .int 0, .int 0, .int 0, .int 114, .int 45])), (hst0r, .inl (cy 0, 4, .inl (fun _ => 0))), (hst0s, .inl (cy 0, 40, .inl (fun _ => 0))), (hst1, .inr (13, [.ref hst1r, .ref hst1s, .int 0, .int 0, .int 0, .int 114, .int 45])), (hst1r, .inl (cy 0, 4, .inl (fun _ => 0))), (hst1s, .inl (cy 0, 40, .inl (fun _ => 0))), (hst2, .inr (13, [.ref hst2r, .ref hst2s, .int 0, .int 0, .int 0, .int 114, .int 45])), (hst2r, .inl (cy 0, 4, .inl (fun _ => 0))), (hst2s, .inl (cy 0, 40, .inl (fun _ => 0))), (hi, .inr (7, [.ref pg, .ref hs, .ref ht, .int 0]))] H := hP
  have hD : va_D A [(x, .inr (17, [.ref pg, .ref nm, .ref bp, .ref wt, .ref nw, .ref tr, .ref hi, .ref he, .ref uw, .ref vi, .ref sp, .ref sg, .int 45, .int (-1)])), (pg, .inr (9, [.ref pf, .ref pl, .ref pc1, .ref pc2, .ref pk1, .ref pk2, .ref pk3, .ref pk4, .ref pk5, .int 0])), (pk1, .inl (cy 1, 60, .inl (fun _ => 0))), (pk2, .inl (cy 0, 60, .inl (fun _ => 0))), (pk3, .inl (cy 0, 60, .inl (fun _ => 0))), (pk4, .inl (cy 0, 60, .inl (fun _ => 0))), (pk5, .inl (cy 1, 60, .inl (fun _ => 0))), (nw, .inr (12, [.ref nwc, .ref nwt, .int 0, .int (-1), .int 0])), (nwc, .inl (cy 0, 16, .inl (fun _ => 0))), (nwt, .inl (cy 5, 3, .inr (.inr (.inr (.inr (va_up (va_up (va_up (fun _ => none) 0 (some nwt0)) 1 (some nwt1)) 2 (some nwt2))))))), (nwt0, .inr (13, [.ref nwt0r, .ref nwt0s, .int 0, .int 0, .int 0, .int 114, .int 45])), (nwt0r, .inl (cy 0, 4, .inl (fun _ => 0))), (nwt0s, .inl (cy 0, 40, .inl (fun _ => 0))), (nwt1, .inr (13, [.ref nwt1r, .ref nwt1s, .int 0, .int 0, .int 0, .int 114, .int 45])), (nwt1r, .inl (cy 0, 4, .inl (fun _ => 0))), (nwt1s, .inl (cy 0, 40, .inl (fun _ => 0))), (nwt2, .inr (13, [.ref nwt2r, .ref nwt2s, .int 0, .int 0, .int 0, .int 114, .int 45])), (nwt2r, .inl (cy 0, 4, .inl (fun _ => 0))), (nwt2s, .inl (cy 0, 40, .inl (fun _ => 0))), (hs, .inr (12, [.ref hsc, .ref hst, .int 0, .int (-1), .int 0])), (hsc, .inl (cy 0, 16, .inl (fun _ => 0))), (hst, .inl (cy 5, 3, .inr (.inr (.inr (.inr (va_up (va_up (va_up (fun _ => none) 0 (some hst0)) 1 (some hst1)) 2 (some hst2))))))), (hst0, .inr (13, [.ref hst0r, .ref hst0s, .int 0, .int 0, .int 0, .int 114, .int 45])), (hst0r, .inl (cy 0, 4, .inl (fun _ => 0))), (hst0s, .inl (cy 0, 40, .inl (fun _ => 0))), (hst1, .inr (13, [.ref hst1r, .ref hst1s, .int 0, .int 0, .int 0, .int 114, .int 45])), (hst1r, .inl (cy 0, 4, .inl (fun _ => 0))), (hst1s, .inl (cy 0, 40, .inl (fun _ => 0))), (hst2, .inr (13, [.ref hst2r, .ref hst2s, .int 0, .int 0, .int 0, .int 114, .int 45])), (hst2r, .inl (cy 0, 4, .inl (fun _ => 0))), (hst2s, .inl (cy 0, 40, .inl (fun _ => 0))), (hi, .inr (7, [.ref pg, .ref hs, .ref ht, .int 0]))] := hD
  refine lv_aload_n hx hb dX11_code_6 rfl (lv_at hl 0 rfl) ?_
  refine va_get (D := D) (ci := 17) (v := .ref pg) (C := RX11) (T := TX11) (N := 14) hx hb hts inX11 hown hK hP 0 rfl rfl 0 (by decide) (hts _ K521) (fun _ h9 => h9) rfl dX11_code_7 ?_
  have hPc := hP.sub (ws' := [(pg, .inr (9, [.ref pf, .ref pl, .ref pc1, .ref pc2, .ref pk1, .ref pk2, .ref pk3, .ref pk4, .ref pk5, .int 0]))]) [1] rfl
  have hDc := hD.sub (ws' := [(pg, .inr (9, [.ref pf, .ref pl, .ref pc1, .ref pc2, .ref pk1, .ref pk2, .ref pk3, .ref pk4, .ref pk5, .int 0]))]) [1] (by decide) rfl
  have hFc := va_free (wc := [(pg, .inr (9, [.ref pf, .ref pl, .ref pc1, .ref pc2, .ref pk1, .ref pk2, .ref pk3, .ref pk4, .ref pk5, .int 0]))]) hD hS hA [1] rfl
  refine z_calliJ (wr := [(x, .inr (17, [.ref pg, .ref nm, .ref bp, .ref wt, .ref nw, .ref tr, .ref hi, .ref he, .ref uw, .ref vi, .ref sp, .ref sg, .int 45, .int (-1)])), (pk1, .inl (cy 1, 60, .inl (fun _ => 0))), (pk2, .inl (cy 0, 60, .inl (fun _ => 0))), (pk3, .inl (cy 0, 60, .inl (fun _ => 0))), (pk4, .inl (cy 0, 60, .inl (fun _ => 0))), (pk5, .inl (cy 1, 60, .inl (fun _ => 0))), (nw, .inr (12, [.ref nwc, .ref nwt, .int 0, .int (-1), .int 0])), (nwc, .inl (cy 0, 16, .inl (fun _ => 0))), (nwt, .inl (cy 5, 3, .inr (.inr (.inr (.inr (va_up (va_up (va_up (fun _ => none) 0 (some nwt0)) 1 (some nwt1)) 2 (some nwt2))))))), (nwt0, .inr (13, [.ref nwt0r, .ref nwt0s, .int 0, .int 0, .int 0, .int 114, .int 45])), (nwt0r, .inl (cy 0, 4, .inl (fun _ => 0))), (nwt0s, .inl (cy 0, 40, .inl (fun _ => 0))), (nwt1, .inr (13, [.ref nwt1r, .ref nwt1s, .int 0, .int 0, .int 0, .int 114, .int 45])), (nwt1r, .inl (cy 0, 4, .inl (fun _ => 0))), (nwt1s, .inl (cy 0, 40, .inl (fun _ => 0))), (nwt2, .inr (13, [.ref nwt2r, .ref nwt2s, .int 0, .int 0, .int 0, .int 114, .int 45])), (nwt2r, .inl (cy 0, 4, .inl (fun _ => 0))), (nwt2s, .inl (cy 0, 40, .inl (fun _ => 0))), (hs, .inr (12, [.ref hsc, .ref hst, .int 0, .int (-1), .int 0])), (hsc, .inl (cy 0, 16, .inl (fun _ => 0))), (hst, .inl (cy 5, 3, .inr (.inr (.inr (.inr (va_up (va_up (va_up (fun _ => none) 0 (some hst0)) 1 (some hst1)) 2 (some hst2))))))), (hst0, .inr (13, [.ref hst0r, .ref hst0s, .int 0, .int 0, .int 0, .int 114, .int 45])), (hst0r, .inl (cy 0, 4, .inl (fun _ => 0))), (hst0s, .inl (cy 0, 40, .inl (fun _ => 0))), (hst1, .inr (13, [.ref hst1r, .ref hst1s, .int 0, .int 0, .int 0, .int 114, .int 45])), (hst1r, .inl (cy 0, 4, .inl (fun _ => 0))), (hst1s, .inl (cy 0, 40, .inl (fun _ => 0))), (hst2, .inr (13, [.ref hst2r, .ref hst2s, .int 0, .int 0, .int 0, .int 114, .int 45])), (hst2r, .inl (cy 0, 4, .inl (fun _ => 0))), (hst2s, .inl (cy 0, 40, .inl (fun _ => 0))), (hi, .inr (7, [.ref pg, .ref hs, .ref ht, .int 0]))]) (va_runV (As := []) (rest := []) ⟨hx, hb, hml, hown, hts⟩ (m_pgFull l D cy sa pg _ pf pl pc1 pc2 pk1 pk2 pk3 pk4 pk5) (cwV 0 hts GV_RX11_102 rfl rfl rfl ⟨rfl, HD_yX3_isFull⟩ ⟨Nat.le_of_ble_eq_true rfl, Nat.le_of_ble_eq_true rfl⟩) ⟨z_blind EX_ok, va_recv hK hPc (ci := 9) (q0 := 0) rfl rfl, z_pre EX_ok hPc hK hDc hEn hS hFc⟩ rfl rfl hl.1 rfl (lv_room (Nat.le_of_ble_eq_true rfl)) dX11_code_10 ⟨Nat.le_of_ble_eq_true rfl, Nat.le_of_ble_eq_true rfl⟩) hP hD hS hA [1] [0, 2, 3, 4, 5, 6, 7, 8, 9, 10, 11, 12, 13, 14, 15, 16, 17, 18, 19, 20, 21, 22, 23, 24, 25, 26, 27, 28, 29, 30, 31] rfl rfl (by decide) (by decide) (fun r_10 u10 H locs hw_10 hP hD hS => ?_)
  have hP : va_P D vwCl [(x, .inr (17, [.ref pg, .ref nm, .ref bp, .ref wt, .ref nw, .ref tr, .ref hi, .ref he, .ref uw, .ref vi, .ref sp, .ref sg, .int 45, .int (-1)])), (pk1, .inl (cy 1, 60, .inl (fun _ => 0))), (pk2, .inl (cy 0, 60, .inl (fun _ => 0))), (pk3, .inl (cy 0, 60, .inl (fun _ => 0))), (pk4, .inl (cy 0, 60, .inl (fun _ => 0))), (pk5, .inl (cy 1, 60, .inl (fun _ => 0))), (nw, .inr (12, [.ref nwc, .ref nwt, .int 0, .int (-1), .int 0])), (nwc, .inl (cy 0, 16, .inl (fun _ => 0))), (nwt, .inl (cy 5, 3, .inr (.inr (.inr (.inr (va_up (va_up (va_up (fun _ => none) 0 (some nwt0)) 1 (some nwt1)) 2 (some nwt2))))))), (nwt0, .inr (13, [.ref nwt0r, .ref nwt0s, .int 0, .int 0, .int 0, .int 114, .int 45])), (nwt0r, .inl (cy 0, 4, .inl (fun _ => 0))), (nwt0s, .inl (cy 0, 40, .inl (fun _ => 0))), (nwt1, .inr (13, [.ref nwt1r, .ref nwt1s, .int 0, .int 0, .int 0, .int 114, .int 45])), (nwt1r, .inl (cy 0, 4, .inl (fun _ => 0))), (nwt1s, .inl (cy 0, 40, .inl (fun _ => 0))), (nwt2, .inr (13, [.ref nwt2r, .ref nwt2s, .int 0, .int 0, .int 0, .int 114, .int 45])), (nwt2r, .inl (cy 0, 4, .inl (fun _ => 0))), (nwt2s, .inl (cy 0, 40, .inl (fun _ => 0))), (hs, .inr (12, [.ref hsc, .ref hst, .int 0, .int (-1), .int 0])), (hsc, .inl (cy 0, 16, .inl (fun _ => 0))), (hst, .inl (cy 5, 3, .inr (.inr (.inr (.inr (va_up (va_up (va_up (fun _ => none) 0 (some hst0)) 1 (some hst1)) 2 (some hst2))))))), (hst0, .inr (13, [.ref hst0r, .ref hst0s, .int 0, .int 0, .int 0, .int 114, .int 45])), (hst0r, .inl (cy 0, 4, .inl (fun _ => 0))), (hst0s, .inl (cy 0, 40, .inl (fun _ => 0))), (hst1, .inr (13, [.ref hst1r, .ref hst1s, .int 0, .int 0, .int 0, .int 114, .int 45])), (hst1r, .inl (cy 0, 4, .inl (fun _ => 0))), (hst1s, .inl (cy 0, 40, .inl (fun _ => 0))), (hst2, .inr (13, [.ref hst2r, .ref hst2s, .int 0, .int 0, .int 0, .int 114, .int 45])), (hst2r, .inl (cy 0, 4, .inl (fun _ => 0))), (hst2s, .inl (cy 0, 40, .inl (fun _ => 0))), (hi, .inr (7, [.ref pg, .ref hs, .ref ht, .int 0])), (pg, .inr (9, [.ref pf, .ref pl, .ref pc1, .ref pc2, .ref pk1, .ref pk2, .ref pk3, .ref pk4, .ref pk5, .int 0]))] H := hP
  have hD : va_D A [(x, .inr (17, [.ref pg, .ref nm, .ref bp, .ref wt, .ref nw, .ref tr, .ref hi, .ref he, .ref uw, .ref vi, .ref sp, .ref sg, .int 45, .int (-1)])), (pk1, .inl (cy 1, 60, .inl (fun _ => 0))), (pk2, .inl (cy 0, 60, .inl (fun _ => 0))), (pk3, .inl (cy 0, 60, .inl (fun _ => 0))), (pk4, .inl (cy 0, 60, .inl (fun _ => 0))), (pk5, .inl (cy 1, 60, .inl (fun _ => 0))), (nw, .inr (12, [.ref nwc, .ref nwt, .int 0, .int (-1), .int 0])), (nwc, .inl (cy 0, 16, .inl (fun _ => 0))), (nwt, .inl (cy 5, 3, .inr (.inr (.inr (.inr (va_up (va_up (va_up (fun _ => none) 0 (some nwt0)) 1 (some nwt1)) 2 (some nwt2))))))), (nwt0, .inr (13, [.ref nwt0r, .ref nwt0s, .int 0, .int 0, .int 0, .int 114, .int 45])), (nwt0r, .inl (cy 0, 4, .inl (fun _ => 0))), (nwt0s, .inl (cy 0, 40, .inl (fun _ => 0))), (nwt1, .inr (13, [.ref nwt1r, .ref nwt1s, .int 0, .int 0, .int 0, .int 114, .int 45])), (nwt1r, .inl (cy 0, 4, .inl (fun _ => 0))), (nwt1s, .inl (cy 0, 40, .inl (fun _ => 0))), (nwt2, .inr (13, [.ref nwt2r, .ref nwt2s, .int 0, .int 0, .int 0, .int 114, .int 45])), (nwt2r, .inl (cy 0, 4, .inl (fun _ => 0))), (nwt2s, .inl (cy 0, 40, .inl (fun _ => 0))), (hs, .inr (12, [.ref hsc, .ref hst, .int 0, .int (-1), .int 0])), (hsc, .inl (cy 0, 16, .inl (fun _ => 0))), (hst, .inl (cy 5, 3, .inr (.inr (.inr (.inr (va_up (va_up (va_up (fun _ => none) 0 (some hst0)) 1 (some hst1)) 2 (some hst2))))))), (hst0, .inr (13, [.ref hst0r, .ref hst0s, .int 0, .int 0, .int 0, .int 114, .int 45])), (hst0r, .inl (cy 0, 4, .inl (fun _ => 0))), (hst0s, .inl (cy 0, 40, .inl (fun _ => 0))), (hst1, .inr (13, [.ref hst1r, .ref hst1s, .int 0, .int 0, .int 0, .int 114, .int 45])), (hst1r, .inl (cy 0, 4, .inl (fun _ => 0))), (hst1s, .inl (cy 0, 40, .inl (fun _ => 0))), (hst2, .inr (13, [.ref hst2r, .ref hst2s, .int 0, .int 0, .int 0, .int 114, .int 45])), (hst2r, .inl (cy 0, 4, .inl (fun _ => 0))), (hst2s, .inl (cy 0, 40, .inl (fun _ => 0))), (hi, .inr (7, [.ref pg, .ref hs, .ref ht, .int 0])), (pg, .inr (9, [.ref pf, .ref pl, .ref pc1, .ref pc2, .ref pk1, .ref pk2, .ref pk3, .ref pk4, .ref pk5, .int 0]))] := hD
  obtain rfl := hw_10
  refine lv_if_eq (tgt := 26) hx hb dX11_code_13 (by decide) (fun _ => ?_) (fun c_13 => absurd (by decide) c_13)
  refine lv_aload_n hx hb dX11_code_26 rfl (lv_at hl 0 rfl) ?_
  refine va_get (D := D) (ci := 17) (v := .ref pg) (C := RX11) (T := TX11) (N := 14) hx hb hts inX11 hown hK hP 0 rfl rfl 0 (by decide) (hts _ K521) (fun _ h9 => h9) rfl dX11_code_27 ?_
  refine lv_iload_n hx hb dX11_code_30 rfl (lv_at hl 1 rfl) ?_
  refine lv_iload_n hx hb dX11_code_31 rfl (lv_at hl 2 rfl) ?_
  refine lv_iload_n hx hb dX11_code_32 rfl (lv_at hl 3 rfl) ?_
  have hPc := hP.sub (ws' := [(pg, .inr (9, [.ref pf, .ref pl, .ref pc1, .ref pc2, .ref pk1, .ref pk2, .ref pk3, .ref pk4, .ref pk5, .int 0])), (pk1, .inl (cy 1, 60, .inl (fun _ => 0))), (pk2, .inl (cy 0, 60, .inl (fun _ => 0))), (pk3, .inl (cy 0, 60, .inl (fun _ => 0))), (pk4, .inl (cy 0, 60, .inl (fun _ => 0))), (pk5, .inl (cy 1, 60, .inl (fun _ => 0)))]) [31, 1, 2, 3, 4, 5] rfl
  have hDc := hD.sub (ws' := [(pg, .inr (9, [.ref pf, .ref pl, .ref pc1, .ref pc2, .ref pk1, .ref pk2, .ref pk3, .ref pk4, .ref pk5, .int 0])), (pk1, .inl (cy 1, 60, .inl (fun _ => 0))), (pk2, .inl (cy 0, 60, .inl (fun _ => 0))), (pk3, .inl (cy 0, 60, .inl (fun _ => 0))), (pk4, .inl (cy 0, 60, .inl (fun _ => 0))), (pk5, .inl (cy 1, 60, .inl (fun _ => 0)))]) [31, 1, 2, 3, 4, 5] (by decide) rfl
  have hFc := va_free (wc := [(pg, .inr (9, [.ref pf, .ref pl, .ref pc1, .ref pc2, .ref pk1, .ref pk2, .ref pk3, .ref pk4, .ref pk5, .int 0])), (pk1, .inl (cy 1, 60, .inl (fun _ => 0))), (pk2, .inl (cy 0, 60, .inl (fun _ => 0))), (pk3, .inl (cy 0, 60, .inl (fun _ => 0))), (pk4, .inl (cy 0, 60, .inl (fun _ => 0))), (pk5, .inl (cy 1, 60, .inl (fun _ => 0)))]) hD hS hA [31, 1, 2, 3, 4, 5] rfl
  refine z_calliJ (wr := [(x, .inr (17, [.ref pg, .ref nm, .ref bp, .ref wt, .ref nw, .ref tr, .ref hi, .ref he, .ref uw, .ref vi, .ref sp, .ref sg, .int 45, .int (-1)])), (nw, .inr (12, [.ref nwc, .ref nwt, .int 0, .int (-1), .int 0])), (nwc, .inl (cy 0, 16, .inl (fun _ => 0))), (nwt, .inl (cy 5, 3, .inr (.inr (.inr (.inr (va_up (va_up (va_up (fun _ => none) 0 (some nwt0)) 1 (some nwt1)) 2 (some nwt2))))))), (nwt0, .inr (13, [.ref nwt0r, .ref nwt0s, .int 0, .int 0, .int 0, .int 114, .int 45])), (nwt0r, .inl (cy 0, 4, .inl (fun _ => 0))), (nwt0s, .inl (cy 0, 40, .inl (fun _ => 0))), (nwt1, .inr (13, [.ref nwt1r, .ref nwt1s, .int 0, .int 0, .int 0, .int 114, .int 45])), (nwt1r, .inl (cy 0, 4, .inl (fun _ => 0))), (nwt1s, .inl (cy 0, 40, .inl (fun _ => 0))), (nwt2, .inr (13, [.ref nwt2r, .ref nwt2s, .int 0, .int 0, .int 0, .int 114, .int 45])), (nwt2r, .inl (cy 0, 4, .inl (fun _ => 0))), (nwt2s, .inl (cy 0, 40, .inl (fun _ => 0))), (hs, .inr (12, [.ref hsc, .ref hst, .int 0, .int (-1), .int 0])), (hsc, .inl (cy 0, 16, .inl (fun _ => 0))), (hst, .inl (cy 5, 3, .inr (.inr (.inr (.inr (va_up (va_up (va_up (fun _ => none) 0 (some hst0)) 1 (some hst1)) 2 (some hst2))))))), (hst0, .inr (13, [.ref hst0r, .ref hst0s, .int 0, .int 0, .int 0, .int 114, .int 45])), (hst0r, .inl (cy 0, 4, .inl (fun _ => 0))), (hst0s, .inl (cy 0, 40, .inl (fun _ => 0))), (hst1, .inr (13, [.ref hst1r, .ref hst1s, .int 0, .int 0, .int 0, .int 114, .int 45])), (hst1r, .inl (cy 0, 4, .inl (fun _ => 0))), (hst1s, .inl (cy 0, 40, .inl (fun _ => 0))), (hst2, .inr (13, [.ref hst2r, .ref hst2s, .int 0, .int 0, .int 0, .int 114, .int 45])), (hst2r, .inl (cy 0, 4, .inl (fun _ => 0))), (hst2s, .inl (cy 0, 40, .inl (fun _ => 0))), (hi, .inr (7, [.ref pg, .ref hs, .ref ht, .int 0]))]) (va_runV (As := [.int p0, .int p1, .int p2]) (rest := []) ⟨hx, hb, hml, hown, hts⟩ (m_append l D cy sa pg pk1 pk2 pk3 pk4 pk5 _ pf pl pc1 pc2 p0 p1 p2) (cwV 3 hts GV_RX11_113 rfl rfl rfl ⟨rfl, HD_yX3_append⟩ ⟨Nat.le_of_ble_eq_true rfl, Nat.le_of_ble_eq_true rfl⟩) ⟨z_blind EX_ok, va_recv hK hPc (ci := 9) (q0 := 0) rfl rfl, z_pre EX_ok hPc hK hDc hEn hS hFc⟩ rfl rfl hl.1 rfl (lv_room (Nat.le_of_ble_eq_true rfl)) dX11_code_33 ⟨Nat.le_of_ble_eq_true rfl, Nat.le_of_ble_eq_true rfl⟩) hP hD hS hA [31, 1, 2, 3, 4, 5] [0, 6, 7, 8, 9, 10, 11, 12, 13, 14, 15, 16, 17, 18, 19, 20, 21, 22, 23, 24, 25, 26, 27, 28, 29, 30] rfl rfl (by decide) (by decide) (fun r_33 u33 H locs hw_33 hP hD hS => ?_)
  have hP : va_P D vwCl [(x, .inr (17, [.ref pg, .ref nm, .ref bp, .ref wt, .ref nw, .ref tr, .ref hi, .ref he, .ref uw, .ref vi, .ref sp, .ref sg, .int 45, .int (-1)])), (nw, .inr (12, [.ref nwc, .ref nwt, .int 0, .int (-1), .int 0])), (nwc, .inl (cy 0, 16, .inl (fun _ => 0))), (nwt, .inl (cy 5, 3, .inr (.inr (.inr (.inr (va_up (va_up (va_up (fun _ => none) 0 (some nwt0)) 1 (some nwt1)) 2 (some nwt2))))))), (nwt0, .inr (13, [.ref nwt0r, .ref nwt0s, .int 0, .int 0, .int 0, .int 114, .int 45])), (nwt0r, .inl (cy 0, 4, .inl (fun _ => 0))), (nwt0s, .inl (cy 0, 40, .inl (fun _ => 0))), (nwt1, .inr (13, [.ref nwt1r, .ref nwt1s, .int 0, .int 0, .int 0, .int 114, .int 45])), (nwt1r, .inl (cy 0, 4, .inl (fun _ => 0))), (nwt1s, .inl (cy 0, 40, .inl (fun _ => 0))), (nwt2, .inr (13, [.ref nwt2r, .ref nwt2s, .int 0, .int 0, .int 0, .int 114, .int 45])), (nwt2r, .inl (cy 0, 4, .inl (fun _ => 0))), (nwt2s, .inl (cy 0, 40, .inl (fun _ => 0))), (hs, .inr (12, [.ref hsc, .ref hst, .int 0, .int (-1), .int 0])), (hsc, .inl (cy 0, 16, .inl (fun _ => 0))), (hst, .inl (cy 5, 3, .inr (.inr (.inr (.inr (va_up (va_up (va_up (fun _ => none) 0 (some hst0)) 1 (some hst1)) 2 (some hst2))))))), (hst0, .inr (13, [.ref hst0r, .ref hst0s, .int 0, .int 0, .int 0, .int 114, .int 45])), (hst0r, .inl (cy 0, 4, .inl (fun _ => 0))), (hst0s, .inl (cy 0, 40, .inl (fun _ => 0))), (hst1, .inr (13, [.ref hst1r, .ref hst1s, .int 0, .int 0, .int 0, .int 114, .int 45])), (hst1r, .inl (cy 0, 4, .inl (fun _ => 0))), (hst1s, .inl (cy 0, 40, .inl (fun _ => 0))), (hst2, .inr (13, [.ref hst2r, .ref hst2s, .int 0, .int 0, .int 0, .int 114, .int 45])), (hst2r, .inl (cy 0, 4, .inl (fun _ => 0))), (hst2s, .inl (cy 0, 40, .inl (fun _ => 0))), (hi, .inr (7, [.ref pg, .ref hs, .ref ht, .int 0]))] H := hP
  have hD : va_D A [(x, .inr (17, [.ref pg, .ref nm, .ref bp, .ref wt, .ref nw, .ref tr, .ref hi, .ref he, .ref uw, .ref vi, .ref sp, .ref sg, .int 45, .int (-1)])), (nw, .inr (12, [.ref nwc, .ref nwt, .int 0, .int (-1), .int 0])), (nwc, .inl (cy 0, 16, .inl (fun _ => 0))), (nwt, .inl (cy 5, 3, .inr (.inr (.inr (.inr (va_up (va_up (va_up (fun _ => none) 0 (some nwt0)) 1 (some nwt1)) 2 (some nwt2))))))), (nwt0, .inr (13, [.ref nwt0r, .ref nwt0s, .int 0, .int 0, .int 0, .int 114, .int 45])), (nwt0r, .inl (cy 0, 4, .inl (fun _ => 0))), (nwt0s, .inl (cy 0, 40, .inl (fun _ => 0))), (nwt1, .inr (13, [.ref nwt1r, .ref nwt1s, .int 0, .int 0, .int 0, .int 114, .int 45])), (nwt1r, .inl (cy 0, 4, .inl (fun _ => 0))), (nwt1s, .inl (cy 0, 40, .inl (fun _ => 0))), (nwt2, .inr (13, [.ref nwt2r, .ref nwt2s, .int 0, .int 0, .int 0, .int 114, .int 45])), (nwt2r, .inl (cy 0, 4, .inl (fun _ => 0))), (nwt2s, .inl (cy 0, 40, .inl (fun _ => 0))), (hs, .inr (12, [.ref hsc, .ref hst, .int 0, .int (-1), .int 0])), (hsc, .inl (cy 0, 16, .inl (fun _ => 0))), (hst, .inl (cy 5, 3, .inr (.inr (.inr (.inr (va_up (va_up (va_up (fun _ => none) 0 (some hst0)) 1 (some hst1)) 2 (some hst2))))))), (hst0, .inr (13, [.ref hst0r, .ref hst0s, .int 0, .int 0, .int 0, .int 114, .int 45])), (hst0r, .inl (cy 0, 4, .inl (fun _ => 0))), (hst0s, .inl (cy 0, 40, .inl (fun _ => 0))), (hst1, .inr (13, [.ref hst1r, .ref hst1s, .int 0, .int 0, .int 0, .int 114, .int 45])), (hst1r, .inl (cy 0, 4, .inl (fun _ => 0))), (hst1s, .inl (cy 0, 40, .inl (fun _ => 0))), (hst2, .inr (13, [.ref hst2r, .ref hst2s, .int 0, .int 0, .int 0, .int 114, .int 45])), (hst2r, .inl (cy 0, 4, .inl (fun _ => 0))), (hst2s, .inl (cy 0, 40, .inl (fun _ => 0))), (hi, .inr (7, [.ref pg, .ref hs, .ref ht, .int 0]))] := hD
  obtain rfl := hw_33
  refine lv_istore (lv' := [(4, .int 0), (0, .ref x), (1, .int p0), (2, .int p1), (3, .int p2)]) hx hb dX11_code_36 hl (by decide) rfl (fun ls hl => ?_)
  refine lv_aload_n hx hb dX11_code_38 rfl (lv_at hl 1 rfl) ?_
  refine va_get (D := D) (ci := 17) (v := .ref hi) (C := RX11) (T := TX11) (N := 14) hx hb hts inX11 hown hK hP 0 rfl rfl 6 (by decide) (hts _ K527) (fun _ h9 => h9) rfl dX11_code_39 ?_
  refine lv_aload_n hx hb dX11_code_42 rfl (lv_at hl 1 rfl) ?_
  refine va_get (D := D) (ci := 17) (v := .ref nw) (C := RX11) (T := TX11) (N := 14) hx hb hts inX11 hown hK hP 0 rfl rfl 4 (by decide) (hts _ K525) (fun _ h9 => h9) rfl dX11_code_43 ?_
  have hPc := hP.sub (ws' := [(nw, .inr (12, [.ref nwc, .ref nwt, .int 0, .int (-1), .int 0])), (nwc, .inl (cy 0, 16, .inl (fun _ => 0))), (nwt, .inl (cy 5, 3, .inr (.inr (.inr (.inr (va_up (va_up (va_up (fun _ => none) 0 (some nwt0)) 1 (some nwt1)) 2 (some nwt2))))))), (nwt0, .inr (13, [.ref nwt0r, .ref nwt0s, .int 0, .int 0, .int 0, .int 114, .int 45])), (nwt0r, .inl (cy 0, 4, .inl (fun _ => 0))), (nwt0s, .inl (cy 0, 40, .inl (fun _ => 0))), (nwt1, .inr (13, [.ref nwt1r, .ref nwt1s, .int 0, .int 0, .int 0, .int 114, .int 45])), (nwt1r, .inl (cy 0, 4, .inl (fun _ => 0))), (nwt1s, .inl (cy 0, 40, .inl (fun _ => 0))), (nwt2, .inr (13, [.ref nwt2r, .ref nwt2s, .int 0, .int 0, .int 0, .int 114, .int 45])), (nwt2r, .inl (cy 0, 4, .inl (fun _ => 0))), (nwt2s, .inl (cy 0, 40, .inl (fun _ => 0))), (hs, .inr (12, [.ref hsc, .ref hst, .int 0, .int (-1), .int 0])), (hsc, .inl (cy 0, 16, .inl (fun _ => 0))), (hst, .inl (cy 5, 3, .inr (.inr (.inr (.inr (va_up (va_up (va_up (fun _ => none) 0 (some hst0)) 1 (some hst1)) 2 (some hst2))))))), (hst0, .inr (13, [.ref hst0r, .ref hst0s, .int 0, .int 0, .int 0, .int 114, .int 45])), (hst0r, .inl (cy 0, 4, .inl (fun _ => 0))), (hst0s, .inl (cy 0, 40, .inl (fun _ => 0))), (hst1, .inr (13, [.ref hst1r, .ref hst1s, .int 0, .int 0, .int 0, .int 114, .int 45])), (hst1r, .inl (cy 0, 4, .inl (fun _ => 0))), (hst1s, .inl (cy 0, 40, .inl (fun _ => 0))), (hst2, .inr (13, [.ref hst2r, .ref hst2s, .int 0, .int 0, .int 0, .int 114, .int 45])), (hst2r, .inl (cy 0, 4, .inl (fun _ => 0))), (hst2s, .inl (cy 0, 40, .inl (fun _ => 0))), (hi, .inr (7, [.ref pg, .ref hs, .ref ht, .int 0]))]) [1, 2, 3, 4, 5, 6, 7, 8, 9, 10, 11, 12, 13, 14, 15, 16, 17, 18, 19, 20, 21, 22, 23, 24, 25] rfl
  have hDc := hD.sub (ws' := [(nw, .inr (12, [.ref nwc, .ref nwt, .int 0, .int (-1), .int 0])), (nwc, .inl (cy 0, 16, .inl (fun _ => 0))), (nwt, .inl (cy 5, 3, .inr (.inr (.inr (.inr (va_up (va_up (va_up (fun _ => none) 0 (some nwt0)) 1 (some nwt1)) 2 (some nwt2))))))), (nwt0, .inr (13, [.ref nwt0r, .ref nwt0s, .int 0, .int 0, .int 0, .int 114, .int 45])), (nwt0r, .inl (cy 0, 4, .inl (fun _ => 0))), (nwt0s, .inl (cy 0, 40, .inl (fun _ => 0))), (nwt1, .inr (13, [.ref nwt1r, .ref nwt1s, .int 0, .int 0, .int 0, .int 114, .int 45])), (nwt1r, .inl (cy 0, 4, .inl (fun _ => 0))), (nwt1s, .inl (cy 0, 40, .inl (fun _ => 0))), (nwt2, .inr (13, [.ref nwt2r, .ref nwt2s, .int 0, .int 0, .int 0, .int 114, .int 45])), (nwt2r, .inl (cy 0, 4, .inl (fun _ => 0))), (nwt2s, .inl (cy 0, 40, .inl (fun _ => 0))), (hs, .inr (12, [.ref hsc, .ref hst, .int 0, .int (-1), .int 0])), (hsc, .inl (cy 0, 16, .inl (fun _ => 0))), (hst, .inl (cy 5, 3, .inr (.inr (.inr (.inr (va_up (va_up (va_up (fun _ => none) 0 (some hst0)) 1 (some hst1)) 2 (some hst2))))))), (hst0, .inr (13, [.ref hst0r, .ref hst0s, .int 0, .int 0, .int 0, .int 114, .int 45])), (hst0r, .inl (cy 0, 4, .inl (fun _ => 0))), (hst0s, .inl (cy 0, 40, .inl (fun _ => 0))), (hst1, .inr (13, [.ref hst1r, .ref hst1s, .int 0, .int 0, .int 0, .int 114, .int 45])), (hst1r, .inl (cy 0, 4, .inl (fun _ => 0))), (hst1s, .inl (cy 0, 40, .inl (fun _ => 0))), (hst2, .inr (13, [.ref hst2r, .ref hst2s, .int 0, .int 0, .int 0, .int 114, .int 45])), (hst2r, .inl (cy 0, 4, .inl (fun _ => 0))), (hst2s, .inl (cy 0, 40, .inl (fun _ => 0))), (hi, .inr (7, [.ref pg, .ref hs, .ref ht, .int 0]))]) [1, 2, 3, 4, 5, 6, 7, 8, 9, 10, 11, 12, 13, 14, 15, 16, 17, 18, 19, 20, 21, 22, 23, 24, 25] (by decide) rfl
  have hFc := va_free (wc := [(nw, .inr (12, [.ref nwc, .ref nwt, .int 0, .int (-1), .int 0])), (nwc, .inl (cy 0, 16, .inl (fun _ => 0))), (nwt, .inl (cy 5, 3, .inr (.inr (.inr (.inr (va_up (va_up (va_up (fun _ => none) 0 (some nwt0)) 1 (some nwt1)) 2 (some nwt2))))))), (nwt0, .inr (13, [.ref nwt0r, .ref nwt0s, .int 0, .int 0, .int 0, .int 114, .int 45])), (nwt0r, .inl (cy 0, 4, .inl (fun _ => 0))), (nwt0s, .inl (cy 0, 40, .inl (fun _ => 0))), (nwt1, .inr (13, [.ref nwt1r, .ref nwt1s, .int 0, .int 0, .int 0, .int 114, .int 45])), (nwt1r, .inl (cy 0, 4, .inl (fun _ => 0))), (nwt1s, .inl (cy 0, 40, .inl (fun _ => 0))), (nwt2, .inr (13, [.ref nwt2r, .ref nwt2s, .int 0, .int 0, .int 0, .int 114, .int 45])), (nwt2r, .inl (cy 0, 4, .inl (fun _ => 0))), (nwt2s, .inl (cy 0, 40, .inl (fun _ => 0))), (hs, .inr (12, [.ref hsc, .ref hst, .int 0, .int (-1), .int 0])), (hsc, .inl (cy 0, 16, .inl (fun _ => 0))), (hst, .inl (cy 5, 3, .inr (.inr (.inr (.inr (va_up (va_up (va_up (fun _ => none) 0 (some hst0)) 1 (some hst1)) 2 (some hst2))))))), (hst0, .inr (13, [.ref hst0r, .ref hst0s, .int 0, .int 0, .int 0, .int 114, .int 45])), (hst0r, .inl (cy 0, 4, .inl (fun _ => 0))), (hst0s, .inl (cy 0, 40, .inl (fun _ => 0))), (hst1, .inr (13, [.ref hst1r, .ref hst1s, .int 0, .int 0, .int 0, .int 114, .int 45])), (hst1r, .inl (cy 0, 4, .inl (fun _ => 0))), (hst1s, .inl (cy 0, 40, .inl (fun _ => 0))), (hst2, .inr (13, [.ref hst2r, .ref hst2s, .int 0, .int 0, .int 0, .int 114, .int 45])), (hst2r, .inl (cy 0, 4, .inl (fun _ => 0))), (hst2s, .inl (cy 0, 40, .inl (fun _ => 0))), (hi, .inr (7, [.ref pg, .ref hs, .ref ht, .int 0]))]) hD hS hA [1, 2, 3, 4, 5, 6, 7, 8, 9, 10, 11, 12, 13, 14, 15, 16, 17, 18, 19, 20, 21, 22, 23, 24, 25] rfl
  refine z_callvJ (wr := [(x, .inr (17, [.ref pg, .ref nm, .ref bp, .ref wt, .ref nw, .ref tr, .ref hi, .ref he, .ref uw, .ref vi, .ref sp, .ref sg, .int 45, .int (-1)]))]) (va_runV (As := [.ref nw]) (rest := []) ⟨hx, hb, hml, hown, hts⟩ (m_begin l D cy sa nw nwc nwt nwt0 nwt0r nwt0s nwt1 nwt1r nwt1s nwt2 nwt2r nwt2s hs hsc hst hst0 hst0r hst0s hst1 hst1r hst1s hst2 hst2r hst2s hi _ pg ht) (cwV 1 hts GV_RX11_117 rfl rfl rfl ⟨rfl, HD_yX1_begin⟩ ⟨Nat.le_of_ble_eq_true rfl, Nat.le_of_ble_eq_true rfl⟩) ⟨z_blind EX_ok, va_recv hK hPc (ci := 7) (q0 := 24) rfl rfl, z_pre EX_ok hPc hK hDc hEn hS hFc⟩ rfl rfl hl.1 rfl (lv_room (Nat.le_of_ble_eq_true rfl)) dX11_code_46 ⟨Nat.le_of_ble_eq_true rfl, Nat.le_of_ble_eq_true rfl⟩) hP hD hS hA [1, 2, 3, 4, 5, 6, 7, 8, 9, 10, 11, 12, 13, 14, 15, 16, 17, 18, 19, 20, 21, 22, 23, 24, 25] [0] rfl rfl (by decide) (by decide) (fun u46 H locs hw_46 hP hD hS => ?_)
  have hP : va_P D vwCl [(x, .inr (17, [.ref pg, .ref nm, .ref bp, .ref wt, .ref nw, .ref tr, .ref hi, .ref he, .ref uw, .ref vi, .ref sp, .ref sg, .int 45, .int (-1)]))] H := hP
  have hD : va_D A [(x, .inr (17, [.ref pg, .ref nm, .ref bp, .ref wt, .ref nw, .ref tr, .ref hi, .ref he, .ref uw, .ref vi, .ref sp, .ref sg, .int 45, .int (-1)]))] := hD
  refine lv_iload hx hb dX11_code_49 (lv_at hl 0 rfl) ?_
  have hP := hP.sub (ws' := []) [] rfl
  have hD := hD.sub (ws' := []) [] (by decide) rfl
  exact z_reti () hx hb hr rfl hlocks hK (rfl) hP hD hS (Nat.le_of_ble_eq_true rfl) (Nat.le_of_ble_eq_true rfl) dX11_code_51
set_option maxHeartbeats 4000000 in
set_option maxRecDepth 100000 in
theorem m_spotCopy (l : Launch) (D : va_G) (cy : Nat → ClassId) (sa : Nat → Nat) (w10 sp : Nat) (sz : Nat) (p0 : Int32) : Met l yX5_copyFrom (Cond.code yX5_copyFrom cX5_copyFrom 2 none :: ALL) ({ frames := 1, cells := 0, slots := 0, locals := 23 }) (zPc D vwCl (TY cy) (EX sa) [.ref w10, .ref sp] [(w10, .inr (11, [.int 45, .int 0, .int 0])), (sp, .inr (11, [.int 103, .int (-1), .int p0]))] sz) (va_Qv (fun _ => True) (zB D vwCl (TY cy) (S := Unit) (fun u => [(w10, .inr (11, [.int 103, .int (-1), .int p0])), (sp, .inr (11, [.int 103, .int (-1), .int p0]))]) (va_A [(w10, .inr (11, [.int 45, .int 0, .int 0])), (sp, .inr (11, [.int 103, .int (-1), .int p0]))] sz)) (va_A [(w10, .inr (11, [.int 45, .int 0, .int 0])), (sp, .inr (11, [.int 103, .int (-1), .int p0]))] sz)) 0 0 (va_A [(w10, .inr (11, [.int 45, .int 0, .int 0])), (sp, .inr (11, [.int 103, .int (-1), .int p0]))] sz) := by
  refine z_start (Qc := fun A => va_Qv (fun _ => True) (zB D vwCl (TY cy) (S := Unit) (fun u => [(w10, .inr (11, [.int 103, .int (-1), .int p0])), (sp, .inr (11, [.int 103, .int (-1), .int p0]))]) A) A) PN_RX5 (Nat.le_of_ble_eq_true rfl) ?_
  intro p e s m below meth c A ls hx hb hr hml hts hown hlocks hin hA hP hK hD hS hEn hl
  have hown : s.vm.findClass RX5 = some m.cls := hown
  have hl : lv_has ls 2 [(0, .ref w10), (1, .ref sp)] := hl
  have hS0 := hS
  refine lv_aload_n hx hb dX5_copyFrom_0 rfl (lv_at hl 0 rfl) ?_
  refine lv_aload_n hx hb dX5_copyFrom_1 rfl (lv_at hl 1 rfl) ?_
  refine va_get (D := D) (ci := 11) (v := .int 103) (C := RX5) (T := TX5) (N := 3) hx hb hts inX5 hown hK hP 1 rfl rfl 0 (by decide) (hts _ K295) (fun _ h9 => h9) rfl dX5_copyFrom_2 ?_
  refine lv_aload_n hx hb dX5_copyFrom_5 rfl (lv_at hl 1 rfl) ?_
  refine va_get (D := D) (ci := 11) (v := .int (-1)) (C := RX5) (T := TX5) (N := 3) hx hb hts inX5 hown hK hP 1 rfl rfl 1 (by decide) (hts _ K297) (fun _ h9 => h9) rfl dX5_copyFrom_6 ?_
  refine lv_aload_n hx hb dX5_copyFrom_9 rfl (lv_at hl 1 rfl) ?_
  refine va_get (D := D) (ci := 11) (v := .int p0) (C := RX5) (T := TX5) (N := 3) hx hb hts inX5 hown hK hP 1 rfl rfl 2 (by decide) (hts _ K298) (fun _ h9 => h9) rfl dX5_copyFrom_10 ?_
  have hPc := hP.sub (ws' := [(w10, .inr (11, [.int 45, .int 0, .int 0]))]) [0] rfl
  have hDc := hD.sub (ws' := [(w10, .inr (11, [.int 45, .int 0, .int 0]))]) [0] (by decide) rfl
  have hFc := va_free (wc := [(w10, .inr (11, [.int 45, .int 0, .int 0]))]) hD hS hA [0] rfl
  refine z_callvJ (wr := [(sp, .inr (11, [.int 103, .int (-1), .int p0]))]) (va_runV (As := [.int 103, .int (-1), .int p0]) (rest := []) ⟨hx, hb, hml, hown, hts⟩ (m_become l D cy sa w10 _ 103 (-1) p0 (⟨rfl, rfl⟩)) (cwV 3 hts GV_RX5_22 rfl rfl rfl ⟨rfl, HD_yX5_become⟩ ⟨Nat.le_of_ble_eq_true rfl, Nat.le_of_ble_eq_true rfl⟩) ⟨z_blind EX_ok, va_recv hK hPc (ci := 11) (q0 := 0) rfl rfl, z_pre EX_ok hPc hK hDc hEn hS hFc⟩ rfl rfl hl.1 rfl (lv_room (Nat.le_of_ble_eq_true rfl)) dX5_copyFrom_13 ⟨Nat.le_of_ble_eq_true rfl, Nat.le_of_ble_eq_true rfl⟩) hP hD hS hA [0] [1] rfl rfl (by decide) (by decide) (fun u13 H locs hw_13 hP hD hS => ?_)
  have hP : va_P D vwCl [(sp, .inr (11, [.int 103, .int (-1), .int p0])), (w10, .inr (11, [.int 103, .int (-1), .int p0]))] H := hP
  have hD : va_D A [(sp, .inr (11, [.int 103, .int (-1), .int p0])), (w10, .inr (11, [.int 103, .int (-1), .int p0]))] := hD
  have hP := hP.sub (ws' := [(w10, .inr (11, [.int 103, .int (-1), .int p0])), (sp, .inr (11, [.int 103, .int (-1), .int p0]))]) [1, 0] rfl
  have hD := hD.sub (ws' := [(w10, .inr (11, [.int 103, .int (-1), .int p0])), (sp, .inr (11, [.int 103, .int (-1), .int p0]))]) [1, 0] (by decide) rfl
  exact z_retv () hx hb hr hlocks hK (trivial) hP hD hS (Nat.le_of_ble_eq_true rfl) (Nat.le_of_ble_eq_true rfl) dX5_copyFrom_16
set_option maxHeartbeats 4000000 in
set_option maxRecDepth 100000 in
theorem m_wordOf (l : Launch) (D : va_G) (cy : Nat → ClassId) (sa : Nat → Nat) (sp nw nwc : Nat) (sz : Nat) (nwt : Nat) (p0 : Int32) (h : bl p0 16 = 1) : Met l yX5_wordOf (Cond.code yX5_wordOf cX5_wordOf 3 (some .int) :: ALL) ({ frames := 2, cells := 0, slots := 0, locals := 42 }) (zPc D vwCl (TY cy) (EX sa) [.ref sp, .ref nw, .int 0] [(sp, .inr (11, [.int 103, .int (-1), .int p0])), (nw, .inr (12, [.ref nwc, .ref nwt, .int 0, .int (-1), .int 0])), (nwc, .inl (cy 0, 16, .inl (fun _ => 0)))] sz) (va_Qi (fun r _ => r = 0) (zB D vwCl (TY cy) (S := Unit) (fun u => []) (va_A [(sp, .inr (11, [.int 103, .int (-1), .int p0])), (nw, .inr (12, [.ref nwc, .ref nwt, .int 0, .int (-1), .int 0])), (nwc, .inl (cy 0, 16, .inl (fun _ => 0)))] sz)) (va_A [(sp, .inr (11, [.int 103, .int (-1), .int p0])), (nw, .inr (12, [.ref nwc, .ref nwt, .int 0, .int (-1), .int 0])), (nwc, .inl (cy 0, 16, .inl (fun _ => 0)))] sz)) 0 0 (va_A [(sp, .inr (11, [.int 103, .int (-1), .int p0])), (nw, .inr (12, [.ref nwc, .ref nwt, .int 0, .int (-1), .int 0])), (nwc, .inl (cy 0, 16, .inl (fun _ => 0)))] sz) := by
  refine z_start (Qc := fun A => va_Qi (fun r _ => r = 0) (zB D vwCl (TY cy) (S := Unit) (fun u => []) A) A) PN_RX5 (Nat.le_of_ble_eq_true rfl) ?_
  intro p e s m below meth c A ls hx hb hr hml hts hown hlocks hin hA hP hK hD hS hEn hl
  have hown : s.vm.findClass RX5 = some m.cls := hown
  have hl : lv_has ls 3 [(0, .ref sp), (1, .ref nw), (2, .int 0)] := hl
  have hS0 := hS
  refine lv_aload_n hx hb dX5_wordOf_0 rfl (lv_at hl 0 rfl) ?_
  refine va_get (D := D) (ci := 11) (v := .int 103) (C := RX5) (T := TX5) (N := 3) hx hb hts inX5 hown hK hP 0 rfl rfl 0 (by decide) (hts _ K295) (fun _ h9 => h9) rfl dX5_wordOf_1 ?_
  refine lv_lookup (off := 70) (tgt := 74) hx hb dX5_wordOf_4 (by decide) (by decide) (by decide) ?_
  refine lv_aload_n hx hb dX5_wordOf_74 rfl (lv_at hl 1 rfl) ?_
  refine lv_aload_n hx hb dX5_wordOf_75 rfl (lv_at hl 0 rfl) ?_
  refine va_get (D := D) (ci := 11) (v := .int p0) (C := RX5) (T := TX5) (N := 3) hx hb hts inX5 hown hK hP 0 rfl rfl 2 (by decide) (hts _ K298) (fun _ h9 => h9) rfl dX5_wordOf_76 ?_
  refine lv_iload_n hx hb dX5_wordOf_79 rfl (lv_at hl 2 rfl) ?_
  refine lv_iadd hx hb dX5_wordOf_80 ?_
  refine lv_topi (fun v_1 hv_1 => ?_)
  obtain rfl : v_1 = p0 := hv_1.trans (add0 _)
  have hPc := hP.sub (ws' := [(nw, .inr (12, [.ref nwc, .ref nwt, .int 0, .int (-1), .int 0])), (nwc, .inl (cy 0, 16, .inl (fun _ => 0)))]) [1, 2] rfl
  have hDc := hD.sub (ws' := [(nw, .inr (12, [.ref nwc, .ref nwt, .int 0, .int (-1), .int 0])), (nwc, .inl (cy 0, 16, .inl (fun _ => 0)))]) [1, 2] (by decide) rfl
  have hFc := va_free (wc := [(nw, .inr (12, [.ref nwc, .ref nwt, .int 0, .int (-1), .int 0])), (nwc, .inl (cy 0, 16, .inl (fun _ => 0)))]) hD hS hA [1, 2] rfl
  refine z_calliJ (wr := [(sp, .inr (11, [.int 103, .int (-1), .int p0]))]) (va_runV (As := [.int p0]) (rest := []) ⟨hx, hb, hml, hown, hts⟩ (m_cellAt l D cy sa nw nwc _ nwt p0 h) (cwV 1 hts GV_RX5_45 rfl rfl rfl ⟨rfl, HD_yX6_cellAt⟩ ⟨Nat.le_of_ble_eq_true rfl, Nat.le_of_ble_eq_true rfl⟩) ⟨z_blind EX_ok, va_recv hK hPc (ci := 12) (q0 := 0) rfl rfl, z_pre EX_ok hPc hK hDc hEn hS hFc⟩ rfl rfl hl.1 rfl (lv_room (Nat.le_of_ble_eq_true rfl)) dX5_wordOf_81 ⟨Nat.le_of_ble_eq_true rfl, Nat.le_of_ble_eq_true rfl⟩) hP hD hS hA [1, 2] [0] rfl rfl (by decide) (by decide) (fun r_81 u81 H locs hw_81 hP hD hS => ?_)
  have hP : va_P D vwCl [(sp, .inr (11, [.int 103, .int (-1), .int p0])), (nw, .inr (12, [.ref nwc, .ref nwt, .int 0, .int (-1), .int 0])), (nwc, .inl (cy 0, 16, .inl (fun _ => 0)))] H := hP
  have hD : va_D A [(sp, .inr (11, [.int 103, .int (-1), .int p0])), (nw, .inr (12, [.ref nwc, .ref nwt, .int 0, .int (-1), .int 0])), (nwc, .inl (cy 0, 16, .inl (fun _ => 0)))] := hD
  obtain rfl := hw_81
  have hP := hP.sub (ws' := []) [] rfl
  have hD := hD.sub (ws' := []) [] (by decide) rfl
  exact z_reti () hx hb hr rfl hlocks hK (rfl) hP hD hS (Nat.le_of_ble_eq_true rfl) (Nat.le_of_ble_eq_true rfl) dX5_wordOf_84
set_option maxHeartbeats 4000000 in
set_option maxRecDepth 100000 in
theorem m_wtAdd (l : Launch) (D : va_G) (cy : Nat → ClassId) (sa : Nat → Nat) (wt w1 w10 w2 nw nwc sp : Nat) (sz : Nat) (w3 w11 w12 w13 nwt : Nat) (p0 : Int32) (h : bl p0 16 = 1) : Met l yX10_add (Cond.code yX10_add cX10_add 3 (some .int) :: ALL) ({ frames := 3, cells := 0, slots := 0, locals := 64 }) (zPc D vwCl (TY cy) (EX sa) [.ref wt, .ref sp, .ref nw] [(wt, .inr (16, [.ref w1, .ref w2, .ref w3, .int 0])), (w1, .inl (cy 6, 4, .inr (.inr (.inr (.inr (va_up (va_up (va_up (va_up (fun _ => none) 0 (some w10)) 1 (some w11)) 2 (some w12)) 3 (some w13))))))), (w10, .inr (11, [.int 45, .int 0, .int 0])), (w2, .inl (cy 0, 4, .inl (fun _ => 0))), (nw, .inr (12, [.ref nwc, .ref nwt, .int 0, .int (-1), .int 0])), (nwc, .inl (cy 0, 16, .inl (fun _ => 0))), (sp, .inr (11, [.int 103, .int (-1), .int p0]))] sz) (va_Qi (fun r _ => r = 0) (zB D vwCl (TY cy) (S := Unit) (fun u => []) (va_A [(wt, .inr (16, [.ref w1, .ref w2, .ref w3, .int 0])), (w1, .inl (cy 6, 4, .inr (.inr (.inr (.inr (va_up (va_up (va_up (va_up (fun _ => none) 0 (some w10)) 1 (some w11)) 2 (some w12)) 3 (some w13))))))), (w10, .inr (11, [.int 45, .int 0, .int 0])), (w2, .inl (cy 0, 4, .inl (fun _ => 0))), (nw, .inr (12, [.ref nwc, .ref nwt, .int 0, .int (-1), .int 0])), (nwc, .inl (cy 0, 16, .inl (fun _ => 0))), (sp, .inr (11, [.int 103, .int (-1), .int p0]))] sz)) (va_A [(wt, .inr (16, [.ref w1, .ref w2, .ref w3, .int 0])), (w1, .inl (cy 6, 4, .inr (.inr (.inr (.inr (va_up (va_up (va_up (va_up (fun _ => none) 0 (some w10)) 1 (some w11)) 2 (some w12)) 3 (some w13))))))), (w10, .inr (11, [.int 45, .int 0, .int 0])), (w2, .inl (cy 0, 4, .inl (fun _ => 0))), (nw, .inr (12, [.ref nwc, .ref nwt, .int 0, .int (-1), .int 0])), (nwc, .inl (cy 0, 16, .inl (fun _ => 0))), (sp, .inr (11, [.int 103, .int (-1), .int p0]))] sz)) 0 0 (va_A [(wt, .inr (16, [.ref w1, .ref w2, .ref w3, .int 0])), (w1, .inl (cy 6, 4, .inr (.inr (.inr (.inr (va_up (va_up (va_up (va_up (fun _ => none) 0 (some w10)) 1 (some w11)) 2 (some w12)) 3 (some w13))))))), (w10, .inr (11, [.int 45, .int 0, .int 0])), (w2, .inl (cy 0, 4, .inl (fun _ => 0))), (nw, .inr (12, [.ref nwc, .ref nwt, .int 0, .int (-1), .int 0])), (nwc, .inl (cy 0, 16, .inl (fun _ => 0))), (sp, .inr (11, [.int 103, .int (-1), .int p0]))] sz) := by
  refine z_start (Qc := fun A => va_Qi (fun r _ => r = 0) (zB D vwCl (TY cy) (S := Unit) (fun u => []) A) A) PN_RX10 (Nat.le_of_ble_eq_true rfl) ?_
  intro p e s m below meth c A ls hx hb hr hml hts hown hlocks hin hA hP hK hD hS hEn hl
  have hown : s.vm.findClass RX10 = some m.cls := hown
  have hl : lv_has ls 3 [(0, .ref wt), (1, .ref sp), (2, .ref nw)] := hl
  have hS0 := hS
  refine lv_aload_n hx hb dX10_add_0 rfl (lv_at hl 0 rfl) ?_
  have hPc := hP.sub (ws' := [(wt, .inr (16, [.ref w1, .ref w2, .ref w3, .int 0]))]) [0] rfl
  have hDc := hD.sub (ws' := [(wt, .inr (16, [.ref w1, .ref w2, .ref w3, .int 0]))]) [0] (by decide) rfl
  have hFc := va_free (wc := [(wt, .inr (16, [.ref w1, .ref w2, .ref w3, .int 0]))]) hD hS hA [0] rfl
  refine z_calliJ (wr := [(w1, .inl (cy 6, 4, .inr (.inr (.inr (.inr (va_up (va_up (va_up (va_up (fun _ => none) 0 (some w10)) 1 (some w11)) 2 (some w12)) 3 (some w13))))))), (w10, .inr (11, [.int 45, .int 0, .int 0])), (w2, .inl (cy 0, 4, .inl (fun _ => 0))), (nw, .inr (12, [.ref nwc, .ref nwt, .int 0, .int (-1), .int 0])), (nwc, .inl (cy 0, 16, .inl (fun _ => 0))), (sp, .inr (11, [.int 103, .int (-1), .int p0]))]) (va_runV (As := []) (rest := []) ⟨hx, hb, hml, hown, hts⟩ (m_wtFull l D cy sa wt _ w1 w2 w3) (cwV 0 hts GV_RX10_30 rfl rfl rfl ⟨rfl, HD_yX10_isFull⟩ ⟨Nat.le_of_ble_eq_true rfl, Nat.le_of_ble_eq_true rfl⟩) ⟨z_blind EX_ok, va_recv hK hPc (ci := 16) (q0 := 0) rfl rfl, z_pre EX_ok hPc hK hDc hEn hS hFc⟩ rfl rfl hl.1 rfl (lv_room (Nat.le_of_ble_eq_true rfl)) dX10_add_1 ⟨Nat.le_of_ble_eq_true rfl, Nat.le_of_ble_eq_true rfl⟩) hP hD hS hA [0] [1, 2, 3, 4, 5, 6] rfl rfl (by decide) (by decide) (fun r_1 u1 H locs hw_1 hP hD hS => ?_)
  have hP : va_P D vwCl [(w1, .inl (cy 6, 4, .inr (.inr (.inr (.inr (va_up (va_up (va_up (va_up (fun _ => none) 0 (some w10)) 1 (some w11)) 2 (some w12)) 3 (some w13))))))), (w10, .inr (11, [.int 45, .int 0, .int 0])), (w2, .inl (cy 0, 4, .inl (fun _ => 0))), (nw, .inr (12, [.ref nwc, .ref nwt, .int 0, .int (-1), .int 0])), (nwc, .inl (cy 0, 16, .inl (fun _ => 0))), (sp, .inr (11, [.int 103, .int (-1), .int p0])), (wt, .inr (16, [.ref w1, .ref w2, .ref w3, .int 0]))] H := hP
  have hD : va_D A [(w1, .inl (cy 6, 4, .inr (.inr (.inr (.inr (va_up (va_up (va_up (va_up (fun _ => none) 0 (some w10)) 1 (some w11)) 2 (some w12)) 3 (some w13))))))), (w10, .inr (11, [.int 45, .int 0, .int 0])), (w2, .inl (cy 0, 4, .inl (fun _ => 0))), (nw, .inr (12, [.ref nwc, .ref nwt, .int 0, .int (-1), .int 0])), (nwc, .inl (cy 0, 16, .inl (fun _ => 0))), (sp, .inr (11, [.int 103, .int (-1), .int p0])), (wt, .inr (16, [.ref w1, .ref w2, .ref w3, .int 0]))] := hD
  obtain rfl := hw_1
  refine lv_if_eq (tgt := 9) hx hb dX10_add_4 (by decide) (fun _ => ?_) (fun c_4 => absurd (by decide) c_4)
  refine lv_aload_n hx hb dX10_add_9 rfl (lv_at hl 0 rfl) ?_
  refine va_get (D := D) (ci := 16) (v := .ref w1) (C := RX10) (T := TX10) (N := 4) hx hb hts inX10 hown hK hP 6 rfl rfl 0 (by decide) (hts _ K357) (fun _ h9 => h9) rfl dX10_add_10 ?_
  refine lv_aload_n hx hb dX10_add_13 rfl (lv_at hl 0 rfl) ?_
  refine va_get (D := D) (ci := 16) (v := .int 0) (C := RX10) (T := TX10) (N := 4) hx hb hts inX10 hown hK hP 6 rfl rfl 3 (by decide) (hts _ K360) (fun _ h9 => h9) rfl dX10_add_14 ?_
  refine va_aldq hx hb hK hP 0 6 rfl rfl (by unfold vp_in; decide) dX10_add_17 ?_
  refine W.eq (g2 := F0 m 18 ls [.ref w10]) rfl ?_
  refine lv_aload_n hx hb dX10_add_18 rfl (lv_at hl 1 rfl) ?_
  have hPc := hP.sub (ws' := [(w10, .inr (11, [.int 45, .int 0, .int 0])), (sp, .inr (11, [.int 103, .int (-1), .int p0]))]) [1, 5] rfl
  have hDc := hD.sub (ws' := [(w10, .inr (11, [.int 45, .int 0, .int 0])), (sp, .inr (11, [.int 103, .int (-1), .int p0]))]) [1, 5] (by decide) rfl
  have hFc := va_free (wc := [(w10, .inr (11, [.int 45, .int 0, .int 0])), (sp, .inr (11, [.int 103, .int (-1), .int p0]))]) hD hS hA [1, 5] rfl
  refine z_callvJ (wr := [(w1, .inl (cy 6, 4, .inr (.inr (.inr (.inr (va_up (va_up (va_up (va_up (fun _ => none) 0 (some w10)) 1 (some w11)) 2 (some w12)) 3 (some w13))))))), (w2, .inl (cy 0, 4, .inl (fun _ => 0))), (nw, .inr (12, [.ref nwc, .ref nwt, .int 0, .int (-1), .int 0])), (nwc, .inl (cy 0, 16, .inl (fun _ => 0))), (wt, .inr (16, [.ref w1, .ref w2, .ref w3, .int 0]))]) (va_runV (As := [.ref sp]) (rest := []) ⟨hx, hb, hml, hown, hts⟩ (m_spotCopy l D cy sa w10 sp _ p0) (cwV 1 hts GV_RX10_34 rfl rfl rfl ⟨rfl, HD_yX5_copyFrom⟩ ⟨Nat.le_of_ble_eq_true rfl, Nat.le_of_ble_eq_true rfl⟩) ⟨z_blind EX_ok, va_recv hK hPc (ci := 11) (q0 := 0) rfl rfl, z_pre EX_ok hPc hK hDc hEn hS hFc⟩ rfl rfl hl.1 rfl (lv_room (Nat.le_of_ble_eq_true rfl)) dX10_add_19 ⟨Nat.le_of_ble_eq_true rfl, Nat.le_of_ble_eq_true rfl⟩) hP hD hS hA [1, 5] [0, 2, 3, 4, 6] rfl rfl (by decide) (by decide) (fun u19 H locs hw_19 hP hD hS => ?_)
  have hP : va_P D vwCl [(w1, .inl (cy 6, 4, .inr (.inr (.inr (.inr (va_up (va_up (va_up (va_up (fun _ => none) 0 (some w10)) 1 (some w11)) 2 (some w12)) 3 (some w13))))))), (w2, .inl (cy 0, 4, .inl (fun _ => 0))), (nw, .inr (12, [.ref nwc, .ref nwt, .int 0, .int (-1), .int 0])), (nwc, .inl (cy 0, 16, .inl (fun _ => 0))), (wt, .inr (16, [.ref w1, .ref w2, .ref w3, .int 0])), (w10, .inr (11, [.int 103, .int (-1), .int p0])), (sp, .inr (11, [.int 103, .int (-1), .int p0]))] H := hP
  have hD : va_D A [(w1, .inl (cy 6, 4, .inr (.inr (.inr (.inr (va_up (va_up (va_up (va_up (fun _ => none) 0 (some w10)) 1 (some w11)) 2 (some w12)) 3 (some w13))))))), (w2, .inl (cy 0, 4, .inl (fun _ => 0))), (nw, .inr (12, [.ref nwc, .ref nwt, .int 0, .int (-1), .int 0])), (nwc, .inl (cy 0, 16, .inl (fun _ => 0))), (wt, .inr (16, [.ref w1, .ref w2, .ref w3, .int 0])), (w10, .inr (11, [.int 103, .int (-1), .int p0])), (sp, .inr (11, [.int 103, .int (-1), .int p0]))] := hD
  refine lv_aload_n hx hb dX10_add_22 rfl (lv_at hl 0 rfl) ?_
  refine va_get (D := D) (ci := 16) (v := .ref w2) (C := RX10) (T := TX10) (N := 4) hx hb hts inX10 hown hK hP 4 rfl rfl 1 (by decide) (hts _ K358) (fun _ h9 => h9) rfl dX10_add_23 ?_
  refine lv_aload_n hx hb dX10_add_26 rfl (lv_at hl 0 rfl) ?_
  refine va_get (D := D) (ci := 16) (v := .int 0) (C := RX10) (T := TX10) (N := 4) hx hb hts inX10 hown hK hP 4 rfl rfl 3 (by decide) (hts _ K360) (fun _ h9 => h9) rfl dX10_add_27 ?_
  refine lv_aload_n hx hb dX10_add_30 rfl (lv_at hl 1 rfl) ?_
  refine lv_aload_n hx hb dX10_add_31 rfl (lv_at hl 2 rfl) ?_
  refine lv_iconst (v := 0) hx hb dX10_add_32 (by decide) ?_
  have hPc := hP.sub (ws' := [(sp, .inr (11, [.int 103, .int (-1), .int p0])), (nw, .inr (12, [.ref nwc, .ref nwt, .int 0, .int (-1), .int 0])), (nwc, .inl (cy 0, 16, .inl (fun _ => 0)))]) [6, 2, 3] rfl
  have hDc := hD.sub (ws' := [(sp, .inr (11, [.int 103, .int (-1), .int p0])), (nw, .inr (12, [.ref nwc, .ref nwt, .int 0, .int (-1), .int 0])), (nwc, .inl (cy 0, 16, .inl (fun _ => 0)))]) [6, 2, 3] (by decide) rfl
  have hFc := va_free (wc := [(sp, .inr (11, [.int 103, .int (-1), .int p0])), (nw, .inr (12, [.ref nwc, .ref nwt, .int 0, .int (-1), .int 0])), (nwc, .inl (cy 0, 16, .inl (fun _ => 0)))]) hD hS hA [6, 2, 3] rfl
  refine z_calliJ (wr := [(w1, .inl (cy 6, 4, .inr (.inr (.inr (.inr (va_up (va_up (va_up (va_up (fun _ => none) 0 (some w10)) 1 (some w11)) 2 (some w12)) 3 (some w13))))))), (w2, .inl (cy 0, 4, .inl (fun _ => 0))), (wt, .inr (16, [.ref w1, .ref w2, .ref w3, .int 0])), (w10, .inr (11, [.int 103, .int (-1), .int p0]))]) (va_runV (As := [.ref nw, .int 0]) (rest := [.int 0, .ref w2]) ⟨hx, hb, hml, hown, hts⟩ (m_wordOf l D cy sa sp nw nwc _ nwt p0 h) (cwV 2 hts GV_RX10_38 rfl rfl rfl ⟨rfl, HD_yX5_wordOf⟩ ⟨Nat.le_of_ble_eq_true rfl, Nat.le_of_ble_eq_true rfl⟩) ⟨z_blind EX_ok, va_recv hK hPc (ci := 11) (q0 := 0) rfl rfl, z_pre EX_ok hPc hK hDc hEn hS hFc⟩ rfl rfl hl.1 rfl (lv_room (Nat.le_of_ble_eq_true rfl)) dX10_add_33 ⟨Nat.le_of_ble_eq_true rfl, Nat.le_of_ble_eq_true rfl⟩) hP hD hS hA [6, 2, 3] [0, 1, 4, 5] rfl rfl (by decide) (by decide) (fun r_33 u33 H locs hw_33 hP hD hS => ?_)
  have hP : va_P D vwCl [(w1, .inl (cy 6, 4, .inr (.inr (.inr (.inr (va_up (va_up (va_up (va_up (fun _ => none) 0 (some w10)) 1 (some w11)) 2 (some w12)) 3 (some w13))))))), (w2, .inl (cy 0, 4, .inl (fun _ => 0))), (wt, .inr (16, [.ref w1, .ref w2, .ref w3, .int 0])), (w10, .inr (11, [.int 103, .int (-1), .int p0]))] H := hP
  have hD : va_D A [(w1, .inl (cy 6, 4, .inr (.inr (.inr (.inr (va_up (va_up (va_up (va_up (fun _ => none) 0 (some w10)) 1 (some w11)) 2 (some w12)) 3 (some w13))))))), (w2, .inl (cy 0, 4, .inl (fun _ => 0))), (wt, .inr (16, [.ref w1, .ref w2, .ref w3, .int 0])), (w10, .inr (11, [.int 103, .int (-1), .int p0]))] := hD
  obtain rfl := hw_33
  refine va_iast hx hb hK hP hD hS 1 0 rfl rfl (by unfold vp_in; decide) dX10_add_36 (fun H locs hP hD hS => ?_)
  have hP : va_P D vwCl [(w1, .inl (cy 6, 4, .inr (.inr (.inr (.inr (va_up (va_up (va_up (va_up (fun _ => none) 0 (some w10)) 1 (some w11)) 2 (some w12)) 3 (some w13))))))), (w2, .inl (cy 0, 4, .inl (upd (fun _ => 0) 0 0))), (wt, .inr (16, [.ref w1, .ref w2, .ref w3, .int 0])), (w10, .inr (11, [.int 103, .int (-1), .int p0]))] H := hP
  have hD : va_D A [(w1, .inl (cy 6, 4, .inr (.inr (.inr (.inr (va_up (va_up (va_up (va_up (fun _ => none) 0 (some w10)) 1 (some w11)) 2 (some w12)) 3 (some w13))))))), (w2, .inl (cy 0, 4, .inl (upd (fun _ => 0) 0 0))), (wt, .inr (16, [.ref w1, .ref w2, .ref w3, .int 0])), (w10, .inr (11, [.int 103, .int (-1), .int p0]))] := hD
  refine lv_aload_n hx hb dX10_add_37 rfl (lv_at hl 0 rfl) ?_
  refine lv_dup hx hb dX10_add_38 rfl ?_
  refine va_get (D := D) (ci := 16) (v := .int 0) (C := RX10) (T := TX10) (N := 4) hx hb hts inX10 hown hK hP 2 rfl rfl 3 (by decide) (hts _ K360) (fun _ h9 => h9) rfl dX10_add_39 ?_
  refine lv_iconst (v := 1) hx hb dX10_add_42 (by decide) ?_
  refine lv_iadd hx hb dX10_add_43 ?_
  refine lv_topi (fun v_1 hv_1 => ?_)
  obtain rfl : v_1 = 1 := hv_1.trans (by decide)
  refine va_put (D := D) (ci := 16) (v := .int 1) (ty := .int) (C := RX10) (T := TX10) (N := 4) hx hb hts inX10 tyX10 tyX10_ok nmX10 hown hK hP hD hS 2 rfl rfl 3 (by decide) (hts _ K360) (fun _ h9 => h9) rfl (by decide +kernel) rfl rfl (Nat.le_of_ble_eq_true rfl) dX10_add_44 (fun H locs hP hD hS => ?_)
  have hP : va_P D vwCl [(w1, .inl (cy 6, 4, .inr (.inr (.inr (.inr (va_up (va_up (va_up (va_up (fun _ => none) 0 (some w10)) 1 (some w11)) 2 (some w12)) 3 (some w13))))))), (w2, .inl (cy 0, 4, .inl (upd (fun _ => 0) 0 0))), (wt, .inr (16, [.ref w1, .ref w2, .ref w3, .int 1])), (w10, .inr (11, [.int 103, .int (-1), .int p0]))] H := hP
  have hD : va_D A [(w1, .inl (cy 6, 4, .inr (.inr (.inr (.inr (va_up (va_up (va_up (va_up (fun _ => none) 0 (some w10)) 1 (some w11)) 2 (some w12)) 3 (some w13))))))), (w2, .inl (cy 0, 4, .inl (upd (fun _ => 0) 0 0))), (wt, .inr (16, [.ref w1, .ref w2, .ref w3, .int 1])), (w10, .inr (11, [.int 103, .int (-1), .int p0]))] := hD
  refine lv_aload_n hx hb dX10_add_47 rfl (lv_at hl 0 rfl) ?_
  refine va_get (D := D) (ci := 16) (v := .int 1) (C := RX10) (T := TX10) (N := 4) hx hb hts inX10 hown hK hP 2 rfl rfl 3 (by decide) (hts _ K360) (fun _ h9 => h9) rfl dX10_add_48 ?_
  refine lv_iconst (v := 1) hx hb dX10_add_51 (by decide) ?_
  refine lv_isub hx hb dX10_add_52 ?_
  refine lv_topi (fun v_2 hv_2 => ?_)
  obtain rfl : v_2 = 0 := hv_2.trans (by decide)
  have hP := hP.sub (ws' := []) [] rfl
  have hD := hD.sub (ws' := []) [] (by decide) rfl
  exact z_reti () hx hb hr rfl hlocks hK (rfl) hP hD hS (Nat.le_of_ble_eq_true rfl) (Nat.le_of_ble_eq_true rfl) dX10_add_53
set_option maxHeartbeats 4000000 in
set_option maxRecDepth 100000 in
theorem m_watch1 (l : Launch) (D : va_G) (cy : Nat → ClassId) (sa : Nat → Nat) (x wt w1 w10 w2 nw nwc sp : Nat) (sz : Nat) (pg nm bp tr hi he uw vi sg w3 w11 w12 w13 nwt : Nat) (p0 : Int32) (h : bl p0 16 = 1) : Met l yX11_watch (Cond.code yX11_watch cX11_watch 2 (some .int) :: ALL) ({ frames := 4, cells := 0, slots := 0, locals := 86 }) (zPc D vwCl (TY cy) (EX sa) [.ref x, .int p0] [(x, .inr (17, [.ref pg, .ref nm, .ref bp, .ref wt, .ref nw, .ref tr, .ref hi, .ref he, .ref uw, .ref vi, .ref sp, .ref sg, .int 45, .int (-1)])), (wt, .inr (16, [.ref w1, .ref w2, .ref w3, .int 0])), (w1, .inl (cy 6, 4, .inr (.inr (.inr (.inr (va_up (va_up (va_up (va_up (fun _ => none) 0 (some w10)) 1 (some w11)) 2 (some w12)) 3 (some w13))))))), (w10, .inr (11, [.int 45, .int 0, .int 0])), (w2, .inl (cy 0, 4, .inl (fun _ => 0))), (nw, .inr (12, [.ref nwc, .ref nwt, .int 0, .int (-1), .int 0])), (nwc, .inl (cy 0, 16, .inl (fun _ => 0))), (sp, .inr (11, [.int 45, .int 0, .int 0]))] sz) (va_Qi (fun r _ => r = 0) (zB D vwCl (TY cy) (S := Unit) (fun u => []) (va_A [(x, .inr (17, [.ref pg, .ref nm, .ref bp, .ref wt, .ref nw, .ref tr, .ref hi, .ref he, .ref uw, .ref vi, .ref sp, .ref sg, .int 45, .int (-1)])), (wt, .inr (16, [.ref w1, .ref w2, .ref w3, .int 0])), (w1, .inl (cy 6, 4, .inr (.inr (.inr (.inr (va_up (va_up (va_up (va_up (fun _ => none) 0 (some w10)) 1 (some w11)) 2 (some w12)) 3 (some w13))))))), (w10, .inr (11, [.int 45, .int 0, .int 0])), (w2, .inl (cy 0, 4, .inl (fun _ => 0))), (nw, .inr (12, [.ref nwc, .ref nwt, .int 0, .int (-1), .int 0])), (nwc, .inl (cy 0, 16, .inl (fun _ => 0))), (sp, .inr (11, [.int 45, .int 0, .int 0]))] sz)) (va_A [(x, .inr (17, [.ref pg, .ref nm, .ref bp, .ref wt, .ref nw, .ref tr, .ref hi, .ref he, .ref uw, .ref vi, .ref sp, .ref sg, .int 45, .int (-1)])), (wt, .inr (16, [.ref w1, .ref w2, .ref w3, .int 0])), (w1, .inl (cy 6, 4, .inr (.inr (.inr (.inr (va_up (va_up (va_up (va_up (fun _ => none) 0 (some w10)) 1 (some w11)) 2 (some w12)) 3 (some w13))))))), (w10, .inr (11, [.int 45, .int 0, .int 0])), (w2, .inl (cy 0, 4, .inl (fun _ => 0))), (nw, .inr (12, [.ref nwc, .ref nwt, .int 0, .int (-1), .int 0])), (nwc, .inl (cy 0, 16, .inl (fun _ => 0))), (sp, .inr (11, [.int 45, .int 0, .int 0]))] sz)) 0 0 (va_A [(x, .inr (17, [.ref pg, .ref nm, .ref bp, .ref wt, .ref nw, .ref tr, .ref hi, .ref he, .ref uw, .ref vi, .ref sp, .ref sg, .int 45, .int (-1)])), (wt, .inr (16, [.ref w1, .ref w2, .ref w3, .int 0])), (w1, .inl (cy 6, 4, .inr (.inr (.inr (.inr (va_up (va_up (va_up (va_up (fun _ => none) 0 (some w10)) 1 (some w11)) 2 (some w12)) 3 (some w13))))))), (w10, .inr (11, [.int 45, .int 0, .int 0])), (w2, .inl (cy 0, 4, .inl (fun _ => 0))), (nw, .inr (12, [.ref nwc, .ref nwt, .int 0, .int (-1), .int 0])), (nwc, .inl (cy 0, 16, .inl (fun _ => 0))), (sp, .inr (11, [.int 45, .int 0, .int 0]))] sz) := by
  refine z_start (Qc := fun A => va_Qi (fun r _ => r = 0) (zB D vwCl (TY cy) (S := Unit) (fun u => []) A) A) PN_RX11 (Nat.le_of_ble_eq_true rfl) ?_
  intro p e s m below meth c A ls hx hb hr hml hts hown hlocks hin hA hP hK hD hS hEn hl
  have hown : s.vm.findClass RX11 = some m.cls := hown
  have hl : lv_has ls 2 [(0, .ref x), (1, .int p0)] := hl
  have hS0 := hS
  refine lv_iload_n hx hb dX11_watch_0 rfl (lv_at hl 1 rfl) ?_
  have hPc := hP.sub (ws' := []) [] rfl
  have hDc := hD.sub (ws' := []) [] (by decide) rfl
  have hFc := va_free (wc := []) hD hS hA [] rfl
  refine z_callvJ (wr := [(x, .inr (17, [.ref pg, .ref nm, .ref bp, .ref wt, .ref nw, .ref tr, .ref hi, .ref he, .ref uw, .ref vi, .ref sp, .ref sg, .int 45, .int (-1)])), (wt, .inr (16, [.ref w1, .ref w2, .ref w3, .int 0])), (w1, .inl (cy 6, 4, .inr (.inr (.inr (.inr (va_up (va_up (va_up (va_up (fun _ => none) 0 (some w10)) 1 (some w11)) 2 (some w12)) 3 (some w13))))))), (w10, .inr (11, [.int 45, .int 0, .int 0])), (w2, .inl (cy 0, 4, .inl (fun _ => 0))), (nw, .inr (12, [.ref nwc, .ref nwt, .int 0, .int (-1), .int 0])), (nwc, .inl (cy 0, 16, .inl (fun _ => 0))), (sp, .inr (11, [.int 45, .int 0, .int 0]))]) (va_runS (As := [.int p0]) (rest := []) ⟨hx, hb, hml, hown, hts⟩ (m_needCell1 l D cy sa _ p0 h) (va_cwS 1 hts GS_RX11_300 rfl rfl rfl HD_yX11_needCell ⟨Nat.le_of_ble_eq_true rfl, Nat.le_of_ble_eq_true rfl⟩) ⟨z_blind EX_ok, z_pre EX_ok hPc hK hDc hEn hS hFc⟩ rfl rfl hl.1 rfl (lv_room (Nat.le_of_ble_eq_true rfl)) dX11_watch_1 ⟨Nat.le_of_ble_eq_true rfl, Nat.le_of_ble_eq_true rfl⟩) hP hD hS hA [] [0, 1, 2, 3, 4, 5, 6, 7] rfl rfl (by decide) (by decide) (fun u1 H locs hw_1 hP hD hS => ?_)
  have hP : va_P D vwCl [(x, .inr (17, [.ref pg, .ref nm, .ref bp, .ref wt, .ref nw, .ref tr, .ref hi, .ref he, .ref uw, .ref vi, .ref sp, .ref sg, .int 45, .int (-1)])), (wt, .inr (16, [.ref w1, .ref w2, .ref w3, .int 0])), (w1, .inl (cy 6, 4, .inr (.inr (.inr (.inr (va_up (va_up (va_up (va_up (fun _ => none) 0 (some w10)) 1 (some w11)) 2 (some w12)) 3 (some w13))))))), (w10, .inr (11, [.int 45, .int 0, .int 0])), (w2, .inl (cy 0, 4, .inl (fun _ => 0))), (nw, .inr (12, [.ref nwc, .ref nwt, .int 0, .int (-1), .int 0])), (nwc, .inl (cy 0, 16, .inl (fun _ => 0))), (sp, .inr (11, [.int 45, .int 0, .int 0]))] H := hP
  have hD : va_D A [(x, .inr (17, [.ref pg, .ref nm, .ref bp, .ref wt, .ref nw, .ref tr, .ref hi, .ref he, .ref uw, .ref vi, .ref sp, .ref sg, .int 45, .int (-1)])), (wt, .inr (16, [.ref w1, .ref w2, .ref w3, .int 0])), (w1, .inl (cy 6, 4, .inr (.inr (.inr (.inr (va_up (va_up (va_up (va_up (fun _ => none) 0 (some w10)) 1 (some w11)) 2 (some w12)) 3 (some w13))))))), (w10, .inr (11, [.int 45, .int 0, .int 0])), (w2, .inl (cy 0, 4, .inl (fun _ => 0))), (nw, .inr (12, [.ref nwc, .ref nwt, .int 0, .int (-1), .int 0])), (nwc, .inl (cy 0, 16, .inl (fun _ => 0))), (sp, .inr (11, [.int 45, .int 0, .int 0]))] := hD
  refine lv_aload_n hx hb dX11_watch_4 rfl (lv_at hl 0 rfl) ?_
  have hPc := hP.sub (ws' := [(x, .inr (17, [.ref pg, .ref nm, .ref bp, .ref wt, .ref nw, .ref tr, .ref hi, .ref he, .ref uw, .ref vi, .ref sp, .ref sg, .int 45, .int (-1)])), (wt, .inr (16, [.ref w1, .ref w2, .ref w3, .int 0]))]) [0, 1] rfl
  have hDc := hD.sub (ws' := [(x, .inr (17, [.ref pg, .ref nm, .ref bp, .ref wt, .ref nw, .ref tr, .ref hi, .ref he, .ref uw, .ref vi, .ref sp, .ref sg, .int 45, .int (-1)])), (wt, .inr (16, [.ref w1, .ref w2, .ref w3, .int 0]))]) [0, 1] (by decide) rfl
  have hFc := va_free (wc := [(x, .inr (17, [.ref pg, .ref nm, .ref bp, .ref wt, .ref nw, .ref tr, .ref hi, .ref he, .ref uw, .ref vi, .ref sp, .ref sg, .int 45, .int (-1)])), (wt, .inr (16, [.ref w1, .ref w2, .ref w3, .int 0]))]) hD hS hA [0, 1] rfl
  refine z_callvJ (wr := [(w1, .inl (cy 6, 4, .inr (.inr (.inr (.inr (va_up (va_up (va_up (va_up (fun _ => none) 0 (some w10)) 1 (some w11)) 2 (some w12)) 3 (some w13))))))), (w10, .inr (11, [.int 45, .int 0, .int 0])), (w2, .inl (cy 0, 4, .inl (fun _ => 0))), (nw, .inr (12, [.ref nwc, .ref nwt, .int 0, .int (-1), .int 0])), (nwc, .inl (cy 0, 16, .inl (fun _ => 0))), (sp, .inr (11, [.int 45, .int 0, .int 0]))]) (va_runV (As := []) (rest := []) ⟨hx, hb, hml, hown, hts⟩ (m_needRoomW l D cy sa x wt _ pg nm bp nw tr hi he uw vi sp sg w1 w2 w3) (cwV 0 hts GV_RX11_413 rfl rfl rfl ⟨rfl, HD_yX11_needRoomForWatch⟩ ⟨Nat.le_of_ble_eq_true rfl, Nat.le_of_ble_eq_true rfl⟩) ⟨z_blind EX_ok, va_recv hK hPc (ci := 17) (q0 := 0) rfl rfl, z_pre EX_ok hPc hK hDc hEn hS hFc⟩ rfl rfl hl.1 rfl (lv_room (Nat.le_of_ble_eq_true rfl)) dX11_watch_5 ⟨Nat.le_of_ble_eq_true rfl, Nat.le_of_ble_eq_true rfl⟩) hP hD hS hA [0, 1] [2, 3, 4, 5, 6, 7] rfl rfl (by decide) (by decide) (fun u5 H locs hw_5 hP hD hS => ?_)
  have hP : va_P D vwCl [(w1, .inl (cy 6, 4, .inr (.inr (.inr (.inr (va_up (va_up (va_up (va_up (fun _ => none) 0 (some w10)) 1 (some w11)) 2 (some w12)) 3 (some w13))))))), (w10, .inr (11, [.int 45, .int 0, .int 0])), (w2, .inl (cy 0, 4, .inl (fun _ => 0))), (nw, .inr (12, [.ref nwc, .ref nwt, .int 0, .int (-1), .int 0])), (nwc, .inl (cy 0, 16, .inl (fun _ => 0))), (sp, .inr (11, [.int 45, .int 0, .int 0])), (x, .inr (17, [.ref pg, .ref nm, .ref bp, .ref wt, .ref nw, .ref tr, .ref hi, .ref he, .ref uw, .ref vi, .ref sp, .ref sg, .int 45, .int (-1)])), (wt, .inr (16, [.ref w1, .ref w2, .ref w3, .int 0]))] H := hP
  have hD : va_D A [(w1, .inl (cy 6, 4, .inr (.inr (.inr (.inr (va_up (va_up (va_up (va_up (fun _ => none) 0 (some w10)) 1 (some w11)) 2 (some w12)) 3 (some w13))))))), (w10, .inr (11, [.int 45, .int 0, .int 0])), (w2, .inl (cy 0, 4, .inl (fun _ => 0))), (nw, .inr (12, [.ref nwc, .ref nwt, .int 0, .int (-1), .int 0])), (nwc, .inl (cy 0, 16, .inl (fun _ => 0))), (sp, .inr (11, [.int 45, .int 0, .int 0])), (x, .inr (17, [.ref pg, .ref nm, .ref bp, .ref wt, .ref nw, .ref tr, .ref hi, .ref he, .ref uw, .ref vi, .ref sp, .ref sg, .int 45, .int (-1)])), (wt, .inr (16, [.ref w1, .ref w2, .ref w3, .int 0]))] := hD
  refine lv_aload_n hx hb dX11_watch_8 rfl (lv_at hl 0 rfl) ?_
  refine va_get (D := D) (ci := 17) (v := .ref sp) (C := RX11) (T := TX11) (N := 14) hx hb hts inX11 hown hK hP 6 rfl rfl 10 (by decide) (hts _ K531) (fun _ h9 => h9) rfl dX11_watch_9 ?_
  refine lv_bipush (v := 103) hx hb dX11_watch_12 (by decide) ?_
  refine lv_iconst (v := (-1)) hx hb dX11_watch_14 (by decide) ?_
  refine lv_iload_n hx hb dX11_watch_15 rfl (lv_at hl 1 rfl) ?_
  have hPc := hP.sub (ws' := [(sp, .inr (11, [.int 45, .int 0, .int 0]))]) [5] rfl
  have hDc := hD.sub (ws' := [(sp, .inr (11, [.int 45, .int 0, .int 0]))]) [5] (by decide) rfl
  have hFc := va_free (wc := [(sp, .inr (11, [.int 45, .int 0, .int 0]))]) hD hS hA [5] rfl
  refine z_callvJ (wr := [(w1, .inl (cy 6, 4, .inr (.inr (.inr (.inr (va_up (va_up (va_up (va_up (fun _ => none) 0 (some w10)) 1 (some w11)) 2 (some w12)) 3 (some w13))))))), (w10, .inr (11, [.int 45, .int 0, .int 0])), (w2, .inl (cy 0, 4, .inl (fun _ => 0))), (nw, .inr (12, [.ref nwc, .ref nwt, .int 0, .int (-1), .int 0])), (nwc, .inl (cy 0, 16, .inl (fun _ => 0))), (x, .inr (17, [.ref pg, .ref nm, .ref bp, .ref wt, .ref nw, .ref tr, .ref hi, .ref he, .ref uw, .ref vi, .ref sp, .ref sg, .int 45, .int (-1)])), (wt, .inr (16, [.ref w1, .ref w2, .ref w3, .int 0]))]) (va_runV (As := [.int 103, .int (-1), .int p0]) (rest := []) ⟨hx, hb, hml, hown, hts⟩ (m_become l D cy sa sp _ 103 (-1) p0 (⟨rfl, rfl⟩)) (cwV 3 hts GV_RX11_416 rfl rfl rfl ⟨rfl, HD_yX5_become⟩ ⟨Nat.le_of_ble_eq_true rfl, Nat.le_of_ble_eq_true rfl⟩) ⟨z_blind EX_ok, va_recv hK hPc (ci := 11) (q0 := 0) rfl rfl, z_pre EX_ok hPc hK hDc hEn hS hFc⟩ rfl rfl hl.1 rfl (lv_room (Nat.le_of_ble_eq_true rfl)) dX11_watch_16 ⟨Nat.le_of_ble_eq_true rfl, Nat.le_of_ble_eq_true rfl⟩) hP hD hS hA [5] [0, 1, 2, 3, 4, 6, 7] rfl rfl (by decide) (by decide) (fun u16 H locs hw_16 hP hD hS => ?_)
  have hP : va_P D vwCl [(w1, .inl (cy 6, 4, .inr (.inr (.inr (.inr (va_up (va_up (va_up (va_up (fun _ => none) 0 (some w10)) 1 (some w11)) 2 (some w12)) 3 (some w13))))))), (w10, .inr (11, [.int 45, .int 0, .int 0])), (w2, .inl (cy 0, 4, .inl (fun _ => 0))), (nw, .inr (12, [.ref nwc, .ref nwt, .int 0, .int (-1), .int 0])), (nwc, .inl (cy 0, 16, .inl (fun _ => 0))), (x, .inr (17, [.ref pg, .ref nm, .ref bp, .ref wt, .ref nw, .ref tr, .ref hi, .ref he, .ref uw, .ref vi, .ref sp, .ref sg, .int 45, .int (-1)])), (wt, .inr (16, [.ref w1, .ref w2, .ref w3, .int 0])), (sp, .inr (11, [.int 103, .int (-1), .int p0]))] H := hP
  have hD : va_D A [(w1, .inl (cy 6, 4, .inr (.inr (.inr (.inr (va_up (va_up (va_up (va_up (fun _ => none) 0 (some w10)) 1 (some w11)) 2 (some w12)) 3 (some w13))))))), (w10, .inr (11, [.int 45, .int 0, .int 0])), (w2, .inl (cy 0, 4, .inl (fun _ => 0))), (nw, .inr (12, [.ref nwc, .ref nwt, .int 0, .int (-1), .int 0])), (nwc, .inl (cy 0, 16, .inl (fun _ => 0))), (x, .inr (17, [.ref pg, .ref nm, .ref bp, .ref wt, .ref nw, .ref tr, .ref hi, .ref he, .ref uw, .ref vi, .ref sp, .ref sg, .int 45, .int (-1)])), (wt, .inr (16, [.ref w1, .ref w2, .ref w3, .int 0])), (sp, .inr (11, [.int 103, .int (-1), .int p0]))] := hD
  refine lv_aload_n hx hb dX11_watch_19 rfl (lv_at hl 0 rfl) ?_
  refine va_get (D := D) (ci := 17) (v := .ref wt) (C := RX11) (T := TX11) (N := 14) hx hb hts inX11 hown hK hP 5 rfl rfl 3 (by decide) (hts _ K524) (fun _ h9 => h9) rfl dX11_watch_20 ?_
  refine lv_aload_n hx hb dX11_watch_23 rfl (lv_at hl 0 rfl) ?_
  refine va_get (D := D) (ci := 17) (v := .ref sp) (C := RX11) (T := TX11) (N := 14) hx hb hts inX11 hown hK hP 5 rfl rfl 10 (by decide) (hts _ K531) (fun _ h9 => h9) rfl dX11_watch_24 ?_
  refine lv_aload_n hx hb dX11_watch_27 rfl (lv_at hl 0 rfl) ?_
  refine va_get (D := D) (ci := 17) (v := .ref nw) (C := RX11) (T := TX11) (N := 14) hx hb hts inX11 hown hK hP 5 rfl rfl 4 (by decide) (hts _ K525) (fun _ h9 => h9) rfl dX11_watch_28 ?_
  have hPc := hP.sub (ws' := [(wt, .inr (16, [.ref w1, .ref w2, .ref w3, .int 0])), (w1, .inl (cy 6, 4, .inr (.inr (.inr (.inr (va_up (va_up (va_up (va_up (fun _ => none) 0 (some w10)) 1 (some w11)) 2 (some w12)) 3 (some w13))))))), (w10, .inr (11, [.int 45, .int 0, .int 0])), (w2, .inl (cy 0, 4, .inl (fun _ => 0))), (nw, .inr (12, [.ref nwc, .ref nwt, .int 0, .int (-1), .int 0])), (nwc, .inl (cy 0, 16, .inl (fun _ => 0))), (sp, .inr (11, [.int 103, .int (-1), .int p0]))]) [6, 0, 1, 2, 3, 4, 7] rfl
  have hDc := hD.sub (ws' := [(wt, .inr (16, [.ref w1, .ref w2, .ref w3, .int 0])), (w1, .inl (cy 6, 4, .inr (.inr (.inr (.inr (va_up (va_up (va_up (va_up (fun _ => none) 0 (some w10)) 1 (some w11)) 2 (some w12)) 3 (some w13))))))), (w10, .inr (11, [.int 45, .int 0, .int 0])), (w2, .inl (cy 0, 4, .inl (fun _ => 0))), (nw, .inr (12, [.ref nwc, .ref nwt, .int 0, .int (-1), .int 0])), (nwc, .inl (cy 0, 16, .inl (fun _ => 0))), (sp, .inr (11, [.int 103, .int (-1), .int p0]))]) [6, 0, 1, 2, 3, 4, 7] (by decide) rfl
  have hFc := va_free (wc := [(wt, .inr (16, [.ref w1, .ref w2, .ref w3, .int 0])), (w1, .inl (cy 6, 4, .inr (.inr (.inr (.inr (va_up (va_up (va_up (va_up (fun _ => none) 0 (some w10)) 1 (some w11)) 2 (some w12)) 3 (some w13))))))), (w10, .inr (11, [.int 45, .int 0, .int 0])), (w2, .inl (cy 0, 4, .inl (fun _ => 0))), (nw, .inr (12, [.ref nwc, .ref nwt, .int 0, .int (-1), .int 0])), (nwc, .inl (cy 0, 16, .inl (fun _ => 0))), (sp, .inr (11, [.int 103, .int (-1), .int p0]))]) hD hS hA [6, 0, 1, 2, 3, 4, 7] rfl
  refine z_calliJ (wr := [(x, .inr (17, [.ref pg, .ref nm, .ref bp, .ref wt, .ref nw, .ref tr, .ref hi, .ref he, .ref uw, .ref vi, .ref sp, .ref sg, .int 45, .int (-1)]))]) (va_runV (As := [.ref sp, .ref nw]) (rest := []) ⟨hx, hb, hml, hown, hts⟩ (m_wtAdd l D cy sa wt w1 w10 w2 nw nwc sp _ w3 w11 w12 w13 nwt p0 h) (cwV 2 hts GV_RX11_419 rfl rfl rfl ⟨rfl, HD_yX10_add⟩ ⟨Nat.le_of_ble_eq_true rfl, Nat.le_of_ble_eq_true rfl⟩) ⟨z_blind EX_ok, va_recv hK hPc (ci := 16) (q0 := 0) rfl rfl, z_pre EX_ok hPc hK hDc hEn hS hFc⟩ rfl rfl hl.1 rfl (lv_room (Nat.le_of_ble_eq_true rfl)) dX11_watch_31 ⟨Nat.le_of_ble_eq_true rfl, Nat.le_of_ble_eq_true rfl⟩) hP hD hS hA [6, 0, 1, 2, 3, 4, 7] [5] rfl rfl (by decide) (by decide) (fun r_31 u31 H locs hw_31 hP hD hS => ?_)
  have hP : va_P D vwCl [(x, .inr (17, [.ref pg, .ref nm, .ref bp, .ref wt, .ref nw, .ref tr, .ref hi, .ref he, .ref uw, .ref vi, .ref sp, .ref sg, .int 45, .int (-1)]))] H := hP
  have hD : va_D A [(x, .inr (17, [.ref pg, .ref nm, .ref bp, .ref wt, .ref nw, .ref tr, .ref hi, .ref he, .ref uw, .ref vi, .ref sp, .ref sg, .int 45, .int (-1)]))] := hD
  obtain rfl := hw_31
  have hP := hP.sub (ws' := []) [] rfl
  have hD := hD.sub (ws' := []) [] (by decide) rfl
  exact z_reti () hx hb hr rfl hlocks hK (rfl) hP hD hS (Nat.le_of_ble_eq_true rfl) (Nat.le_of_ble_eq_true rfl) dX11_watch_34
set_option maxHeartbeats 4000000 in
set_option maxRecDepth 100000 in
theorem m_watch0 (l : Launch) (hfl : l.stackTraces = false) (D : va_G) (cy : Nat → ClassId) (sa : Nat → Nat) (sz : Nat) (x : Nat) (p0 : Int32) (h : bl p0 16 = 0) : vx_Met l yX11_watch (Cond.code yX11_watch cX11_watch 2 (some .int) :: ALL) ({ frames := 8, cells := 1, slots := 6, locals := 102 }) (zPc D vwCl (TY cy) (EX sa) [.ref x, .int p0] [] sz) (va_Qi (fun _ _ => False) (zB D vwCl (TY cy) (S := Unit) (fun u => []) (va_A [] sz)) (va_A [] sz)) (zX D vwCl (TY cy) (True) "java/lang/IndexOutOfBoundsException" [] (va_A [] sz)) 1 6 (va_A [] sz) := by
  refine z_startX (Qc := fun A => va_Qi (fun _ _ => False) (zB D vwCl (TY cy) (S := Unit) (fun u => []) A) A) (XC := fun A => zX D vwCl (TY cy) (True) "java/lang/IndexOutOfBoundsException" [] A) PN_RX11 (Nat.le_of_ble_eq_true rfl) ?_
  intro p e s m below meth c A ls hx hb hr hml hts hown hlocks hT hA hP hK hD hS hEn hl
  have hown : s.vm.findClass RX11 = some m.cls := hown
  have hl : lv_has ls 2 [(0, .ref x), (1, .int p0)] := hl
  have hS0 := hS
  refine lv_iload_n hx hb dX11_watch_0 rfl (lv_at hl 1 rfl) ?_
  refine z_xcallv (vx_runS (As := [.int p0]) (rest := []) ⟨hx, hb, hml, hown, hts⟩ (m_needCell0 l hfl D cy sa _ p0 h) (va_cwS 1 hts GS_RX11_300 rfl rfl rfl HD_yX11_needCell ⟨Nat.le_of_ble_eq_true rfl, Nat.le_of_ble_eq_true rfl⟩) ⟨z_blind EX_ok, z_pre EX_ok hP hK hD hEn hS (z_free hD hS hA)⟩ rfl rfl hl.1 rfl (lv_room (Nat.le_of_ble_eq_true rfl)) dX11_watch_1 ⟨Nat.le_of_ble_eq_true rfl, Nat.le_of_ble_eq_true rfl⟩) hD hS hA (fun ce q9 H locs hpx hP hD hS h1 h2 h3 => ?_) (fun u1 H locs hw_1 hP hD hS => hw_1.elim)
  exact z_out hT hlocks hK (trivial) zP0 zD0 hS h1 h2 h3 (Nat.le_of_ble_eq_true rfl) (Nat.le_of_ble_eq_true rfl)
set_option maxHeartbeats 4000000 in
set_option maxRecDepth 100000 in
theorem m_asbLen (l : Launch) (D : va_G) (cy : Nat → ClassId) (sa : Nat → Nat) (sg : Nat) (sz : Nat) (sgv : Nat) : Met l yJ5_length_8abf5 (Cond.code yJ5_length_8abf5 cJ5_length_8abf5 1 (some .int) :: ALL) ({ frames := 0, cells := 0, slots := 0, locals := 0 }) (zPc D vwCl (TY cy) (EX sa) [.ref sg] [(sg, .inr (1, [.ref sgv, .int 0, .int 0, .int 0]))] sz) (va_Qi (fun r _ => r = 0) (zB D vwCl (TY cy) (S := Unit) (fun u => []) (va_A [(sg, .inr (1, [.ref sgv, .int 0, .int 0, .int 0]))] sz)) (va_A [(sg, .inr (1, [.ref sgv, .int 0, .int 0, .int 0]))] sz)) 0 0 (va_A [(sg, .inr (1, [.ref sgv, .int 0, .int 0, .int 0]))] sz) := by
  refine z_start (Qc := fun A => va_Qi (fun r _ => r = 0) (zB D vwCl (TY cy) (S := Unit) (fun u => []) A) A) PN_RJ5 (Nat.le_of_ble_eq_true rfl) ?_
  intro p e s m below meth c A ls hx hb hr hml hts hown hlocks hin hA hP hK hD hS hEn hl
  have hown : s.vm.findClass RJ5 = some m.cls := hown
  have hl : lv_has ls 1 [(0, .ref sg)] := hl
  have hS0 := hS
  refine lv_aload_n hx hb dJ5_length_8abf5_0 rfl (lv_at hl 0 rfl) ?_
  refine va_get (D := D) (ci := 1) (v := .int 0) (C := RJ4) (T := TJ4) (N := 4) hx hb hts inJ4 hown hK hP 0 rfl rfl 3 (by decide) (hts _ K510) (fun _ h9 => h9) rfl dJ5_length_8abf5_1 ?_
  have hP := hP.sub (ws' := []) [] rfl
  have hD := hD.sub (ws' := []) [] (by decide) rfl
  exact z_reti () hx hb hr rfl hlocks hK (rfl) hP hD hS (Nat.le_of_ble_eq_true rfl) (Nat.le_of_ble_eq_true rfl) dJ5_length_8abf5_4
set_option maxHeartbeats 4000000 in
set_option maxRecDepth 100000 in
theorem m_sbLen (l : Launch) (D : va_G) (cy : Nat → ClassId) (sa : Nat → Nat) (sg : Nat) (sz : Nat) (sgv : Nat) : Met l yJ4_length_8abf5 (Cond.code yJ4_length_8abf5 cJ4_length_8abf5 1 (some .int) :: ALL) ({ frames := 1, cells := 0, slots := 0, locals := 20 }) (zPc D vwCl (TY cy) (EX sa) [.ref sg] [(sg, .inr (1, [.ref sgv, .int 0, .int 0, .int 0]))] sz) (va_Qi (fun r _ => r = 0) (zB D vwCl (TY cy) (S := Unit) (fun u => []) (va_A [(sg, .inr (1, [.ref sgv, .int 0, .int 0, .int 0]))] sz)) (va_A [(sg, .inr (1, [.ref sgv, .int 0, .int 0, .int 0]))] sz)) 0 0 (va_A [(sg, .inr (1, [.ref sgv, .int 0, .int 0, .int 0]))] sz) := by
  refine z_start (Qc := fun A => va_Qi (fun r _ => r = 0) (zB D vwCl (TY cy) (S := Unit) (fun u => []) A) A) PN_RJ4 (Nat.le_of_ble_eq_true rfl) ?_
  intro p e s m below meth c A ls hx hb hr hml hts hown hlocks hin hA hP hK hD hS hEn hl
  have hown : s.vm.findClass RJ4 = some m.cls := hown
  have hl : lv_has ls 1 [(0, .ref sg)] := hl
  have hS0 := hS
  refine lv_aload_n hx hb dJ4_length_8abf5_0 rfl (lv_at hl 0 rfl) ?_
  refine z_calli (va_runSU (As := []) (rest := []) (hK.1 1 _ rfl).1 ⟨hx, hb, hml, hown, hts⟩ (m_asbLen l D cy sa sg _ sgv) (va_cwSU 0 hts GSU_RJ4_343 rfl rfl rfl (by decide +kernel) ⟨Nat.le_of_ble_eq_true rfl, Nat.le_of_ble_eq_true rfl⟩) ⟨z_blind EX_ok, va_recv hK hP (ci := 1) (q0 := 0) rfl rfl, z_pre EX_ok hP hK hD hEn hS (z_free hD hS hA)⟩ rfl rfl hl.1 rfl (lv_room (Nat.le_of_ble_eq_true rfl)) dJ4_length_8abf5_1 ⟨Nat.le_of_ble_eq_true rfl, Nat.le_of_ble_eq_true rfl⟩) hD hS hA (fun r_1 u1 H locs hw_1 hP hD hS => ?_)
  have hP : va_P D vwCl [] H := hP
  have hD : va_D A [] := hD
  obtain rfl := hw_1
  exact z_reti () hx hb hr rfl hlocks hK (rfl) hP hD hS (Nat.le_of_ble_eq_true rfl) (Nat.le_of_ble_eq_true rfl) dJ4_length_8abf5_4
set_option maxHeartbeats 4000000 in
set_option maxRecDepth 100000 in
theorem m_shown (l : Launch) (hfl : l.stackTraces = false) (D : va_G) (cy : Nat → ClassId) (sa : Nat → Nat) (x sg : Nat) (sz : Nat) (pg nm bp wt nw tr hi he uw vi sp sgv : Nat) (p0 : Int32) : vx_Met l yX11_shown (Cond.code yX11_shown cX11_shown 2 (some .char) :: ALL) ({ frames := 7, cells := 1, slots := 6, locals := 82 }) (zPc D vwCl (TY cy) (EX sa) [.ref x, .int p0] [(x, .inr (17, [.ref pg, .ref nm, .ref bp, .ref wt, .ref nw, .ref tr, .ref hi, .ref he, .ref uw, .ref vi, .ref sp, .ref sg, .int 45, .int (-1)])), (sg, .inr (1, [.ref sgv, .int 0, .int 0, .int 0]))] sz) (va_Qi (fun _ _ => False) (zB D vwCl (TY cy) (S := Unit) (fun u => []) (va_A [(x, .inr (17, [.ref pg, .ref nm, .ref bp, .ref wt, .ref nw, .ref tr, .ref hi, .ref he, .ref uw, .ref vi, .ref sp, .ref sg, .int 45, .int (-1)])), (sg, .inr (1, [.ref sgv, .int 0, .int 0, .int 0]))] sz)) (va_A [(x, .inr (17, [.ref pg, .ref nm, .ref bp, .ref wt, .ref nw, .ref tr, .ref hi, .ref he, .ref uw, .ref vi, .ref sp, .ref sg, .int 45, .int (-1)])), (sg, .inr (1, [.ref sgv, .int 0, .int 0, .int 0]))] sz)) (zX D vwCl (TY cy) (True) "java/lang/IndexOutOfBoundsException" [] (va_A [(x, .inr (17, [.ref pg, .ref nm, .ref bp, .ref wt, .ref nw, .ref tr, .ref hi, .ref he, .ref uw, .ref vi, .ref sp, .ref sg, .int 45, .int (-1)])), (sg, .inr (1, [.ref sgv, .int 0, .int 0, .int 0]))] sz)) 1 6 (va_A [(x, .inr (17, [.ref pg, .ref nm, .ref bp, .ref wt, .ref nw, .ref tr, .ref hi, .ref he, .ref uw, .ref vi, .ref sp, .ref sg, .int 45, .int (-1)])), (sg, .inr (1, [.ref sgv, .int 0, .int 0, .int 0]))] sz) := by
  refine z_startX (Qc := fun A => va_Qi (fun _ _ => False) (zB D vwCl (TY cy) (S := Unit) (fun u => []) A) A) (XC := fun A => zX D vwCl (TY cy) (True) "java/lang/IndexOutOfBoundsException" [] A) PN_RX11 (Nat.le_of_ble_eq_true rfl) ?_
  intro p e s m below meth c A ls hx hb hr hml hts hown hlocks hT hA hP hK hD hS hEn hl
  have hown : s.vm.findClass RX11 = some m.cls := hown
  have hl : lv_has ls 2 [(0, .ref x), (1, .int p0)] := hl
  have hS0 := hS
  refine lv_iload_n hx hb dX11_shown_0 rfl (lv_at hl 1 rfl) ?_
  refine lv_aload_n hx hb dX11_shown_1 rfl (lv_at hl 0 rfl) ?_
  refine va_get (D := D) (ci := 17) (v := .ref sg) (C := RX11) (T := TX11) (N := 14) hx hb hts inX11 hown hK hP 0 rfl rfl 11 (by decide) (hts _ K532) (fun _ h9 => h9) rfl dX11_shown_2 ?_
  have hPc := hP.sub (ws' := [(sg, .inr (1, [.ref sgv, .int 0, .int 0, .int 0]))]) [1] rfl
  have hDc := hD.sub (ws' := [(sg, .inr (1, [.ref sgv, .int 0, .int 0, .int 0]))]) [1] (by decide) rfl
  have hFc := va_free (wc := [(sg, .inr (1, [.ref sgv, .int 0, .int 0, .int 0]))]) hD hS hA [1] rfl
  refine z_calliJ (wr := [(x, .inr (17, [.ref pg, .ref nm, .ref bp, .ref wt, .ref nw, .ref tr, .ref hi, .ref he, .ref uw, .ref vi, .ref sp, .ref sg, .int 45, .int (-1)]))]) (va_runV (As := []) (rest := [.int p0]) ⟨hx, hb, hml, hown, hts⟩ (m_sbLen l D cy sa sg _ sgv) (cwV 0 hts GV_RX11_369 rfl rfl rfl ⟨rfl, HD_yJ4_length_8abf5⟩ ⟨Nat.le_of_ble_eq_true rfl, Nat.le_of_ble_eq_true rfl⟩) ⟨z_blind EX_ok, va_recv hK hPc (ci := 1) (q0 := 0) rfl rfl, z_pre EX_ok hPc hK hDc hEn hS hFc⟩ rfl rfl hl.1 rfl (lv_room (Nat.le_of_ble_eq_true rfl)) dX11_shown_5 ⟨Nat.le_of_ble_eq_true rfl, Nat.le_of_ble_eq_true rfl⟩) hP hD hS hA [1] [0] rfl rfl (by decide) (by decide) (fun r_5 u5 H locs hw_5 hP hD hS => ?_)
  have hP : va_P D vwCl [(x, .inr (17, [.ref pg, .ref nm, .ref bp, .ref wt, .ref nw, .ref tr, .ref hi, .ref he, .ref uw, .ref vi, .ref sp, .ref sg, .int 45, .int (-1)]))] H := hP
  have hD : va_D A [(x, .inr (17, [.ref pg, .ref nm, .ref bp, .ref wt, .ref nw, .ref tr, .ref hi, .ref he, .ref uw, .ref vi, .ref sp, .ref sg, .int 45, .int (-1)]))] := hD
  obtain rfl := hw_5
  have hPc := hP.sub (ws' := []) [] rfl
  have hDc := hD.sub (ws' := []) [] (by decide) rfl
  have hFc := va_free (wc := []) hD hS hA [] rfl
  refine z_calliJ (wr := [(x, .inr (17, [.ref pg, .ref nm, .ref bp, .ref wt, .ref nw, .ref tr, .ref hi, .ref he, .ref uw, .ref vi, .ref sp, .ref sg, .int 45, .int (-1)]))]) (va_runS (As := [.int p0, .int 0]) (rest := []) ⟨hx, hb, hml, hown, hts⟩ (m_isBelow0 l D cy sa _ p0) (va_cwS 2 hts GS_RX11_168 rfl rfl rfl HD_yX11_isBelow ⟨Nat.le_of_ble_eq_true rfl, Nat.le_of_ble_eq_true rfl⟩) ⟨z_blind EX_ok, z_pre EX_ok hPc hK hDc hEn hS hFc⟩ rfl rfl hl.1 rfl (lv_room (Nat.le_of_ble_eq_true rfl)) dX11_shown_8 ⟨Nat.le_of_ble_eq_true rfl, Nat.le_of_ble_eq_true rfl⟩) hP hD hS hA [] [0] rfl rfl (by decide) (by decide) (fun r_8 u8 H locs hw_8 hP hD hS => ?_)
  have hP : va_P D vwCl [(x, .inr (17, [.ref pg, .ref nm, .ref bp, .ref wt, .ref nw, .ref tr, .ref hi, .ref he, .ref uw, .ref vi, .ref sp, .ref sg, .int 45, .int (-1)]))] H := hP
  have hD : va_D A [(x, .inr (17, [.ref pg, .ref nm, .ref bp, .ref wt, .ref nw, .ref tr, .ref hi, .ref he, .ref uw, .ref vi, .ref sp, .ref sg, .int 45, .int (-1)]))] := hD
  obtain rfl := hw_8
  refine lv_if_ne (tgt := 25) hx hb dX11_shown_11 (by decide) (fun c_11 => absurd (by decide) c_11) (fun _ => ?_)
  exact TH_227W (text := "no such sign") (k := 21) K890 K110 rfl hx hb hfl hown hts hEn hK hS (trivial) (hl.1.trans hml.symm) dX11_shown_14 dX11_shown_17 dX11_shown_18 dX11_shown_21 dX11_shown_24 hT hlocks (Nat.le_of_ble_eq_true rfl) (Nat.le_of_ble_eq_true rfl) (Nat.le_of_ble_eq_true rfl) (Nat.le_of_ble_eq_true rfl) (Nat.le_of_ble_eq_true rfl) (Nat.le_of_ble_eq_true rfl)
