set_option maxHeartbeats 4000000 in
set_option maxRecDepth 100000 in
theorem k_right_110 (l : Launch) (D : va_G) (cy : Nat → ClassId) (sa : Nat → Nat) (sv : Nat → Nat) (dc : Nat) (sz : Nat) (p1 p2 : Int32) : Met l yX15_right (Cond.code yX15_right cX15_right 6 (some .boolean) :: ALL) ({ frames := 5, cells := 0, slots := 0, locals := 91 }) (zPc D vwCl (TY cy) (EM sa sv dc) [.int 110, .int p1, .int p2] [] sz) (va_Qi (fun r _ => r = okI 110 p1 p2) (zB D vwCl (TY cy) (S := Unit) (fun u => []) (va_A [] sz)) (va_A [] sz)) 0 0 (va_A [] sz) := by
  refine z_start (Qc := fun A => va_Qi (fun r _ => r = okI 110 p1 p2) (zB D vwCl (TY cy) (S := Unit) (fun u => []) A) A) PN_RX15 (Nat.le_of_ble_eq_true rfl) ?_
  intro p e s m below meth c A ls hx hb hr hml hts hown hlocks hin hA hP hK hD hS hEn hl
  have hown : s.vm.findClass RX15 = some m.cls := hown
  have hEm := hEn
  have hEn := hEn.1
  have hl : lv_has ls 6 [(0, .int 110), (1, .int p1), (2, .int p2)] := hl
  have hS0 := hS
  refine va_ldcS (q := sa 52) (tx := "ncm+-*lgspjkexrh") hx hb hown (VK52 hEn.2.1) dX15_right_0 ?_
  refine lv_iload_n hx hb dX15_right_2 rfl (lv_at hl 0 rfl) ?_
  refine z_calli (va_runV (As := [.int 110]) (rest := []) ⟨hx, hb, hml, hown, hts⟩ (k_ixs1 l D cy sa sv dc _ 110) (cwV 1 hts GV_RX15_104 rfl rfl rfl ⟨rfl, HD_yJ0_indexOf_0f7a4⟩ ⟨Nat.le_of_ble_eq_true rfl, Nat.le_of_ble_eq_true rfl⟩) ⟨z_blind EM_ok, recvS (hEm.2.2.2.2 1 _ rfl).1 hS, z_pre EM_ok hP hK hD hEm hS (z_free hD hS hA)⟩ rfl rfl hl.1 rfl (lv_room (Nat.le_of_ble_eq_true rfl)) dX15_right_3 ⟨Nat.le_of_ble_eq_true rfl, Nat.le_of_ble_eq_true rfl⟩) hD hS hA (fun r_3 u3 H locs hw_3 hP hD hS => ?_)
  have hP : va_P D vwCl [] H := hP
  have hD : va_D A [] := hD
  obtain rfl := hw_3
  refine lv_if_lt (tgt := 13) hx hb dX15_right_6 (by decide) (fun c_6 => absurd c_6 (by decide +kernel)) (fun _ => ?_)
  refine lv_iconst (v := 1) hx hb dX15_right_9 (by decide) ?_
  refine lv_goto (tgt := 14) hx hb dX15_right_10 (by decide) ?_
  refine lv_istore_n (lv' := [(3, .int 1), (0, .int 110), (1, .int p1), (2, .int p2)]) hx hb dX15_right_14 rfl hl (by decide) rfl (fun ls hl => ?_)
  refine va_ldcS (q := sa 53) (tx := "cm+-*lgspj") hx hb hown (VK53 hEn.2.1) dX15_right_15 ?_
  refine lv_iload_n hx hb dX15_right_17 rfl (lv_at hl 1 rfl) ?_
  refine z_calli (va_runV (As := [.int 110]) (rest := []) ⟨hx, hb, hml, hown, hts⟩ (k_ixs2 l D cy sa sv dc _ 110) (cwV 1 hts GV_RX15_104 rfl rfl rfl ⟨rfl, HD_yJ0_indexOf_0f7a4⟩ ⟨Nat.le_of_ble_eq_true rfl, Nat.le_of_ble_eq_true rfl⟩) ⟨z_blind EM_ok, recvS (hEm.2.2.2.2 2 _ rfl).1 hS, z_pre EM_ok hP hK hD hEm hS (z_free hD hS hA)⟩ rfl rfl hl.1 rfl (lv_room (Nat.le_of_ble_eq_true rfl)) dX15_right_18 ⟨Nat.le_of_ble_eq_true rfl, Nat.le_of_ble_eq_true rfl⟩) hD hS hA (fun r_18 u18 H locs hw_18 hP hD hS => ?_)
  have hP : va_P D vwCl [] H := hP
  have hD : va_D A [] := hD
  obtain rfl := hw_18
  refine lv_if_lt (tgt := 36) hx hb dX15_right_21 (by decide) (fun _ => ?_) (fun c_21 => absurd (by decide +kernel) c_21)
  refine lv_iconst (v := 1) hx hb dX15_right_36 (by decide) ?_
  refine lv_goto (tgt := 41) hx hb dX15_right_37 (by decide) ?_
  refine lv_istore (lv' := [(4, .int 1), (3, .int 1), (0, .int 110), (1, .int p1), (2, .int p2)]) hx hb dX15_right_41 hl (by decide) rfl (fun ls hl => ?_)
  refine va_ldcS (q := sa 54) (tx := "m+-*ls") hx hb hown (VK54 hEn.2.1) dX15_right_43 ?_
  refine lv_iload_n hx hb dX15_right_45 rfl (lv_at hl 2 rfl) ?_
  refine z_calli (va_runV (As := [.int 110]) (rest := []) ⟨hx, hb, hml, hown, hts⟩ (k_ixs3 l D cy sa sv dc _ 110) (cwV 1 hts GV_RX15_104 rfl rfl rfl ⟨rfl, HD_yJ0_indexOf_0f7a4⟩ ⟨Nat.le_of_ble_eq_true rfl, Nat.le_of_ble_eq_true rfl⟩) ⟨z_blind EM_ok, recvS (hEm.2.2.2.2 3 _ rfl).1 hS, z_pre EM_ok hP hK hD hEm hS (z_free hD hS hA)⟩ rfl rfl hl.1 rfl (lv_room (Nat.le_of_ble_eq_true rfl)) dX15_right_46 ⟨Nat.le_of_ble_eq_true rfl, Nat.le_of_ble_eq_true rfl⟩) hD hS hA (fun r_46 u46 H locs hw_46 hP hD hS => ?_)
  have hP : va_P D vwCl [] H := hP
  have hD : va_D A [] := hD
  obtain rfl := hw_46
  refine lv_if_lt (tgt := 64) hx hb dX15_right_49 (by decide) (fun _ => ?_) (fun c_49 => absurd (by decide +kernel) c_49)
  refine lv_iload_n hx hb dX15_right_64 rfl (lv_at hl 2 rfl) ?_
  refine lv_bipush (v := 103) hx hb dX15_right_65 (by decide) ?_
  refine lv_icmp_eq (tgt := 76) hx hb dX15_right_67 (by decide) (fun c_67 => absurd c_67 (by decide)) (fun _ => ?_)
  refine lv_iload_n hx hb dX15_right_70 rfl (lv_at hl 2 rfl) ?_
  refine lv_bipush (v := 112) hx hb dX15_right_71 (by decide) ?_
  refine lv_icmp_ne (tgt := 88) hx hb dX15_right_73 (by decide) (fun _ => ?_) (fun c_73 => absurd c_73 (by decide))
  refine lv_iload_n hx hb dX15_right_88 rfl (lv_at hl 2 rfl) ?_
  refine lv_bipush (v := 106) hx hb dX15_right_89 (by decide) ?_
  refine lv_icmp_ne (tgt := 106) hx hb dX15_right_91 (by decide) (fun _ => ?_) (fun c_91 => absurd c_91 (by decide))
  refine lv_iload_n hx hb dX15_right_106 rfl (lv_at hl 2 rfl) ?_
  refine lv_bipush (v := 107) hx hb dX15_right_107 (by decide) ?_
  refine lv_icmp_ne (tgt := 124) hx hb dX15_right_109 (by decide) (fun _ => ?_) (fun c_109 => absurd c_109 (by decide))
  refine lv_iload_n hx hb dX15_right_124 rfl (lv_at hl 2 rfl) ?_
  refine lv_bipush (v := 101) hx hb dX15_right_125 (by decide) ?_
  refine lv_icmp_ne (tgt := 142) hx hb dX15_right_127 (by decide) (fun _ => ?_) (fun c_127 => absurd c_127 (by decide))
  refine lv_iconst (v := 1) hx hb dX15_right_142 (by decide) ?_
  refine lv_goto (tgt := 147) hx hb dX15_right_143 (by decide) ?_
  refine lv_istore (lv' := [(5, .int 1), (4, .int 1), (3, .int 1), (0, .int 110), (1, .int p1), (2, .int p2)]) hx hb dX15_right_147 hl (by decide) rfl (fun ls hl => ?_)
  refine lv_iload_n hx hb dX15_right_149 rfl (lv_at hl 2 rfl) ?_
  refine lv_if_eq (tgt := 167) hx hb dX15_right_150 (by decide) (fun c_150 => absurd c_150 (by decide)) (fun _ => ?_)
  refine lv_iload hx hb dX15_right_153 (lv_at hl 1 rfl) ?_
  refine lv_if_eq (tgt := 167) hx hb dX15_right_155 (by decide) (fun c_155 => absurd c_155 (by decide)) (fun _ => ?_)
  refine lv_iload hx hb dX15_right_158 (lv_at hl 0 rfl) ?_
  refine lv_if_eq (tgt := 167) hx hb dX15_right_160 (by decide) (fun c_160 => absurd c_160 (by decide)) (fun _ => ?_)
  refine lv_iconst (v := 1) hx hb dX15_right_163 (by decide) ?_
  refine lv_goto (tgt := 168) hx hb dX15_right_164 (by decide) ?_
  exact z_reti () hx hb hr rfl hlocks hK ((by simp [okI, okD, okS])) hP hD hS (Nat.le_of_ble_eq_true rfl) (Nat.le_of_ble_eq_true rfl) dX15_right_168
set_option maxHeartbeats 4000000 in
set_option maxRecDepth 100000 in
theorem k_right_99 (l : Launch) (D : va_G) (cy : Nat → ClassId) (sa : Nat → Nat) (sv : Nat → Nat) (dc : Nat) (sz : Nat) (p1 p2 : Int32) : Met l yX15_right (Cond.code yX15_right cX15_right 6 (some .boolean) :: ALL) ({ frames := 5, cells := 0, slots := 0, locals := 91 }) (zPc D vwCl (TY cy) (EM sa sv dc) [.int 99, .int p1, .int p2] [] sz) (va_Qi (fun r _ => r = okI 99 p1 p2) (zB D vwCl (TY cy) (S := Unit) (fun u => []) (va_A [] sz)) (va_A [] sz)) 0 0 (va_A [] sz) := by
  refine z_start (Qc := fun A => va_Qi (fun r _ => r = okI 99 p1 p2) (zB D vwCl (TY cy) (S := Unit) (fun u => []) A) A) PN_RX15 (Nat.le_of_ble_eq_true rfl) ?_
  intro p e s m below meth c A ls hx hb hr hml hts hown hlocks hin hA hP hK hD hS hEn hl
  have hown : s.vm.findClass RX15 = some m.cls := hown
  have hEm := hEn
  have hEn := hEn.1
  have hl : lv_has ls 6 [(0, .int 99), (1, .int p1), (2, .int p2)] := hl
  have hS0 := hS
  refine va_ldcS (q := sa 52) (tx := "ncm+-*lgspjkexrh") hx hb hown (VK52 hEn.2.1) dX15_right_0 ?_
  refine lv_iload_n hx hb dX15_right_2 rfl (lv_at hl 0 rfl) ?_
  refine z_calli (va_runV (As := [.int 99]) (rest := []) ⟨hx, hb, hml, hown, hts⟩ (k_ixs1 l D cy sa sv dc _ 99) (cwV 1 hts GV_RX15_104 rfl rfl rfl ⟨rfl, HD_yJ0_indexOf_0f7a4⟩ ⟨Nat.le_of_ble_eq_true rfl, Nat.le_of_ble_eq_true rfl⟩) ⟨z_blind EM_ok, recvS (hEm.2.2.2.2 1 _ rfl).1 hS, z_pre EM_ok hP hK hD hEm hS (z_free hD hS hA)⟩ rfl rfl hl.1 rfl (lv_room (Nat.le_of_ble_eq_true rfl)) dX15_right_3 ⟨Nat.le_of_ble_eq_true rfl, Nat.le_of_ble_eq_true rfl⟩) hD hS hA (fun r_3 u3 H locs hw_3 hP hD hS => ?_)
  have hP : va_P D vwCl [] H := hP
  have hD : va_D A [] := hD
  obtain rfl := hw_3
  refine lv_if_lt (tgt := 13) hx hb dX15_right_6 (by decide) (fun c_6 => absurd c_6 (by decide +kernel)) (fun _ => ?_)
  refine lv_iconst (v := 1) hx hb dX15_right_9 (by decide) ?_
  refine lv_goto (tgt := 14) hx hb dX15_right_10 (by decide) ?_
  refine lv_istore_n (lv' := [(3, .int 1), (0, .int 99), (1, .int p1), (2, .int p2)]) hx hb dX15_right_14 rfl hl (by decide) rfl (fun ls hl => ?_)
  refine va_ldcS (q := sa 53) (tx := "cm+-*lgspj") hx hb hown (VK53 hEn.2.1) dX15_right_15 ?_
  refine lv_iload_n hx hb dX15_right_17 rfl (lv_at hl 1 rfl) ?_
  refine z_calli (va_runV (As := [.int 99]) (rest := []) ⟨hx, hb, hml, hown, hts⟩ (k_ixs2 l D cy sa sv dc _ 99) (cwV 1 hts GV_RX15_104 rfl rfl rfl ⟨rfl, HD_yJ0_indexOf_0f7a4⟩ ⟨Nat.le_of_ble_eq_true rfl, Nat.le_of_ble_eq_true rfl⟩) ⟨z_blind EM_ok, recvS (hEm.2.2.2.2 2 _ rfl).1 hS, z_pre EM_ok hP hK hD hEm hS (z_free hD hS hA)⟩ rfl rfl hl.1 rfl (lv_room (Nat.le_of_ble_eq_true rfl)) dX15_right_18 ⟨Nat.le_of_ble_eq_true rfl, Nat.le_of_ble_eq_true rfl⟩) hD hS hA (fun r_18 u18 H locs hw_18 hP hD hS => ?_)
  have hP : va_P D vwCl [] H := hP
  have hD : va_D A [] := hD
  obtain rfl := hw_18
  refine lv_if_lt (tgt := 36) hx hb dX15_right_21 (by decide) (fun c_21 => absurd c_21 (by decide +kernel)) (fun _ => ?_)
  refine lv_iload_n hx hb dX15_right_24 rfl (lv_at hl 2 rfl) ?_
  refine lv_i2l hx hb dX15_right_25 rfl ?_
  refine lv_lconst (v := 0) hx hb dX15_right_26 (by decide) ?_
  refine lv_ldc2 hx hb hown (hts _ K2204) dX15_right_27 ?_
  refine z_calli (va_runS (As := [.long p1.toInt64, .long 0, .long 3]) (rest := []) ⟨hx, hb, hml, hown, hts⟩ (k_in l D cy sa sv dc _ (p1.toInt64) 0 3) (va_cwS 3 hts GS_RX15_13 rfl rfl rfl HD_yX15_in ⟨Nat.le_of_ble_eq_true rfl, Nat.le_of_ble_eq_true rfl⟩) ⟨z_blind EM_ok, z_pre EM_ok hP hK hD hEm hS (z_free hD hS hA)⟩ rfl rfl hl.1 rfl (lv_room (Nat.le_of_ble_eq_true rfl)) dX15_right_30 ⟨Nat.le_of_ble_eq_true rfl, Nat.le_of_ble_eq_true rfl⟩) hD hS hA (fun r_30 u30 H locs hw_30 hP hD hS => ?_)
  have hP : va_P D vwCl [] H := hP
  have hD : va_D A [] := hD
  obtain rfl := hw_30
  refine lv_if_eq (tgt := 40) hx hb dX15_right_33 (by decide) (fun c_33 => ?_) (fun c_33 => ?_)
  · refine lv_iconst (v := 0) hx hb dX15_right_40 (by decide) ?_
    refine lv_istore (lv' := [(4, .int 0), (3, .int 1), (0, .int 99), (1, .int p1), (2, .int p2)]) hx hb dX15_right_41 hl (by decide) rfl (fun ls hl => ?_)
    refine va_ldcS (q := sa 54) (tx := "m+-*ls") hx hb hown (VK54 hEn.2.1) dX15_right_43 ?_
    refine lv_iload_n hx hb dX15_right_45 rfl (lv_at hl 2 rfl) ?_
    refine z_calli (va_runV (As := [.int 99]) (rest := []) ⟨hx, hb, hml, hown, hts⟩ (k_ixs3 l D cy sa sv dc _ 99) (cwV 1 hts GV_RX15_104 rfl rfl rfl ⟨rfl, HD_yJ0_indexOf_0f7a4⟩ ⟨Nat.le_of_ble_eq_true rfl, Nat.le_of_ble_eq_true rfl⟩) ⟨z_blind EM_ok, recvS (hEm.2.2.2.2 3 _ rfl).1 hS, z_pre EM_ok hP hK hD hEm hS (z_free hD hS hA)⟩ rfl rfl hl.1 rfl (lv_room (Nat.le_of_ble_eq_true rfl)) dX15_right_46 ⟨Nat.le_of_ble_eq_true rfl, Nat.le_of_ble_eq_true rfl⟩) hD hS hA (fun r_46 u46 H locs hw_46 hP hD hS => ?_)
    have hP : va_P D vwCl [] H := hP
    have hD : va_D A [] := hD
    obtain rfl := hw_46
    refine lv_if_lt (tgt := 64) hx hb dX15_right_49 (by decide) (fun _ => ?_) (fun c_49 => absurd (by decide +kernel) c_49)
    refine lv_iload_n hx hb dX15_right_64 rfl (lv_at hl 2 rfl) ?_
    refine lv_bipush (v := 103) hx hb dX15_right_65 (by decide) ?_
    refine lv_icmp_eq (tgt := 76) hx hb dX15_right_67 (by decide) (fun c_67 => absurd c_67 (by decide)) (fun _ => ?_)
    refine lv_iload_n hx hb dX15_right_70 rfl (lv_at hl 2 rfl) ?_
    refine lv_bipush (v := 112) hx hb dX15_right_71 (by decide) ?_
    refine lv_icmp_ne (tgt := 88) hx hb dX15_right_73 (by decide) (fun _ => ?_) (fun c_73 => absurd c_73 (by decide))
    refine lv_iload_n hx hb dX15_right_88 rfl (lv_at hl 2 rfl) ?_
    refine lv_bipush (v := 106) hx hb dX15_right_89 (by decide) ?_
    refine lv_icmp_ne (tgt := 106) hx hb dX15_right_91 (by decide) (fun _ => ?_) (fun c_91 => absurd c_91 (by decide))
    refine lv_iload_n hx hb dX15_right_106 rfl (lv_at hl 2 rfl) ?_
    refine lv_bipush (v := 107) hx hb dX15_right_107 (by decide) ?_
    refine lv_icmp_ne (tgt := 124) hx hb dX15_right_109 (by decide) (fun _ => ?_) (fun c_109 => absurd c_109 (by decide))
    refine lv_iload_n hx hb dX15_right_124 rfl (lv_at hl 2 rfl) ?_
    refine lv_bipush (v := 101) hx hb dX15_right_125 (by decide) ?_
    refine lv_icmp_ne (tgt := 142) hx hb dX15_right_127 (by decide) (fun _ => ?_) (fun c_127 => absurd c_127 (by decide))
    refine lv_iconst (v := 1) hx hb dX15_right_142 (by decide) ?_
    refine lv_goto (tgt := 147) hx hb dX15_right_143 (by decide) ?_
    refine lv_istore (lv' := [(5, .int 1), (4, .int 0), (3, .int 1), (0, .int 99), (1, .int p1), (2, .int p2)]) hx hb dX15_right_147 hl (by decide) rfl (fun ls hl => ?_)
    refine lv_iload_n hx hb dX15_right_149 rfl (lv_at hl 2 rfl) ?_
    refine lv_if_eq (tgt := 167) hx hb dX15_right_150 (by decide) (fun c_150 => absurd c_150 (by decide)) (fun _ => ?_)
    refine lv_iload hx hb dX15_right_153 (lv_at hl 1 rfl) ?_
    refine lv_if_eq (tgt := 167) hx hb dX15_right_155 (by decide) (fun _ => ?_) (fun c_155 => absurd (by decide) c_155)
    refine lv_iconst (v := 0) hx hb dX15_right_167 (by decide) ?_
    exact z_reti () hx hb hr rfl hlocks hK ((by simp [okI, okD, okS, (inL_4 p1).symm.trans c_33])) hP hD hS (Nat.le_of_ble_eq_true rfl) (Nat.le_of_ble_eq_true rfl) dX15_right_168
  · refine lv_iconst (v := 1) hx hb dX15_right_36 (by decide) ?_
    refine lv_goto (tgt := 41) hx hb dX15_right_37 (by decide) ?_
    refine lv_istore (lv' := [(4, .int 1), (3, .int 1), (0, .int 99), (1, .int p1), (2, .int p2)]) hx hb dX15_right_41 hl (by decide) rfl (fun ls hl => ?_)
    refine va_ldcS (q := sa 54) (tx := "m+-*ls") hx hb hown (VK54 hEn.2.1) dX15_right_43 ?_
    refine lv_iload_n hx hb dX15_right_45 rfl (lv_at hl 2 rfl) ?_
    refine z_calli (va_runV (As := [.int 99]) (rest := []) ⟨hx, hb, hml, hown, hts⟩ (k_ixs3 l D cy sa sv dc _ 99) (cwV 1 hts GV_RX15_104 rfl rfl rfl ⟨rfl, HD_yJ0_indexOf_0f7a4⟩ ⟨Nat.le_of_ble_eq_true rfl, Nat.le_of_ble_eq_true rfl⟩) ⟨z_blind EM_ok, recvS (hEm.2.2.2.2 3 _ rfl).1 hS, z_pre EM_ok hP hK hD hEm hS (z_free hD hS hA)⟩ rfl rfl hl.1 rfl (lv_room (Nat.le_of_ble_eq_true rfl)) dX15_right_46 ⟨Nat.le_of_ble_eq_true rfl, Nat.le_of_ble_eq_true rfl⟩) hD hS hA (fun r_46 u46_1 H locs hw_46 hP hD hS => ?_)
    have hP : va_P D vwCl [] H := hP
    have hD : va_D A [] := hD
    obtain rfl := hw_46
    refine lv_if_lt (tgt := 64) hx hb dX15_right_49 (by decide) (fun _ => ?_) (fun c_49 => absurd (by decide +kernel) c_49)
    refine lv_iload_n hx hb dX15_right_64 rfl (lv_at hl 2 rfl) ?_
    refine lv_bipush (v := 103) hx hb dX15_right_65 (by decide) ?_
    refine lv_icmp_eq (tgt := 76) hx hb dX15_right_67 (by decide) (fun c_67 => absurd c_67 (by decide)) (fun _ => ?_)
    refine lv_iload_n hx hb dX15_right_70 rfl (lv_at hl 2 rfl) ?_
    refine lv_bipush (v := 112) hx hb dX15_right_71 (by decide) ?_
    refine lv_icmp_ne (tgt := 88) hx hb dX15_right_73 (by decide) (fun _ => ?_) (fun c_73 => absurd c_73 (by decide))
    refine lv_iload_n hx hb dX15_right_88 rfl (lv_at hl 2 rfl) ?_
    refine lv_bipush (v := 106) hx hb dX15_right_89 (by decide) ?_
    refine lv_icmp_ne (tgt := 106) hx hb dX15_right_91 (by decide) (fun _ => ?_) (fun c_91 => absurd c_91 (by decide))
    refine lv_iload_n hx hb dX15_right_106 rfl (lv_at hl 2 rfl) ?_
    refine lv_bipush (v := 107) hx hb dX15_right_107 (by decide) ?_
    refine lv_icmp_ne (tgt := 124) hx hb dX15_right_109 (by decide) (fun _ => ?_) (fun c_109 => absurd c_109 (by decide))
    refine lv_iload_n hx hb dX15_right_124 rfl (lv_at hl 2 rfl) ?_
    refine lv_bipush (v := 101) hx hb dX15_right_125 (by decide) ?_
    refine lv_icmp_ne (tgt := 142) hx hb dX15_right_127 (by decide) (fun _ => ?_) (fun c_127 => absurd c_127 (by decide))
    refine lv_iconst (v := 1) hx hb dX15_right_142 (by decide) ?_
    refine lv_goto (tgt := 147) hx hb dX15_right_143 (by decide) ?_
    refine lv_istore (lv' := [(5, .int 1), (4, .int 1), (3, .int 1), (0, .int 99), (1, .int p1), (2, .int p2)]) hx hb dX15_right_147 hl (by decide) rfl (fun ls hl => ?_)
    refine lv_iload_n hx hb dX15_right_149 rfl (lv_at hl 2 rfl) ?_
    refine lv_if_eq (tgt := 167) hx hb dX15_right_150 (by decide) (fun c_150 => absurd c_150 (by decide)) (fun _ => ?_)
    refine lv_iload hx hb dX15_right_153 (lv_at hl 1 rfl) ?_
    refine lv_if_eq (tgt := 167) hx hb dX15_right_155 (by decide) (fun c_155 => absurd c_155 (by decide)) (fun _ => ?_)
    refine lv_iload hx hb dX15_right_158 (lv_at hl 0 rfl) ?_
    refine lv_if_eq (tgt := 167) hx hb dX15_right_160 (by decide) (fun c_160 => absurd c_160 (by decide)) (fun _ => ?_)
    refine lv_iconst (v := 1) hx hb dX15_right_163 (by decide) ?_
    refine lv_goto (tgt := 168) hx hb dX15_right_164 (by decide) ?_
    exact z_reti () hx hb hr rfl hlocks hK ((by simp [okI, okD, okS, bl_ne (fun z => c_33 ((inL_4 p1).trans z))])) hP hD hS (Nat.le_of_ble_eq_true rfl) (Nat.le_of_ble_eq_true rfl) dX15_right_168
set_option maxHeartbeats 4000000 in
set_option maxRecDepth 100000 in
theorem k_right_109 (l : Launch) (D : va_G) (cy : Nat → ClassId) (sa : Nat → Nat) (sv : Nat → Nat) (dc : Nat) (sz : Nat) (p1 p2 : Int32) : Met l yX15_right (Cond.code yX15_right cX15_right 6 (some .boolean) :: ALL) ({ frames := 5, cells := 0, slots := 0, locals := 91 }) (zPc D vwCl (TY cy) (EM sa sv dc) [.int 109, .int p1, .int p2] [] sz) (va_Qi (fun r _ => r = okI 109 p1 p2) (zB D vwCl (TY cy) (S := Unit) (fun u => []) (va_A [] sz)) (va_A [] sz)) 0 0 (va_A [] sz) := by
  refine z_start (Qc := fun A => va_Qi (fun r _ => r = okI 109 p1 p2) (zB D vwCl (TY cy) (S := Unit) (fun u => []) A) A) PN_RX15 (Nat.le_of_ble_eq_true rfl) ?_
  intro p e s m below meth c A ls hx hb hr hml hts hown hlocks hin hA hP hK hD hS hEn hl
  have hown : s.vm.findClass RX15 = some m.cls := hown
  have hEm := hEn
  have hEn := hEn.1
  have hl : lv_has ls 6 [(0, .int 109), (1, .int p1), (2, .int p2)] := hl
  have hS0 := hS
  refine va_ldcS (q := sa 52) (tx := "ncm+-*lgspjkexrh") hx hb hown (VK52 hEn.2.1) dX15_right_0 ?_
  refine lv_iload_n hx hb dX15_right_2 rfl (lv_at hl 0 rfl) ?_
  refine z_calli (va_runV (As := [.int 109]) (rest := []) ⟨hx, hb, hml, hown, hts⟩ (k_ixs1 l D cy sa sv dc _ 109) (cwV 1 hts GV_RX15_104 rfl rfl rfl ⟨rfl, HD_yJ0_indexOf_0f7a4⟩ ⟨Nat.le_of_ble_eq_true rfl, Nat.le_of_ble_eq_true rfl⟩) ⟨z_blind EM_ok, recvS (hEm.2.2.2.2 1 _ rfl).1 hS, z_pre EM_ok hP hK hD hEm hS (z_free hD hS hA)⟩ rfl rfl hl.1 rfl (lv_room (Nat.le_of_ble_eq_true rfl)) dX15_right_3 ⟨Nat.le_of_ble_eq_true rfl, Nat.le_of_ble_eq_true rfl⟩) hD hS hA (fun r_3 u3 H locs hw_3 hP hD hS => ?_)
  have hP : va_P D vwCl [] H := hP
  have hD : va_D A [] := hD
  obtain rfl := hw_3
  refine lv_if_lt (tgt := 13) hx hb dX15_right_6 (by decide) (fun c_6 => absurd c_6 (by decide +kernel)) (fun _ => ?_)
  refine lv_iconst (v := 1) hx hb dX15_right_9 (by decide) ?_
  refine lv_goto (tgt := 14) hx hb dX15_right_10 (by decide) ?_
  refine lv_istore_n (lv' := [(3, .int 1), (0, .int 109), (1, .int p1), (2, .int p2)]) hx hb dX15_right_14 rfl hl (by decide) rfl (fun ls hl => ?_)
  refine va_ldcS (q := sa 53) (tx := "cm+-*lgspj") hx hb hown (VK53 hEn.2.1) dX15_right_15 ?_
  refine lv_iload_n hx hb dX15_right_17 rfl (lv_at hl 1 rfl) ?_
  refine z_calli (va_runV (As := [.int 109]) (rest := []) ⟨hx, hb, hml, hown, hts⟩ (k_ixs2 l D cy sa sv dc _ 109) (cwV 1 hts GV_RX15_104 rfl rfl rfl ⟨rfl, HD_yJ0_indexOf_0f7a4⟩ ⟨Nat.le_of_ble_eq_true rfl, Nat.le_of_ble_eq_true rfl⟩) ⟨z_blind EM_ok, recvS (hEm.2.2.2.2 2 _ rfl).1 hS, z_pre EM_ok hP hK hD hEm hS (z_free hD hS hA)⟩ rfl rfl hl.1 rfl (lv_room (Nat.le_of_ble_eq_true rfl)) dX15_right_18 ⟨Nat.le_of_ble_eq_true rfl, Nat.le_of_ble_eq_true rfl⟩) hD hS hA (fun r_18 u18 H locs hw_18 hP hD hS => ?_)
  have hP : va_P D vwCl [] H := hP
  have hD : va_D A [] := hD
  obtain rfl := hw_18
  refine lv_if_lt (tgt := 36) hx hb dX15_right_21 (by decide) (fun c_21 => absurd c_21 (by decide +kernel)) (fun _ => ?_)
  refine lv_iload_n hx hb dX15_right_24 rfl (lv_at hl 2 rfl) ?_
  refine lv_i2l hx hb dX15_right_25 rfl ?_
  refine lv_lconst (v := 0) hx hb dX15_right_26 (by decide) ?_
  refine lv_ldc2 hx hb hown (hts _ K2204) dX15_right_27 ?_
  refine z_calli (va_runS (As := [.long p1.toInt64, .long 0, .long 3]) (rest := []) ⟨hx, hb, hml, hown, hts⟩ (k_in l D cy sa sv dc _ (p1.toInt64) 0 3) (va_cwS 3 hts GS_RX15_13 rfl rfl rfl HD_yX15_in ⟨Nat.le_of_ble_eq_true rfl, Nat.le_of_ble_eq_true rfl⟩) ⟨z_blind EM_ok, z_pre EM_ok hP hK hD hEm hS (z_free hD hS hA)⟩ rfl rfl hl.1 rfl (lv_room (Nat.le_of_ble_eq_true rfl)) dX15_right_30 ⟨Nat.le_of_ble_eq_true rfl, Nat.le_of_ble_eq_true rfl⟩) hD hS hA (fun r_30 u30 H locs hw_30 hP hD hS => ?_)
  have hP : va_P D vwCl [] H := hP
  have hD : va_D A [] := hD
  obtain rfl := hw_30
  refine lv_if_eq (tgt := 40) hx hb dX15_right_33 (by decide) (fun c_33 => ?_) (fun c_33 => ?_)
  · refine lv_iconst (v := 0) hx hb dX15_right_40 (by decide) ?_
    refine lv_istore (lv' := [(4, .int 0), (3, .int 1), (0, .int 109), (1, .int p1), (2, .int p2)]) hx hb dX15_right_41 hl (by decide) rfl (fun ls hl => ?_)
    refine va_ldcS (q := sa 54) (tx := "m+-*ls") hx hb hown (VK54 hEn.2.1) dX15_right_43 ?_
    refine lv_iload_n hx hb dX15_right_45 rfl (lv_at hl 2 rfl) ?_
    refine z_calli (va_runV (As := [.int 109]) (rest := []) ⟨hx, hb, hml, hown, hts⟩ (k_ixs3 l D cy sa sv dc _ 109) (cwV 1 hts GV_RX15_104 rfl rfl rfl ⟨rfl, HD_yJ0_indexOf_0f7a4⟩ ⟨Nat.le_of_ble_eq_true rfl, Nat.le_of_ble_eq_true rfl⟩) ⟨z_blind EM_ok, recvS (hEm.2.2.2.2 3 _ rfl).1 hS, z_pre EM_ok hP hK hD hEm hS (z_free hD hS hA)⟩ rfl rfl hl.1 rfl (lv_room (Nat.le_of_ble_eq_true rfl)) dX15_right_46 ⟨Nat.le_of_ble_eq_true rfl, Nat.le_of_ble_eq_true rfl⟩) hD hS hA (fun r_46 u46 H locs hw_46 hP hD hS => ?_)
    have hP : va_P D vwCl [] H := hP
    have hD : va_D A [] := hD
    obtain rfl := hw_46
    refine lv_if_lt (tgt := 64) hx hb dX15_right_49 (by decide) (fun c_49 => absurd c_49 (by decide +kernel)) (fun _ => ?_)
    refine lv_iload_n hx hb dX15_right_52 rfl (lv_at hl 4 rfl) ?_
    refine lv_i2l hx hb dX15_right_53 rfl ?_
    refine lv_lconst (v := 0) hx hb dX15_right_54 (by decide) ?_
    refine lv_ldc2 hx hb hown (hts _ K2204) dX15_right_55 ?_
    refine z_calli (va_runS (As := [.long p2.toInt64, .long 0, .long 3]) (rest := []) ⟨hx, hb, hml, hown, hts⟩ (k_in l D cy sa sv dc _ (p2.toInt64) 0 3) (va_cwS 3 hts GS_RX15_13 rfl rfl rfl HD_yX15_in ⟨Nat.le_of_ble_eq_true rfl, Nat.le_of_ble_eq_true rfl⟩) ⟨z_blind EM_ok, z_pre EM_ok hP hK hD hEm hS (z_free hD hS hA)⟩ rfl rfl hl.1 rfl (lv_room (Nat.le_of_ble_eq_true rfl)) dX15_right_58 ⟨Nat.le_of_ble_eq_true rfl, Nat.le_of_ble_eq_true rfl⟩) hD hS hA (fun r_58 u58 H locs hw_58 hP hD hS => ?_)
    have hP : va_P D vwCl [] H := hP
    have hD : va_D A [] := hD
    obtain rfl := hw_58
    refine lv_goto (tgt := 147) hx hb dX15_right_61 (by decide) ?_
    refine lv_istore (lv' := [(5, .int (inL ((p2.toInt64)) 0 3)), (4, .int 0), (3, .int 1), (0, .int 109), (1, .int p1), (2, .int p2)]) hx hb dX15_right_147 hl (by decide) rfl (fun ls hl => ?_)
    refine lv_iload_n hx hb dX15_right_149 rfl (lv_at hl 2 rfl) ?_
    refine lv_if_eq (tgt := 167) hx hb dX15_right_150 (by decide) (fun c_150 => absurd c_150 (by decide)) (fun _ => ?_)
    refine lv_iload hx hb dX15_right_153 (lv_at hl 1 rfl) ?_
    refine lv_if_eq (tgt := 167) hx hb dX15_right_155 (by decide) (fun _ => ?_) (fun c_155 => absurd (by decide) c_155)
    refine lv_iconst (v := 0) hx hb dX15_right_167 (by decide) ?_
    exact z_reti () hx hb hr rfl hlocks hK ((by simp [okI, okD, okS, (inL_4 p1).symm.trans c_33])) hP hD hS (Nat.le_of_ble_eq_true rfl) (Nat.le_of_ble_eq_true rfl) dX15_right_168
  · refine lv_iconst (v := 1) hx hb dX15_right_36 (by decide) ?_
    refine lv_goto (tgt := 41) hx hb dX15_right_37 (by decide) ?_
    refine lv_istore (lv' := [(4, .int 1), (3, .int 1), (0, .int 109), (1, .int p1), (2, .int p2)]) hx hb dX15_right_41 hl (by decide) rfl (fun ls hl => ?_)
    refine va_ldcS (q := sa 54) (tx := "m+-*ls") hx hb hown (VK54 hEn.2.1) dX15_right_43 ?_
    refine lv_iload_n hx hb dX15_right_45 rfl (lv_at hl 2 rfl) ?_
    refine z_calli (va_runV (As := [.int 109]) (rest := []) ⟨hx, hb, hml, hown, hts⟩ (k_ixs3 l D cy sa sv dc _ 109) (cwV 1 hts GV_RX15_104 rfl rfl rfl ⟨rfl, HD_yJ0_indexOf_0f7a4⟩ ⟨Nat.le_of_ble_eq_true rfl, Nat.le_of_ble_eq_true rfl⟩) ⟨z_blind EM_ok, recvS (hEm.2.2.2.2 3 _ rfl).1 hS, z_pre EM_ok hP hK hD hEm hS (z_free hD hS hA)⟩ rfl rfl hl.1 rfl (lv_room (Nat.le_of_ble_eq_true rfl)) dX15_right_46 ⟨Nat.le_of_ble_eq_true rfl, Nat.le_of_ble_eq_true rfl⟩) hD hS hA (fun r_46 u46_1 H locs hw_46 hP hD hS => ?_)
    have hP : va_P D vwCl [] H := hP
    have hD : va_D A [] := hD
    obtain rfl := hw_46
    refine lv_if_lt (tgt := 64) hx hb dX15_right_49 (by decide) (fun c_49 => absurd c_49 (by decide +kernel)) (fun _ => ?_)
    refine lv_iload_n hx hb dX15_right_52 rfl (lv_at hl 4 rfl) ?_
    refine lv_i2l hx hb dX15_right_53 rfl ?_
    refine lv_lconst (v := 0) hx hb dX15_right_54 (by decide) ?_
    refine lv_ldc2 hx hb hown (hts _ K2204) dX15_right_55 ?_
    refine z_calli (va_runS (As := [.long p2.toInt64, .long 0, .long 3]) (rest := []) ⟨hx, hb, hml, hown, hts⟩ (k_in l D cy sa sv dc _ (p2.toInt64) 0 3) (va_cwS 3 hts GS_RX15_13 rfl rfl rfl HD_yX15_in ⟨Nat.le_of_ble_eq_true rfl, Nat.le_of_ble_eq_true rfl⟩) ⟨z_blind EM_ok, z_pre EM_ok hP hK hD hEm hS (z_free hD hS hA)⟩ rfl rfl hl.1 rfl (lv_room (Nat.le_of_ble_eq_true rfl)) dX15_right_58 ⟨Nat.le_of_ble_eq_true rfl, Nat.le_of_ble_eq_true rfl⟩) hD hS hA (fun r_58 u58_2 H locs hw_58 hP hD hS => ?_)
    have hP : va_P D vwCl [] H := hP
    have hD : va_D A [] := hD
    obtain rfl := hw_58
    refine lv_goto (tgt := 147) hx hb dX15_right_61 (by decide) ?_
    refine lv_istore (lv' := [(5, .int (inL ((p2.toInt64)) 0 3)), (4, .int 1), (3, .int 1), (0, .int 109), (1, .int p1), (2, .int p2)]) hx hb dX15_right_147 hl (by decide) rfl (fun ls hl => ?_)
    refine lv_iload_n hx hb dX15_right_149 rfl (lv_at hl 2 rfl) ?_
    refine lv_if_eq (tgt := 167) hx hb dX15_right_150 (by decide) (fun c_150 => absurd c_150 (by decide)) (fun _ => ?_)
    refine lv_iload hx hb dX15_right_153 (lv_at hl 1 rfl) ?_
    refine lv_if_eq (tgt := 167) hx hb dX15_right_155 (by decide) (fun c_155 => absurd c_155 (by decide)) (fun _ => ?_)
    refine lv_iload hx hb dX15_right_158 (lv_at hl 0 rfl) ?_
    refine lv_if_eq (tgt := 167) hx hb dX15_right_160 (by decide) (fun c_160 => ?_) (fun c_160 => ?_)
    · refine lv_iconst (v := 0) hx hb dX15_right_167 (by decide) ?_
      exact z_reti () hx hb hr rfl hlocks hK ((by simp [okI, okD, okS, bl_ne (fun z => c_33 ((inL_4 p1).trans z)), (inL_4 p2).symm.trans c_160])) hP hD hS (Nat.le_of_ble_eq_true rfl) (Nat.le_of_ble_eq_true rfl) dX15_right_168
    · refine lv_iconst (v := 1) hx hb dX15_right_163 (by decide) ?_
      refine lv_goto (tgt := 168) hx hb dX15_right_164 (by decide) ?_
      exact z_reti () hx hb hr rfl hlocks hK ((by simp [okI, okD, okS, bl_ne (fun z => c_33 ((inL_4 p1).trans z)), bl_ne (fun z => c_160 ((inL_4 p2).trans z))])) hP hD hS (Nat.le_of_ble_eq_true rfl) (Nat.le_of_ble_eq_true rfl) dX15_right_168
set_option maxHeartbeats 4000000 in
set_option maxRecDepth 100000 in
theorem k_right_43 (l : Launch) (D : va_G) (cy : Nat → ClassId) (sa : Nat → Nat) (sv : Nat → Nat) (dc : Nat) (sz : Nat) (p1 p2 : Int32) : Met l yX15_right (Cond.code yX15_right cX15_right 6 (some .boolean) :: ALL) ({ frames := 5, cells := 0, slots := 0, locals := 91 }) (zPc D vwCl (TY cy) (EM sa sv dc) [.int 43, .int p1, .int p2] [] sz) (va_Qi (fun r _ => r = okI 43 p1 p2) (zB D vwCl (TY cy) (S := Unit) (fun u => []) (va_A [] sz)) (va_A [] sz)) 0 0 (va_A [] sz) := by
  refine z_start (Qc := fun A => va_Qi (fun r _ => r = okI 43 p1 p2) (zB D vwCl (TY cy) (S := Unit) (fun u => []) A) A) PN_RX15 (Nat.le_of_ble_eq_true rfl) ?_
  intro p e s m below meth c A ls hx hb hr hml hts hown hlocks hin hA hP hK hD hS hEn hl
  have hown : s.vm.findClass RX15 = some m.cls := hown
  have hEm := hEn
  have hEn := hEn.1
  have hl : lv_has ls 6 [(0, .int 43), (1, .int p1), (2, .int p2)] := hl
  have hS0 := hS
  refine va_ldcS (q := sa 52) (tx := "ncm+-*lgspjkexrh") hx hb hown (VK52 hEn.2.1) dX15_right_0 ?_
  refine lv_iload_n hx hb dX15_right_2 rfl (lv_at hl 0 rfl) ?_
  refine z_calli (va_runV (As := [.int 43]) (rest := []) ⟨hx, hb, hml, hown, hts⟩ (k_ixs1 l D cy sa sv dc _ 43) (cwV 1 hts GV_RX15_104 rfl rfl rfl ⟨rfl, HD_yJ0_indexOf_0f7a4⟩ ⟨Nat.le_of_ble_eq_true rfl, Nat.le_of_ble_eq_true rfl⟩) ⟨z_blind EM_ok, recvS (hEm.2.2.2.2 1 _ rfl).1 hS, z_pre EM_ok hP hK hD hEm hS (z_free hD hS hA)⟩ rfl rfl hl.1 rfl (lv_room (Nat.le_of_ble_eq_true rfl)) dX15_right_3 ⟨Nat.le_of_ble_eq_true rfl, Nat.le_of_ble_eq_true rfl⟩) hD hS hA (fun r_3 u3 H locs hw_3 hP hD hS => ?_)
  have hP : va_P D vwCl [] H := hP
  have hD : va_D A [] := hD
  obtain rfl := hw_3
  refine lv_if_lt (tgt := 13) hx hb dX15_right_6 (by decide) (fun c_6 => absurd c_6 (by decide +kernel)) (fun _ => ?_)
  refine lv_iconst (v := 1) hx hb dX15_right_9 (by decide) ?_
  refine lv_goto (tgt := 14) hx hb dX15_right_10 (by decide) ?_
  refine lv_istore_n (lv' := [(3, .int 1), (0, .int 43), (1, .int p1), (2, .int p2)]) hx hb dX15_right_14 rfl hl (by decide) rfl (fun ls hl => ?_)
  refine va_ldcS (q := sa 53) (tx := "cm+-*lgspj") hx hb hown (VK53 hEn.2.1) dX15_right_15 ?_
  refine lv_iload_n hx hb dX15_right_17 rfl (lv_at hl 1 rfl) ?_
  refine z_calli (va_runV (As := [.int 43]) (rest := []) ⟨hx, hb, hml, hown, hts⟩ (k_ixs2 l D cy sa sv dc _ 43) (cwV 1 hts GV_RX15_104 rfl rfl rfl ⟨rfl, HD_yJ0_indexOf_0f7a4⟩ ⟨Nat.le_of_ble_eq_true rfl, Nat.le_of_ble_eq_true rfl⟩) ⟨z_blind EM_ok, recvS (hEm.2.2.2.2 2 _ rfl).1 hS, z_pre EM_ok hP hK hD hEm hS (z_free hD hS hA)⟩ rfl rfl hl.1 rfl (lv_room (Nat.le_of_ble_eq_true rfl)) dX15_right_18 ⟨Nat.le_of_ble_eq_true rfl, Nat.le_of_ble_eq_true rfl⟩) hD hS hA (fun r_18 u18 H locs hw_18 hP hD hS => ?_)
  have hP : va_P D vwCl [] H := hP
  have hD : va_D A [] := hD
  obtain rfl := hw_18
  refine lv_if_lt (tgt := 36) hx hb dX15_right_21 (by decide) (fun c_21 => absurd c_21 (by decide +kernel)) (fun _ => ?_)
  refine lv_iload_n hx hb dX15_right_24 rfl (lv_at hl 2 rfl) ?_
  refine lv_i2l hx hb dX15_right_25 rfl ?_
  refine lv_lconst (v := 0) hx hb dX15_right_26 (by decide) ?_
  refine lv_ldc2 hx hb hown (hts _ K2204) dX15_right_27 ?_
  refine z_calli (va_runS (As := [.long p1.toInt64, .long 0, .long 3]) (rest := []) ⟨hx, hb, hml, hown, hts⟩ (k_in l D cy sa sv dc _ (p1.toInt64) 0 3) (va_cwS 3 hts GS_RX15_13 rfl rfl rfl HD_yX15_in ⟨Nat.le_of_ble_eq_true rfl, Nat.le_of_ble_eq_true rfl⟩) ⟨z_blind EM_ok, z_pre EM_ok hP hK hD hEm hS (z_free hD hS hA)⟩ rfl rfl hl.1 rfl (lv_room (Nat.le_of_ble_eq_true rfl)) dX15_right_30 ⟨Nat.le_of_ble_eq_true rfl, Nat.le_of_ble_eq_true rfl⟩) hD hS hA (fun r_30 u30 H locs hw_30 hP hD hS => ?_)
  have hP : va_P D vwCl [] H := hP
  have hD : va_D A [] := hD
  obtain rfl := hw_30
  refine lv_if_eq (tgt := 40) hx hb dX15_right_33 (by decide) (fun c_33 => ?_) (fun c_33 => ?_)
  · refine lv_iconst (v := 0) hx hb dX15_right_40 (by decide) ?_
    refine lv_istore (lv' := [(4, .int 0), (3, .int 1), (0, .int 43), (1, .int p1), (2, .int p2)]) hx hb dX15_right_41 hl (by decide) rfl (fun ls hl => ?_)
    refine va_ldcS (q := sa 54) (tx := "m+-*ls") hx hb hown (VK54 hEn.2.1) dX15_right_43 ?_
    refine lv_iload_n hx hb dX15_right_45 rfl (lv_at hl 2 rfl) ?_
    refine z_calli (va_runV (As := [.int 43]) (rest := []) ⟨hx, hb, hml, hown, hts⟩ (k_ixs3 l D cy sa sv dc _ 43) (cwV 1 hts GV_RX15_104 rfl rfl rfl ⟨rfl, HD_yJ0_indexOf_0f7a4⟩ ⟨Nat.le_of_ble_eq_true rfl, Nat.le_of_ble_eq_true rfl⟩) ⟨z_blind EM_ok, recvS (hEm.2.2.2.2 3 _ rfl).1 hS, z_pre EM_ok hP hK hD hEm hS (z_free hD hS hA)⟩ rfl rfl hl.1 rfl (lv_room (Nat.le_of_ble_eq_true rfl)) dX15_right_46 ⟨Nat.le_of_ble_eq_true rfl, Nat.le_of_ble_eq_true rfl⟩) hD hS hA (fun r_46 u46 H locs hw_46 hP hD hS => ?_)
    have hP : va_P D vwCl [] H := hP
    have hD : va_D A [] := hD
    obtain rfl := hw_46
    refine lv_if_lt (tgt := 64) hx hb dX15_right_49 (by decide) (fun c_49 => absurd c_49 (by decide +kernel)) (fun _ => ?_)
    refine lv_iload_n hx hb dX15_right_52 rfl (lv_at hl 4 rfl) ?_
    refine lv_i2l hx hb dX15_right_53 rfl ?_
    refine lv_lconst (v := 0) hx hb dX15_right_54 (by decide) ?_
    refine lv_ldc2 hx hb hown (hts _ K2204) dX15_right_55 ?_
    refine z_calli (va_runS (As := [.long p2.toInt64, .long 0, .long 3]) (rest := []) ⟨hx, hb, hml, hown, hts⟩ (k_in l D cy sa sv dc _ (p2.toInt64) 0 3) (va_cwS 3 hts GS_RX15_13 rfl rfl rfl HD_yX15_in ⟨Nat.le_of_ble_eq_true rfl, Nat.le_of_ble_eq_true rfl⟩) ⟨z_blind EM_ok, z_pre EM_ok hP hK hD hEm hS (z_free hD hS hA)⟩ rfl rfl hl.1 rfl (lv_room (Nat.le_of_ble_eq_true rfl)) dX15_right_58 ⟨Nat.le_of_ble_eq_true rfl, Nat.le_of_ble_eq_true rfl⟩) hD hS hA (fun r_58 u58 H locs hw_58 hP hD hS => ?_)
    have hP : va_P D vwCl [] H := hP
    have hD : va_D A [] := hD
    obtain rfl := hw_58
    refine lv_goto (tgt := 147) hx hb dX15_right_61 (by decide) ?_
    refine lv_istore (lv' := [(5, .int (inL ((p2.toInt64)) 0 3)), (4, .int 0), (3, .int 1), (0, .int 43), (1, .int p1), (2, .int p2)]) hx hb dX15_right_147 hl (by decide) rfl (fun ls hl => ?_)
    refine lv_iload_n hx hb dX15_right_149 rfl (lv_at hl 2 rfl) ?_
    refine lv_if_eq (tgt := 167) hx hb dX15_right_150 (by decide) (fun c_150 => absurd c_150 (by decide)) (fun _ => ?_)
    refine lv_iload hx hb dX15_right_153 (lv_at hl 1 rfl) ?_
    refine lv_if_eq (tgt := 167) hx hb dX15_right_155 (by decide) (fun _ => ?_) (fun c_155 => absurd (by decide) c_155)
    refine lv_iconst (v := 0) hx hb dX15_right_167 (by decide) ?_
    exact z_reti () hx hb hr rfl hlocks hK ((by simp [okI, okD, okS, (inL_4 p1).symm.trans c_33])) hP hD hS (Nat.le_of_ble_eq_true rfl) (Nat.le_of_ble_eq_true rfl) dX15_right_168
  · refine lv_iconst (v := 1) hx hb dX15_right_36 (by decide) ?_
    refine lv_goto (tgt := 41) hx hb dX15_right_37 (by decide) ?_
    refine lv_istore (lv' := [(4, .int 1), (3, .int 1), (0, .int 43), (1, .int p1), (2, .int p2)]) hx hb dX15_right_41 hl (by decide) rfl (fun ls hl => ?_)
    refine va_ldcS (q := sa 54) (tx := "m+-*ls") hx hb hown (VK54 hEn.2.1) dX15_right_43 ?_
    refine lv_iload_n hx hb dX15_right_45 rfl (lv_at hl 2 rfl) ?_
    refine z_calli (va_runV (As := [.int 43]) (rest := []) ⟨hx, hb, hml, hown, hts⟩ (k_ixs3 l D cy sa sv dc _ 43) (cwV 1 hts GV_RX15_104 rfl rfl rfl ⟨rfl, HD_yJ0_indexOf_0f7a4⟩ ⟨Nat.le_of_ble_eq_true rfl, Nat.le_of_ble_eq_true rfl⟩) ⟨z_blind EM_ok, recvS (hEm.2.2.2.2 3 _ rfl).1 hS, z_pre EM_ok hP hK hD hEm hS (z_free hD hS hA)⟩ rfl rfl hl.1 rfl (lv_room (Nat.le_of_ble_eq_true rfl)) dX15_right_46 ⟨Nat.le_of_ble_eq_true rfl, Nat.le_of_ble_eq_true rfl⟩) hD hS hA (fun r_46 u46_1 H locs hw_46 hP hD hS => ?_)
    have hP : va_P D vwCl [] H := hP
    have hD : va_D A [] := hD
    obtain rfl := hw_46
    refine lv_if_lt (tgt := 64) hx hb dX15_right_49 (by decide) (fun c_49 => absurd c_49 (by decide +kernel)) (fun _ => ?_)
    refine lv_iload_n hx hb dX15_right_52 rfl (lv_at hl 4 rfl) ?_
    refine lv_i2l hx hb dX15_right_53 rfl ?_
    refine lv_lconst (v := 0) hx hb dX15_right_54 (by decide) ?_
    refine lv_ldc2 hx hb hown (hts _ K2204) dX15_right_55 ?_
    refine z_calli (va_runS (As := [.long p2.toInt64, .long 0, .long 3]) (rest := []) ⟨hx, hb, hml, hown, hts⟩ (k_in l D cy sa sv dc _ (p2.toInt64) 0 3) (va_cwS 3 hts GS_RX15_13 rfl rfl rfl HD_yX15_in ⟨Nat.le_of_ble_eq_true rfl, Nat.le_of_ble_eq_true rfl⟩) ⟨z_blind EM_ok, z_pre EM_ok hP hK hD hEm hS (z_free hD hS hA)⟩ rfl rfl hl.1 rfl (lv_room (Nat.le_of_ble_eq_true rfl)) dX15_right_58 ⟨Nat.le_of_ble_eq_true rfl, Nat.le_of_ble_eq_true rfl⟩) hD hS hA (fun r_58 u58_2 H locs hw_58 hP hD hS => ?_)
    have hP : va_P D vwCl [] H := hP
    have hD : va_D A [] := hD
    obtain rfl := hw_58
    refine lv_goto (tgt := 147) hx hb dX15_right_61 (by decide) ?_
    refine lv_istore (lv' := [(5, .int (inL ((p2.toInt64)) 0 3)), (4, .int 1), (3, .int 1), (0, .int 43), (1, .int p1), (2, .int p2)]) hx hb dX15_right_147 hl (by decide) rfl (fun ls hl => ?_)
    refine lv_iload_n hx hb dX15_right_149 rfl (lv_at hl 2 rfl) ?_
    refine lv_if_eq (tgt := 167) hx hb dX15_right_150 (by decide) (fun c_150 => absurd c_150 (by decide)) (fun _ => ?_)
    refine lv_iload hx hb dX15_right_153 (lv_at hl 1 rfl) ?_
    refine lv_if_eq (tgt := 167) hx hb dX15_right_155 (by decide) (fun c_155 => absurd c_155 (by decide)) (fun _ => ?_)
    refine lv_iload hx hb dX15_right_158 (lv_at hl 0 rfl) ?_
    refine lv_if_eq (tgt := 167) hx hb dX15_right_160 (by decide) (fun c_160 => ?_) (fun c_160 => ?_)
    · refine lv_iconst (v := 0) hx hb dX15_right_167 (by decide) ?_
      exact z_reti () hx hb hr rfl hlocks hK ((by simp [okI, okD, okS, bl_ne (fun z => c_33 ((inL_4 p1).trans z)), (inL_4 p2).symm.trans c_160])) hP hD hS (Nat.le_of_ble_eq_true rfl) (Nat.le_of_ble_eq_true rfl) dX15_right_168
    · refine lv_iconst (v := 1) hx hb dX15_right_163 (by decide) ?_
      refine lv_goto (tgt := 168) hx hb dX15_right_164 (by decide) ?_
      exact z_reti () hx hb hr rfl hlocks hK ((by simp [okI, okD, okS, bl_ne (fun z => c_33 ((inL_4 p1).trans z)), bl_ne (fun z => c_160 ((inL_4 p2).trans z))])) hP hD hS (Nat.le_of_ble_eq_true rfl) (Nat.le_of_ble_eq_true rfl) dX15_right_168
set_option maxHeartbeats 4000000 in
set_option maxRecDepth 100000 in
theorem k_right_45 (l : Launch) (D : va_G) (cy : Nat → ClassId) (sa : Nat → Nat) (sv : Nat → Nat) (dc : Nat) (sz : Nat) (p1 p2 : Int32) : Met l yX15_right (Cond.code yX15_right cX15_right 6 (some .boolean) :: ALL) ({ frames := 5, cells := 0, slots := 0, locals := 91 }) (zPc D vwCl (TY cy) (EM sa sv dc) [.int 45, .int p1, .int p2] [] sz) (va_Qi (fun r _ => r = okI 45 p1 p2) (zB D vwCl (TY cy) (S := Unit) (fun u => []) (va_A [] sz)) (va_A [] sz)) 0 0 (va_A [] sz) := by
  refine z_start (Qc := fun A => va_Qi (fun r _ => r = okI 45 p1 p2) (zB D vwCl (TY cy) (S := Unit) (fun u => []) A) A) PN_RX15 (Nat.le_of_ble_eq_true rfl) ?_
  intro p e s m below meth c A ls hx hb hr hml hts hown hlocks hin hA hP hK hD hS hEn hl
  have hown : s.vm.findClass RX15 = some m.cls := hown
  have hEm := hEn
  have hEn := hEn.1
  have hl : lv_has ls 6 [(0, .int 45), (1, .int p1), (2, .int p2)] := hl
  have hS0 := hS
  refine va_ldcS (q := sa 52) (tx := "ncm+-*lgspjkexrh") hx hb hown (VK52 hEn.2.1) dX15_right_0 ?_
  refine lv_iload_n hx hb dX15_right_2 rfl (lv_at hl 0 rfl) ?_
  refine z_calli (va_runV (As := [.int 45]) (rest := []) ⟨hx, hb, hml, hown, hts⟩ (k_ixs1 l D cy sa sv dc _ 45) (cwV 1 hts GV_RX15_104 rfl rfl rfl ⟨rfl, HD_yJ0_indexOf_0f7a4⟩ ⟨Nat.le_of_ble_eq_true rfl, Nat.le_of_ble_eq_true rfl⟩) ⟨z_blind EM_ok, recvS (hEm.2.2.2.2 1 _ rfl).1 hS, z_pre EM_ok hP hK hD hEm hS (z_free hD hS hA)⟩ rfl rfl hl.1 rfl (lv_room (Nat.le_of_ble_eq_true rfl)) dX15_right_3 ⟨Nat.le_of_ble_eq_true rfl, Nat.le_of_ble_eq_true rfl⟩) hD hS hA (fun r_3 u3 H locs hw_3 hP hD hS => ?_)
  have hP : va_P D vwCl [] H := hP
  have hD : va_D A [] := hD
  obtain rfl := hw_3
  refine lv_if_lt (tgt := 13) hx hb dX15_right_6 (by decide) (fun c_6 => absurd c_6 (by decide +kernel)) (fun _ => ?_)
  refine lv_iconst (v := 1) hx hb dX15_right_9 (by decide) ?_
  refine lv_goto (tgt := 14) hx hb dX15_right_10 (by decide) ?_
  refine lv_istore_n (lv' := [(3, .int 1), (0, .int 45), (1, .int p1), (2, .int p2)]) hx hb dX15_right_14 rfl hl (by decide) rfl (fun ls hl => ?_)
  refine va_ldcS (q := sa 53) (tx := "cm+-*lgspj") hx hb hown (VK53 hEn.2.1) dX15_right_15 ?_
  refine lv_iload_n hx hb dX15_right_17 rfl (lv_at hl 1 rfl) ?_
  refine z_calli (va_runV (As := [.int 45]) (rest := []) ⟨hx, hb, hml, hown, hts⟩ (k_ixs2 l D cy sa sv dc _ 45) (cwV 1 hts GV_RX15_104 rfl rfl rfl ⟨rfl, HD_yJ0_indexOf_0f7a4⟩ ⟨Nat.le_of_ble_eq_true rfl, Nat.le_of_ble_eq_true rfl⟩) ⟨z_blind EM_ok, recvS (hEm.2.2.2.2 2 _ rfl).1 hS, z_pre EM_ok hP hK hD hEm hS (z_free hD hS hA)⟩ rfl rfl hl.1 rfl (lv_room (Nat.le_of_ble_eq_true rfl)) dX15_right_18 ⟨Nat.le_of_ble_eq_true rfl, Nat.le_of_ble_eq_true rfl⟩) hD hS hA (fun r_18 u18 H locs hw_18 hP hD hS => ?_)
  have hP : va_P D vwCl [] H := hP
  have hD : va_D A [] := hD
  obtain rfl := hw_18
  refine lv_if_lt (tgt := 36) hx hb dX15_right_21 (by decide) (fun c_21 => absurd c_21 (by decide +kernel)) (fun _ => ?_)
  refine lv_iload_n hx hb dX15_right_24 rfl (lv_at hl 2 rfl) ?_
  refine lv_i2l hx hb dX15_right_25 rfl ?_
  refine lv_lconst (v := 0) hx hb dX15_right_26 (by decide) ?_
  refine lv_ldc2 hx hb hown (hts _ K2204) dX15_right_27 ?_
  refine z_calli (va_runS (As := [.long p1.toInt64, .long 0, .long 3]) (rest := []) ⟨hx, hb, hml, hown, hts⟩ (k_in l D cy sa sv dc _ (p1.toInt64) 0 3) (va_cwS 3 hts GS_RX15_13 rfl rfl rfl HD_yX15_in ⟨Nat.le_of_ble_eq_true rfl, Nat.le_of_ble_eq_true rfl⟩) ⟨z_blind EM_ok, z_pre EM_ok hP hK hD hEm hS (z_free hD hS hA)⟩ rfl rfl hl.1 rfl (lv_room (Nat.le_of_ble_eq_true rfl)) dX15_right_30 ⟨Nat.le_of_ble_eq_true rfl, Nat.le_of_ble_eq_true rfl⟩) hD hS hA (fun r_30 u30 H locs hw_30 hP hD hS => ?_)
  have hP : va_P D vwCl [] H := hP
  have hD : va_D A [] := hD
  obtain rfl := hw_30
  refine lv_if_eq (tgt := 40) hx hb dX15_right_33 (by decide) (fun c_33 => ?_) (fun c_33 => ?_)
  · refine lv_iconst (v := 0) hx hb dX15_right_40 (by decide) ?_
    refine lv_istore (lv' := [(4, .int 0), (3, .int 1), (0, .int 45), (1, .int p1), (2, .int p2)]) hx hb dX15_right_41 hl (by decide) rfl (fun ls hl => ?_)
    refine va_ldcS (q := sa 54) (tx := "m+-*ls") hx hb hown (VK54 hEn.2.1) dX15_right_43 ?_
    refine lv_iload_n hx hb dX15_right_45 rfl (lv_at hl 2 rfl) ?_
    refine z_calli (va_runV (As := [.int 45]) (rest := []) ⟨hx, hb, hml, hown, hts⟩ (k_ixs3 l D cy sa sv dc _ 45) (cwV 1 hts GV_RX15_104 rfl rfl rfl ⟨rfl, HD_yJ0_indexOf_0f7a4⟩ ⟨Nat.le_of_ble_eq_true rfl, Nat.le_of_ble_eq_true rfl⟩) ⟨z_blind EM_ok, recvS (hEm.2.2.2.2 3 _ rfl).1 hS, z_pre EM_ok hP hK hD hEm hS (z_free hD hS hA)⟩ rfl rfl hl.1 rfl (lv_room (Nat.le_of_ble_eq_true rfl)) dX15_right_46 ⟨Nat.le_of_ble_eq_true rfl, Nat.le_of_ble_eq_true rfl⟩) hD hS hA (fun r_46 u46 H locs hw_46 hP hD hS => ?_)
    have hP : va_P D vwCl [] H := hP
    have hD : va_D A [] := hD
    obtain rfl := hw_46
    refine lv_if_lt (tgt := 64) hx hb dX15_right_49 (by decide) (fun c_49 => absurd c_49 (by decide +kernel)) (fun _ => ?_)
    refine lv_iload_n hx hb dX15_right_52 rfl (lv_at hl 4 rfl) ?_
    refine lv_i2l hx hb dX15_right_53 rfl ?_
    refine lv_lconst (v := 0) hx hb dX15_right_54 (by decide) ?_
    refine lv_ldc2 hx hb hown (hts _ K2204) dX15_right_55 ?_
    refine z_calli (va_runS (As := [.long p2.toInt64, .long 0, .long 3]) (rest := []) ⟨hx, hb, hml, hown, hts⟩ (k_in l D cy sa sv dc _ (p2.toInt64) 0 3) (va_cwS 3 hts GS_RX15_13 rfl rfl rfl HD_yX15_in ⟨Nat.le_of_ble_eq_true rfl, Nat.le_of_ble_eq_true rfl⟩) ⟨z_blind EM_ok, z_pre EM_ok hP hK hD hEm hS (z_free hD hS hA)⟩ rfl rfl hl.1 rfl (lv_room (Nat.le_of_ble_eq_true rfl)) dX15_right_58 ⟨Nat.le_of_ble_eq_true rfl, Nat.le_of_ble_eq_true rfl⟩) hD hS hA (fun r_58 u58 H locs hw_58 hP hD hS => ?_)
    have hP : va_P D vwCl [] H := hP
    have hD : va_D A [] := hD
    obtain rfl := hw_58
    refine lv_goto (tgt := 147) hx hb dX15_right_61 (by decide) ?_
    refine lv_istore (lv' := [(5, .int (inL ((p2.toInt64)) 0 3)), (4, .int 0), (3, .int 1), (0, .int 45), (1, .int p1), (2, .int p2)]) hx hb dX15_right_147 hl (by decide) rfl (fun ls hl => ?_)
    refine lv_iload_n hx hb dX15_right_149 rfl (lv_at hl 2 rfl) ?_
    refine lv_if_eq (tgt := 167) hx hb dX15_right_150 (by decide) (fun c_150 => absurd c_150 (by decide)) (fun _ => ?_)
    refine lv_iload hx hb dX15_right_153 (lv_at hl 1 rfl) ?_
    refine lv_if_eq (tgt := 167) hx hb dX15_right_155 (by decide) (fun _ => ?_) (fun c_155 => absurd (by decide) c_155)
    refine lv_iconst (v := 0) hx hb dX15_right_167 (by decide) ?_
    exact z_reti () hx hb hr rfl hlocks hK ((by simp [okI, okD, okS, (inL_4 p1).symm.trans c_33])) hP hD hS (Nat.le_of_ble_eq_true rfl) (Nat.le_of_ble_eq_true rfl) dX15_right_168
  · refine lv_iconst (v := 1) hx hb dX15_right_36 (by decide) ?_
    refine lv_goto (tgt := 41) hx hb dX15_right_37 (by decide) ?_
    refine lv_istore (lv' := [(4, .int 1), (3, .int 1), (0, .int 45), (1, .int p1), (2, .int p2)]) hx hb dX15_right_41 hl (by decide) rfl (fun ls hl => ?_)
    refine va_ldcS (q := sa 54) (tx := "m+-*ls") hx hb hown (VK54 hEn.2.1) dX15_right_43 ?_
    refine lv_iload_n hx hb dX15_right_45 rfl (lv_at hl 2 rfl) ?_
    refine z_calli (va_runV (As := [.int 45]) (rest := []) ⟨hx, hb, hml, hown, hts⟩ (k_ixs3 l D cy sa sv dc _ 45) (cwV 1 hts GV_RX15_104 rfl rfl rfl ⟨rfl, HD_yJ0_indexOf_0f7a4⟩ ⟨Nat.le_of_ble_eq_true rfl, Nat.le_of_ble_eq_true rfl⟩) ⟨z_blind EM_ok, recvS (hEm.2.2.2.2 3 _ rfl).1 hS, z_pre EM_ok hP hK hD hEm hS (z_free hD hS hA)⟩ rfl rfl hl.1 rfl (lv_room (Nat.le_of_ble_eq_true rfl)) dX15_right_46 ⟨Nat.le_of_ble_eq_true rfl, Nat.le_of_ble_eq_true rfl⟩) hD hS hA (fun r_46 u46_1 H locs hw_46 hP hD hS => ?_)
    have hP : va_P D vwCl [] H := hP
    have hD : va_D A [] := hD
    obtain rfl := hw_46
    refine lv_if_lt (tgt := 64) hx hb dX15_right_49 (by decide) (fun c_49 => absurd c_49 (by decide +kernel)) (fun _ => ?_)
    refine lv_iload_n hx hb dX15_right_52 rfl (lv_at hl 4 rfl) ?_
    refine lv_i2l hx hb dX15_right_53 rfl ?_
    refine lv_lconst (v := 0) hx hb dX15_right_54 (by decide) ?_
    refine lv_ldc2 hx hb hown (hts _ K2204) dX15_right_55 ?_
    refine z_calli (va_runS (As := [.long p2.toInt64, .long 0, .long 3]) (rest := []) ⟨hx, hb, hml, hown, hts⟩ (k_in l D cy sa sv dc _ (p2.toInt64) 0 3) (va_cwS 3 hts GS_RX15_13 rfl rfl rfl HD_yX15_in ⟨Nat.le_of_ble_eq_true rfl, Nat.le_of_ble_eq_true rfl⟩) ⟨z_blind EM_ok, z_pre EM_ok hP hK hD hEm hS (z_free hD hS hA)⟩ rfl rfl hl.1 rfl (lv_room (Nat.le_of_ble_eq_true rfl)) dX15_right_58 ⟨Nat.le_of_ble_eq_true rfl, Nat.le_of_ble_eq_true rfl⟩) hD hS hA (fun r_58 u58_2 H locs hw_58 hP hD hS => ?_)
    have hP : va_P D vwCl [] H := hP
    have hD : va_D A [] := hD
    obtain rfl := hw_58
    refine lv_goto (tgt := 147) hx hb dX15_right_61 (by decide) ?_
    refine lv_istore (lv' := [(5, .int (inL ((p2.toInt64)) 0 3)), (4, .int 1), (3, .int 1), (0, .int 45), (1, .int p1), (2, .int p2)]) hx hb dX15_right_147 hl (by decide) rfl (fun ls hl => ?_)
    refine lv_iload_n hx hb dX15_right_149 rfl (lv_at hl 2 rfl) ?_
    refine lv_if_eq (tgt := 167) hx hb dX15_right_150 (by decide) (fun c_150 => absurd c_150 (by decide)) (fun _ => ?_)
    refine lv_iload hx hb dX15_right_153 (lv_at hl 1 rfl) ?_
    refine lv_if_eq (tgt := 167) hx hb dX15_right_155 (by decide) (fun c_155 => absurd c_155 (by decide)) (fun _ => ?_)
    refine lv_iload hx hb dX15_right_158 (lv_at hl 0 rfl) ?_
    refine lv_if_eq (tgt := 167) hx hb dX15_right_160 (by decide) (fun c_160 => ?_) (fun c_160 => ?_)
    · refine lv_iconst (v := 0) hx hb dX15_right_167 (by decide) ?_
      exact z_reti () hx hb hr rfl hlocks hK ((by simp [okI, okD, okS, bl_ne (fun z => c_33 ((inL_4 p1).trans z)), (inL_4 p2).symm.trans c_160])) hP hD hS (Nat.le_of_ble_eq_true rfl) (Nat.le_of_ble_eq_true rfl) dX15_right_168
    · refine lv_iconst (v := 1) hx hb dX15_right_163 (by decide) ?_
      refine lv_goto (tgt := 168) hx hb dX15_right_164 (by decide) ?_
      exact z_reti () hx hb hr rfl hlocks hK ((by simp [okI, okD, okS, bl_ne (fun z => c_33 ((inL_4 p1).trans z)), bl_ne (fun z => c_160 ((inL_4 p2).trans z))])) hP hD hS (Nat.le_of_ble_eq_true rfl) (Nat.le_of_ble_eq_true rfl) dX15_right_168
set_option maxHeartbeats 4000000 in
set_option maxRecDepth 100000 in
theorem k_right_42 (l : Launch) (D : va_G) (cy : Nat → ClassId) (sa : Nat → Nat) (sv : Nat → Nat) (dc : Nat) (sz : Nat) (p1 p2 : Int32) : Met l yX15_right (Cond.code yX15_right cX15_right 6 (some .boolean) :: ALL) ({ frames := 5, cells := 0, slots := 0, locals := 91 }) (zPc D vwCl (TY cy) (EM sa sv dc) [.int 42, .int p1, .int p2] [] sz) (va_Qi (fun r _ => r = okI 42 p1 p2) (zB D vwCl (TY cy) (S := Unit) (fun u => []) (va_A [] sz)) (va_A [] sz)) 0 0 (va_A [] sz) := by
  refine z_start (Qc := fun A => va_Qi (fun r _ => r = okI 42 p1 p2) (zB D vwCl (TY cy) (S := Unit) (fun u => []) A) A) PN_RX15 (Nat.le_of_ble_eq_true rfl) ?_
  intro p e s m below meth c A ls hx hb hr hml hts hown hlocks hin hA hP hK hD hS hEn hl
  have hown : s.vm.findClass RX15 = some m.cls := hown
  have hEm := hEn
  have hEn := hEn.1
  have hl : lv_has ls 6 [(0, .int 42), (1, .int p1), (2, .int p2)] := hl
  have hS0 := hS
  refine va_ldcS (q := sa 52) (tx := "ncm+-*lgspjkexrh") hx hb hown (VK52 hEn.2.1) dX15_right_0 ?_
  refine lv_iload_n hx hb dX15_right_2 rfl (lv_at hl 0 rfl) ?_
  refine z_calli (va_runV (As := [.int 42]) (rest := []) ⟨hx, hb, hml, hown, hts⟩ (k_ixs1 l D cy sa sv dc _ 42) (cwV 1 hts GV_RX15_104 rfl rfl rfl ⟨rfl, HD_yJ0_indexOf_0f7a4⟩ ⟨Nat.le_of_ble_eq_true rfl, Nat.le_of_ble_eq_true rfl⟩) ⟨z_blind EM_ok, recvS (hEm.2.2.2.2 1 _ rfl).1 hS, z_pre EM_ok hP hK hD hEm hS (z_free hD hS hA)⟩ rfl rfl hl.1 rfl (lv_room (Nat.le_of_ble_eq_true rfl)) dX15_right_3 ⟨Nat.le_of_ble_eq_true rfl, Nat.le_of_ble_eq_true rfl⟩) hD hS hA (fun r_3 u3 H locs hw_3 hP hD hS => ?_)
  have hP : va_P D vwCl [] H := hP
  have hD : va_D A [] := hD
  obtain rfl := hw_3
  refine lv_if_lt (tgt := 13) hx hb dX15_right_6 (by decide) (fun c_6 => absurd c_6 (by decide +kernel)) (fun _ => ?_)
  refine lv_iconst (v := 1) hx hb dX15_right_9 (by decide) ?_
  refine lv_goto (tgt := 14) hx hb dX15_right_10 (by decide) ?_
  refine lv_istore_n (lv' := [(3, .int 1), (0, .int 42), (1, .int p1), (2, .int p2)]) hx hb dX15_right_14 rfl hl (by decide) rfl (fun ls hl => ?_)
  refine va_ldcS (q := sa 53) (tx := "cm+-*lgspj") hx hb hown (VK53 hEn.2.1) dX15_right_15 ?_
  refine lv_iload_n hx hb dX15_right_17 rfl (lv_at hl 1 rfl) ?_
  refine z_calli (va_runV (As := [.int 42]) (rest := []) ⟨hx, hb, hml, hown, hts⟩ (k_ixs2 l D cy sa sv dc _ 42) (cwV 1 hts GV_RX15_104 rfl rfl rfl ⟨rfl, HD_yJ0_indexOf_0f7a4⟩ ⟨Nat.le_of_ble_eq_true rfl, Nat.le_of_ble_eq_true rfl⟩) ⟨z_blind EM_ok, recvS (hEm.2.2.2.2 2 _ rfl).1 hS, z_pre EM_ok hP hK hD hEm hS (z_free hD hS hA)⟩ rfl rfl hl.1 rfl (lv_room (Nat.le_of_ble_eq_true rfl)) dX15_right_18 ⟨Nat.le_of_ble_eq_true rfl, Nat.le_of_ble_eq_true rfl⟩) hD hS hA (fun r_18 u18 H locs hw_18 hP hD hS => ?_)
  have hP : va_P D vwCl [] H := hP
  have hD : va_D A [] := hD
  obtain rfl := hw_18
  refine lv_if_lt (tgt := 36) hx hb dX15_right_21 (by decide) (fun c_21 => absurd c_21 (by decide +kernel)) (fun _ => ?_)
  refine lv_iload_n hx hb dX15_right_24 rfl (lv_at hl 2 rfl) ?_
  refine lv_i2l hx hb dX15_right_25 rfl ?_
  refine lv_lconst (v := 0) hx hb dX15_right_26 (by decide) ?_
  refine lv_ldc2 hx hb hown (hts _ K2204) dX15_right_27 ?_
  refine z_calli (va_runS (As := [.long p1.toInt64, .long 0, .long 3]) (rest := []) ⟨hx, hb, hml, hown, hts⟩ (k_in l D cy sa sv dc _ (p1.toInt64) 0 3) (va_cwS 3 hts GS_RX15_13 rfl rfl rfl HD_yX15_in ⟨Nat.le_of_ble_eq_true rfl, Nat.le_of_ble_eq_true rfl⟩) ⟨z_blind EM_ok, z_pre EM_ok hP hK hD hEm hS (z_free hD hS hA)⟩ rfl rfl hl.1 rfl (lv_room (Nat.le_of_ble_eq_true rfl)) dX15_right_30 ⟨Nat.le_of_ble_eq_true rfl, Nat.le_of_ble_eq_true rfl⟩) hD hS hA (fun r_30 u30 H locs hw_30 hP hD hS => ?_)
  have hP : va_P D vwCl [] H := hP
  have hD : va_D A [] := hD
  obtain rfl := hw_30
  refine lv_if_eq (tgt := 40) hx hb dX15_right_33 (by decide) (fun c_33 => ?_) (fun c_33 => ?_)
  · refine lv_iconst (v := 0) hx hb dX15_right_40 (by decide) ?_
    refine lv_istore (lv' := [(4, .int 0), (3, .int 1), (0, .int 42), (1, .int p1), (2, .int p2)]) hx hb dX15_right_41 hl (by decide) rfl (fun ls hl => ?_)
    refine va_ldcS (q := sa 54) (tx := "m+-*ls") hx hb hown (VK54 hEn.2.1) dX15_right_43 ?_
    refine lv_iload_n hx hb dX15_right_45 rfl (lv_at hl 2 rfl) ?_
    refine z_calli (va_runV (As := [.int 42]) (rest := []) ⟨hx, hb, hml, hown, hts⟩ (k_ixs3 l D cy sa sv dc _ 42) (cwV 1 hts GV_RX15_104 rfl rfl rfl ⟨rfl, HD_yJ0_indexOf_0f7a4⟩ ⟨Nat.le_of_ble_eq_true rfl, Nat.le_of_ble_eq_true rfl⟩) ⟨z_blind EM_ok, recvS (hEm.2.2.2.2 3 _ rfl).1 hS, z_pre EM_ok hP hK hD hEm hS (z_free hD hS hA)⟩ rfl rfl hl.1 rfl (lv_room (Nat.le_of_ble_eq_true rfl)) dX15_right_46 ⟨Nat.le_of_ble_eq_true rfl, Nat.le_of_ble_eq_true rfl⟩) hD hS hA (fun r_46 u46 H locs hw_46 hP hD hS => ?_)
    have hP : va_P D vwCl [] H := hP
    have hD : va_D A [] := hD
    obtain rfl := hw_46
    refine lv_if_lt (tgt := 64) hx hb dX15_right_49 (by decide) (fun c_49 => absurd c_49 (by decide +kernel)) (fun _ => ?_)
    refine lv_iload_n hx hb dX15_right_52 rfl (lv_at hl 4 rfl) ?_
    refine lv_i2l hx hb dX15_right_53 rfl ?_
    refine lv_lconst (v := 0) hx hb dX15_right_54 (by decide) ?_
    refine lv_ldc2 hx hb hown (hts _ K2204) dX15_right_55 ?_
    refine z_calli (va_runS (As := [.long p2.toInt64, .long 0, .long 3]) (rest := []) ⟨hx, hb, hml, hown, hts⟩ (k_in l D cy sa sv dc _ (p2.toInt64) 0 3) (va_cwS 3 hts GS_RX15_13 rfl rfl rfl HD_yX15_in ⟨Nat.le_of_ble_eq_true rfl, Nat.le_of_ble_eq_true rfl⟩) ⟨z_blind EM_ok, z_pre EM_ok hP hK hD hEm hS (z_free hD hS hA)⟩ rfl rfl hl.1 rfl (lv_room (Nat.le_of_ble_eq_true rfl)) dX15_right_58 ⟨Nat.le_of_ble_eq_true rfl, Nat.le_of_ble_eq_true rfl⟩) hD hS hA (fun r_58 u58 H locs hw_58 hP hD hS => ?_)
    have hP : va_P D vwCl [] H := hP
    have hD : va_D A [] := hD
    obtain rfl := hw_58
    refine lv_goto (tgt := 147) hx hb dX15_right_61 (by decide) ?_
    refine lv_istore (lv' := [(5, .int (inL ((p2.toInt64)) 0 3)), (4, .int 0), (3, .int 1), (0, .int 42), (1, .int p1), (2, .int p2)]) hx hb dX15_right_147 hl (by decide) rfl (fun ls hl => ?_)
    refine lv_iload_n hx hb dX15_right_149 rfl (lv_at hl 2 rfl) ?_
    refine lv_if_eq (tgt := 167) hx hb dX15_right_150 (by decide) (fun c_150 => absurd c_150 (by decide)) (fun _ => ?_)
    refine lv_iload hx hb dX15_right_153 (lv_at hl 1 rfl) ?_
    refine lv_if_eq (tgt := 167) hx hb dX15_right_155 (by decide) (fun _ => ?_) (fun c_155 => absurd (by decide) c_155)
    refine lv_iconst (v := 0) hx hb dX15_right_167 (by decide) ?_
    exact z_reti () hx hb hr rfl hlocks hK ((by simp [okI, okD, okS, (inL_4 p1).symm.trans c_33])) hP hD hS (Nat.le_of_ble_eq_true rfl) (Nat.le_of_ble_eq_true rfl) dX15_right_168
  · refine lv_iconst (v := 1) hx hb dX15_right_36 (by decide) ?_
    refine lv_goto (tgt := 41) hx hb dX15_right_37 (by decide) ?_
    refine lv_istore (lv' := [(4, .int 1), (3, .int 1), (0, .int 42), (1, .int p1), (2, .int p2)]) hx hb dX15_right_41 hl (by decide) rfl (fun ls hl => ?_)
    refine va_ldcS (q := sa 54) (tx := "m+-*ls") hx hb hown (VK54 hEn.2.1) dX15_right_43 ?_
    refine lv_iload_n hx hb dX15_right_45 rfl (lv_at hl 2 rfl) ?_
    refine z_calli (va_runV (As := [.int 42]) (rest := []) ⟨hx, hb, hml, hown, hts⟩ (k_ixs3 l D cy sa sv dc _ 42) (cwV 1 hts GV_RX15_104 rfl rfl rfl ⟨rfl, HD_yJ0_indexOf_0f7a4⟩ ⟨Nat.le_of_ble_eq_true rfl, Nat.le_of_ble_eq_true rfl⟩) ⟨z_blind EM_ok, recvS (hEm.2.2.2.2 3 _ rfl).1 hS, z_pre EM_ok hP hK hD hEm hS (z_free hD hS hA)⟩ rfl rfl hl.1 rfl (lv_room (Nat.le_of_ble_eq_true rfl)) dX15_right_46 ⟨Nat.le_of_ble_eq_true rfl, Nat.le_of_ble_eq_true rfl⟩) hD hS hA (fun r_46 u46_1 H locs hw_46 hP hD hS => ?_)
    have hP : va_P D vwCl [] H := hP
    have hD : va_D A [] := hD
    obtain rfl := hw_46
    refine lv_if_lt (tgt := 64) hx hb dX15_right_49 (by decide) (fun c_49 => absurd c_49 (by decide +kernel)) (fun _ => ?_)
    refine lv_iload_n hx hb dX15_right_52 rfl (lv_at hl 4 rfl) ?_
    refine lv_i2l hx hb dX15_right_53 rfl ?_
    refine lv_lconst (v := 0) hx hb dX15_right_54 (by decide) ?_
    refine lv_ldc2 hx hb hown (hts _ K2204) dX15_right_55 ?_
    refine z_calli (va_runS (As := [.long p2.toInt64, .long 0, .long 3]) (rest := []) ⟨hx, hb, hml, hown, hts⟩ (k_in l D cy sa sv dc _ (p2.toInt64) 0 3) (va_cwS 3 hts GS_RX15_13 rfl rfl rfl HD_yX15_in ⟨Nat.le_of_ble_eq_true rfl, Nat.le_of_ble_eq_true rfl⟩) ⟨z_blind EM_ok, z_pre EM_ok hP hK hD hEm hS (z_free hD hS hA)⟩ rfl rfl hl.1 rfl (lv_room (Nat.le_of_ble_eq_true rfl)) dX15_right_58 ⟨Nat.le_of_ble_eq_true rfl, Nat.le_of_ble_eq_true rfl⟩) hD hS hA (fun r_58 u58_2 H locs hw_58 hP hD hS => ?_)
    have hP : va_P D vwCl [] H := hP
    have hD : va_D A [] := hD
    obtain rfl := hw_58
    refine lv_goto (tgt := 147) hx hb dX15_right_61 (by decide) ?_
    refine lv_istore (lv' := [(5, .int (inL ((p2.toInt64)) 0 3)), (4, .int 1), (3, .int 1), (0, .int 42), (1, .int p1), (2, .int p2)]) hx hb dX15_right_147 hl (by decide) rfl (fun ls hl => ?_)
    refine lv_iload_n hx hb dX15_right_149 rfl (lv_at hl 2 rfl) ?_
    refine lv_if_eq (tgt := 167) hx hb dX15_right_150 (by decide) (fun c_150 => absurd c_150 (by decide)) (fun _ => ?_)
    refine lv_iload hx hb dX15_right_153 (lv_at hl 1 rfl) ?_
    refine lv_if_eq (tgt := 167) hx hb dX15_right_155 (by decide) (fun c_155 => absurd c_155 (by decide)) (fun _ => ?_)
    refine lv_iload hx hb dX15_right_158 (lv_at hl 0 rfl) ?_
    refine lv_if_eq (tgt := 167) hx hb dX15_right_160 (by decide) (fun c_160 => ?_) (fun c_160 => ?_)
    · refine lv_iconst (v := 0) hx hb dX15_right_167 (by decide) ?_
      exact z_reti () hx hb hr rfl hlocks hK ((by simp [okI, okD, okS, bl_ne (fun z => c_33 ((inL_4 p1).trans z)), (inL_4 p2).symm.trans c_160])) hP hD hS (Nat.le_of_ble_eq_true rfl) (Nat.le_of_ble_eq_true rfl) dX15_right_168
    · refine lv_iconst (v := 1) hx hb dX15_right_163 (by decide) ?_
      refine lv_goto (tgt := 168) hx hb dX15_right_164 (by decide) ?_
      exact z_reti () hx hb hr rfl hlocks hK ((by simp [okI, okD, okS, bl_ne (fun z => c_33 ((inL_4 p1).trans z)), bl_ne (fun z => c_160 ((inL_4 p2).trans z))])) hP hD hS (Nat.le_of_ble_eq_true rfl) (Nat.le_of_ble_eq_true rfl) dX15_right_168
set_option maxHeartbeats 4000000 in
set_option maxRecDepth 100000 in
theorem k_right_108 (l : Launch) (D : va_G) (cy : Nat → ClassId) (sa : Nat → Nat) (sv : Nat → Nat) (dc : Nat) (sz : Nat) (p1 p2 : Int32) : Met l yX15_right (Cond.code yX15_right cX15_right 6 (some .boolean) :: ALL) ({ frames := 5, cells := 0, slots := 0, locals := 91 }) (zPc D vwCl (TY cy) (EM sa sv dc) [.int 108, .int p1, .int p2] [] sz) (va_Qi (fun r _ => r = okI 108 p1 p2) (zB D vwCl (TY cy) (S := Unit) (fun u => []) (va_A [] sz)) (va_A [] sz)) 0 0 (va_A [] sz) := by
  refine z_start (Qc := fun A => va_Qi (fun r _ => r = okI 108 p1 p2) (zB D vwCl (TY cy) (S := Unit) (fun u => []) A) A) PN_RX15 (Nat.le_of_ble_eq_true rfl) ?_
  intro p e s m below meth c A ls hx hb hr hml hts hown hlocks hin hA hP hK hD hS hEn hl
  have hown : s.vm.findClass RX15 = some m.cls := hown
  have hEm := hEn
  have hEn := hEn.1
  have hl : lv_has ls 6 [(0, .int 108), (1, .int p1), (2, .int p2)] := hl
  have hS0 := hS
  refine va_ldcS (q := sa 52) (tx := "ncm+-*lgspjkexrh") hx hb hown (VK52 hEn.2.1) dX15_right_0 ?_
  refine lv_iload_n hx hb dX15_right_2 rfl (lv_at hl 0 rfl) ?_
  refine z_calli (va_runV (As := [.int 108]) (rest := []) ⟨hx, hb, hml, hown, hts⟩ (k_ixs1 l D cy sa sv dc _ 108) (cwV 1 hts GV_RX15_104 rfl rfl rfl ⟨rfl, HD_yJ0_indexOf_0f7a4⟩ ⟨Nat.le_of_ble_eq_true rfl, Nat.le_of_ble_eq_true rfl⟩) ⟨z_blind EM_ok, recvS (hEm.2.2.2.2 1 _ rfl).1 hS, z_pre EM_ok hP hK hD hEm hS (z_free hD hS hA)⟩ rfl rfl hl.1 rfl (lv_room (Nat.le_of_ble_eq_true rfl)) dX15_right_3 ⟨Nat.le_of_ble_eq_true rfl, Nat.le_of_ble_eq_true rfl⟩) hD hS hA (fun r_3 u3 H locs hw_3 hP hD hS => ?_)
  have hP : va_P D vwCl [] H := hP
  have hD : va_D A [] := hD
  obtain rfl := hw_3
  refine lv_if_lt (tgt := 13) hx hb dX15_right_6 (by decide) (fun c_6 => absurd c_6 (by decide +kernel)) (fun _ => ?_)
  refine lv_iconst (v := 1) hx hb dX15_right_9 (by decide) ?_
  refine lv_goto (tgt := 14) hx hb dX15_right_10 (by decide) ?_
  refine lv_istore_n (lv' := [(3, .int 1), (0, .int 108), (1, .int p1), (2, .int p2)]) hx hb dX15_right_14 rfl hl (by decide) rfl (fun ls hl => ?_)
  refine va_ldcS (q := sa 53) (tx := "cm+-*lgspj") hx hb hown (VK53 hEn.2.1) dX15_right_15 ?_
  refine lv_iload_n hx hb dX15_right_17 rfl (lv_at hl 1 rfl) ?_
  refine z_calli (va_runV (As := [.int 108]) (rest := []) ⟨hx, hb, hml, hown, hts⟩ (k_ixs2 l D cy sa sv dc _ 108) (cwV 1 hts GV_RX15_104 rfl rfl rfl ⟨rfl, HD_yJ0_indexOf_0f7a4⟩ ⟨Nat.le_of_ble_eq_true rfl, Nat.le_of_ble_eq_true rfl⟩) ⟨z_blind EM_ok, recvS (hEm.2.2.2.2 2 _ rfl).1 hS, z_pre EM_ok hP hK hD hEm hS (z_free hD hS hA)⟩ rfl rfl hl.1 rfl (lv_room (Nat.le_of_ble_eq_true rfl)) dX15_right_18 ⟨Nat.le_of_ble_eq_true rfl, Nat.le_of_ble_eq_true rfl⟩) hD hS hA (fun r_18 u18 H locs hw_18 hP hD hS => ?_)
  have hP : va_P D vwCl [] H := hP
  have hD : va_D A [] := hD
  obtain rfl := hw_18
  refine lv_if_lt (tgt := 36) hx hb dX15_right_21 (by decide) (fun c_21 => absurd c_21 (by decide +kernel)) (fun _ => ?_)
  refine lv_iload_n hx hb dX15_right_24 rfl (lv_at hl 2 rfl) ?_
  refine lv_i2l hx hb dX15_right_25 rfl ?_
  refine lv_lconst (v := 0) hx hb dX15_right_26 (by decide) ?_
  refine lv_ldc2 hx hb hown (hts _ K2204) dX15_right_27 ?_
  refine z_calli (va_runS (As := [.long p1.toInt64, .long 0, .long 3]) (rest := []) ⟨hx, hb, hml, hown, hts⟩ (k_in l D cy sa sv dc _ (p1.toInt64) 0 3) (va_cwS 3 hts GS_RX15_13 rfl rfl rfl HD_yX15_in ⟨Nat.le_of_ble_eq_true rfl, Nat.le_of_ble_eq_true rfl⟩) ⟨z_blind EM_ok, z_pre EM_ok hP hK hD hEm hS (z_free hD hS hA)⟩ rfl rfl hl.1 rfl (lv_room (Nat.le_of_ble_eq_true rfl)) dX15_right_30 ⟨Nat.le_of_ble_eq_true rfl, Nat.le_of_ble_eq_true rfl⟩) hD hS hA (fun r_30 u30 H locs hw_30 hP hD hS => ?_)
  have hP : va_P D vwCl [] H := hP
  have hD : va_D A [] := hD
  obtain rfl := hw_30
  refine lv_if_eq (tgt := 40) hx hb dX15_right_33 (by decide) (fun c_33 => ?_) (fun c_33 => ?_)
  · refine lv_iconst (v := 0) hx hb dX15_right_40 (by decide) ?_
    refine lv_istore (lv' := [(4, .int 0), (3, .int 1), (0, .int 108), (1, .int p1), (2, .int p2)]) hx hb dX15_right_41 hl (by decide) rfl (fun ls hl => ?_)
    refine va_ldcS (q := sa 54) (tx := "m+-*ls") hx hb hown (VK54 hEn.2.1) dX15_right_43 ?_
    refine lv_iload_n hx hb dX15_right_45 rfl (lv_at hl 2 rfl) ?_
    refine z_calli (va_runV (As := [.int 108]) (rest := []) ⟨hx, hb, hml, hown, hts⟩ (k_ixs3 l D cy sa sv dc _ 108) (cwV 1 hts GV_RX15_104 rfl rfl rfl ⟨rfl, HD_yJ0_indexOf_0f7a4⟩ ⟨Nat.le_of_ble_eq_true rfl, Nat.le_of_ble_eq_true rfl⟩) ⟨z_blind EM_ok, recvS (hEm.2.2.2.2 3 _ rfl).1 hS, z_pre EM_ok hP hK hD hEm hS (z_free hD hS hA)⟩ rfl rfl hl.1 rfl (lv_room (Nat.le_of_ble_eq_true rfl)) dX15_right_46 ⟨Nat.le_of_ble_eq_true rfl, Nat.le_of_ble_eq_true rfl⟩) hD hS hA (fun r_46 u46 H locs hw_46 hP hD hS => ?_)
    have hP : va_P D vwCl [] H := hP
    have hD : va_D A [] := hD
    obtain rfl := hw_46
    refine lv_if_lt (tgt := 64) hx hb dX15_right_49 (by decide) (fun c_49 => absurd c_49 (by decide +kernel)) (fun _ => ?_)
    refine lv_iload_n hx hb dX15_right_52 rfl (lv_at hl 4 rfl) ?_
    refine lv_i2l hx hb dX15_right_53 rfl ?_
    refine lv_lconst (v := 0) hx hb dX15_right_54 (by decide) ?_
    refine lv_ldc2 hx hb hown (hts _ K2204) dX15_right_55 ?_
    refine z_calli (va_runS (As := [.long p2.toInt64, .long 0, .long 3]) (rest := []) ⟨hx, hb, hml, hown, hts⟩ (k_in l D cy sa sv dc _ (p2.toInt64) 0 3) (va_cwS 3 hts GS_RX15_13 rfl rfl rfl HD_yX15_in ⟨Nat.le_of_ble_eq_true rfl, Nat.le_of_ble_eq_true rfl⟩) ⟨z_blind EM_ok, z_pre EM_ok hP hK hD hEm hS (z_free hD hS hA)⟩ rfl rfl hl.1 rfl (lv_room (Nat.le_of_ble_eq_true rfl)) dX15_right_58 ⟨Nat.le_of_ble_eq_true rfl, Nat.le_of_ble_eq_true rfl⟩) hD hS hA (fun r_58 u58 H locs hw_58 hP hD hS => ?_)
    have hP : va_P D vwCl [] H := hP
    have hD : va_D A [] := hD
    obtain rfl := hw_58
    refine lv_goto (tgt := 147) hx hb dX15_right_61 (by decide) ?_
    refine lv_istore (lv' := [(5, .int (inL ((p2.toInt64)) 0 3)), (4, .int 0), (3, .int 1), (0, .int 108), (1, .int p1), (2, .int p2)]) hx hb dX15_right_147 hl (by decide) rfl (fun ls hl => ?_)
    refine lv_iload_n hx hb dX15_right_149 rfl (lv_at hl 2 rfl) ?_
    refine lv_if_eq (tgt := 167) hx hb dX15_right_150 (by decide) (fun c_150 => absurd c_150 (by decide)) (fun _ => ?_)
    refine lv_iload hx hb dX15_right_153 (lv_at hl 1 rfl) ?_
    refine lv_if_eq (tgt := 167) hx hb dX15_right_155 (by decide) (fun _ => ?_) (fun c_155 => absurd (by decide) c_155)
    refine lv_iconst (v := 0) hx hb dX15_right_167 (by decide) ?_
    exact z_reti () hx hb hr rfl hlocks hK ((by simp [okI, okD, okS, (inL_4 p1).symm.trans c_33])) hP hD hS (Nat.le_of_ble_eq_true rfl) (Nat.le_of_ble_eq_true rfl) dX15_right_168
  · refine lv_iconst (v := 1) hx hb dX15_right_36 (by decide) ?_
    refine lv_goto (tgt := 41) hx hb dX15_right_37 (by decide) ?_
    refine lv_istore (lv' := [(4, .int 1), (3, .int 1), (0, .int 108), (1, .int p1), (2, .int p2)]) hx hb dX15_right_41 hl (by decide) rfl (fun ls hl => ?_)
    refine va_ldcS (q := sa 54) (tx := "m+-*ls") hx hb hown (VK54 hEn.2.1) dX15_right_43 ?_
    refine lv_iload_n hx hb dX15_right_45 rfl (lv_at hl 2 rfl) ?_
    refine z_calli (va_runV (As := [.int 108]) (rest := []) ⟨hx, hb, hml, hown, hts⟩ (k_ixs3 l D cy sa sv dc _ 108) (cwV 1 hts GV_RX15_104 rfl rfl rfl ⟨rfl, HD_yJ0_indexOf_0f7a4⟩ ⟨Nat.le_of_ble_eq_true rfl, Nat.le_of_ble_eq_true rfl⟩) ⟨z_blind EM_ok, recvS (hEm.2.2.2.2 3 _ rfl).1 hS, z_pre EM_ok hP hK hD hEm hS (z_free hD hS hA)⟩ rfl rfl hl.1 rfl (lv_room (Nat.le_of_ble_eq_true rfl)) dX15_right_46 ⟨Nat.le_of_ble_eq_true rfl, Nat.le_of_ble_eq_true rfl⟩) hD hS hA (fun r_46 u46_1 H locs hw_46 hP hD hS => ?_)
    have hP : va_P D vwCl [] H := hP
    have hD : va_D A [] := hD
    obtain rfl := hw_46
    refine lv_if_lt (tgt := 64) hx hb dX15_right_49 (by decide) (fun c_49 => absurd c_49 (by decide +kernel)) (fun _ => ?_)
    refine lv_iload_n hx hb dX15_right_52 rfl (lv_at hl 4 rfl) ?_
    refine lv_i2l hx hb dX15_right_53 rfl ?_
    refine lv_lconst (v := 0) hx hb dX15_right_54 (by decide) ?_
    refine lv_ldc2 hx hb hown (hts _ K2204) dX15_right_55 ?_
    refine z_calli (va_runS (As := [.long p2.toInt64, .long 0, .long 3]) (rest := []) ⟨hx, hb, hml, hown, hts⟩ (k_in l D cy sa sv dc _ (p2.toInt64) 0 3) (va_cwS 3 hts GS_RX15_13 rfl rfl rfl HD_yX15_in ⟨Nat.le_of_ble_eq_true rfl, Nat.le_of_ble_eq_true rfl⟩) ⟨z_blind EM_ok, z_pre EM_ok hP hK hD hEm hS (z_free hD hS hA)⟩ rfl rfl hl.1 rfl (lv_room (Nat.le_of_ble_eq_true rfl)) dX15_right_58 ⟨Nat.le_of_ble_eq_true rfl, Nat.le_of_ble_eq_true rfl⟩) hD hS hA (fun r_58 u58_2 H locs hw_58 hP hD hS => ?_)
    have hP : va_P D vwCl [] H := hP
    have hD : va_D A [] := hD
    obtain rfl := hw_58
    refine lv_goto (tgt := 147) hx hb dX15_right_61 (by decide) ?_
    refine lv_istore (lv' := [(5, .int (inL ((p2.toInt64)) 0 3)), (4, .int 1), (3, .int 1), (0, .int 108), (1, .int p1), (2, .int p2)]) hx hb dX15_right_147 hl (by decide) rfl (fun ls hl => ?_)
    refine lv_iload_n hx hb dX15_right_149 rfl (lv_at hl 2 rfl) ?_
    refine lv_if_eq (tgt := 167) hx hb dX15_right_150 (by decide) (fun c_150 => absurd c_150 (by decide)) (fun _ => ?_)
    refine lv_iload hx hb dX15_right_153 (lv_at hl 1 rfl) ?_
    refine lv_if_eq (tgt := 167) hx hb dX15_right_155 (by decide) (fun c_155 => absurd c_155 (by decide)) (fun _ => ?_)
    refine lv_iload hx hb dX15_right_158 (lv_at hl 0 rfl) ?_
    refine lv_if_eq (tgt := 167) hx hb dX15_right_160 (by decide) (fun c_160 => ?_) (fun c_160 => ?_)
    · refine lv_iconst (v := 0) hx hb dX15_right_167 (by decide) ?_
      exact z_reti () hx hb hr rfl hlocks hK ((by simp [okI, okD, okS, bl_ne (fun z => c_33 ((inL_4 p1).trans z)), (inL_4 p2).symm.trans c_160])) hP hD hS (Nat.le_of_ble_eq_true rfl) (Nat.le_of_ble_eq_true rfl) dX15_right_168
    · refine lv_iconst (v := 1) hx hb dX15_right_163 (by decide) ?_
      refine lv_goto (tgt := 168) hx hb dX15_right_164 (by decide) ?_
      exact z_reti () hx hb hr rfl hlocks hK ((by simp [okI, okD, okS, bl_ne (fun z => c_33 ((inL_4 p1).trans z)), bl_ne (fun z => c_160 ((inL_4 p2).trans z))])) hP hD hS (Nat.le_of_ble_eq_true rfl) (Nat.le_of_ble_eq_true rfl) dX15_right_168
set_option maxHeartbeats 4000000 in
set_option maxRecDepth 100000 in
theorem k_right_103 (l : Launch) (D : va_G) (cy : Nat → ClassId) (sa : Nat → Nat) (sv : Nat → Nat) (dc : Nat) (sz : Nat) (p1 p2 : Int32) : Met l yX15_right (Cond.code yX15_right cX15_right 6 (some .boolean) :: ALL) ({ frames := 5, cells := 0, slots := 0, locals := 91 }) (zPc D vwCl (TY cy) (EM sa sv dc) [.int 103, .int p1, .int p2] [] sz) (va_Qi (fun r _ => r = okI 103 p1 p2) (zB D vwCl (TY cy) (S := Unit) (fun u => []) (va_A [] sz)) (va_A [] sz)) 0 0 (va_A [] sz) := by
  refine z_start (Qc := fun A => va_Qi (fun r _ => r = okI 103 p1 p2) (zB D vwCl (TY cy) (S := Unit) (fun u => []) A) A) PN_RX15 (Nat.le_of_ble_eq_true rfl) ?_
  intro p e s m below meth c A ls hx hb hr hml hts hown hlocks hin hA hP hK hD hS hEn hl
  have hown : s.vm.findClass RX15 = some m.cls := hown
  have hEm := hEn
  have hEn := hEn.1
  have hl : lv_has ls 6 [(0, .int 103), (1, .int p1), (2, .int p2)] := hl
  have hS0 := hS
  refine va_ldcS (q := sa 52) (tx := "ncm+-*lgspjkexrh") hx hb hown (VK52 hEn.2.1) dX15_right_0 ?_
  refine lv_iload_n hx hb dX15_right_2 rfl (lv_at hl 0 rfl) ?_
  refine z_calli (va_runV (As := [.int 103]) (rest := []) ⟨hx, hb, hml, hown, hts⟩ (k_ixs1 l D cy sa sv dc _ 103) (cwV 1 hts GV_RX15_104 rfl rfl rfl ⟨rfl, HD_yJ0_indexOf_0f7a4⟩ ⟨Nat.le_of_ble_eq_true rfl, Nat.le_of_ble_eq_true rfl⟩) ⟨z_blind EM_ok, recvS (hEm.2.2.2.2 1 _ rfl).1 hS, z_pre EM_ok hP hK hD hEm hS (z_free hD hS hA)⟩ rfl rfl hl.1 rfl (lv_room (Nat.le_of_ble_eq_true rfl)) dX15_right_3 ⟨Nat.le_of_ble_eq_true rfl, Nat.le_of_ble_eq_true rfl⟩) hD hS hA (fun r_3 u3 H locs hw_3 hP hD hS => ?_)
  have hP : va_P D vwCl [] H := hP
  have hD : va_D A [] := hD
  obtain rfl := hw_3
  refine lv_if_lt (tgt := 13) hx hb dX15_right_6 (by decide) (fun c_6 => absurd c_6 (by decide +kernel)) (fun _ => ?_)
  refine lv_iconst (v := 1) hx hb dX15_right_9 (by decide) ?_
  refine lv_goto (tgt := 14) hx hb dX15_right_10 (by decide) ?_
  refine lv_istore_n (lv' := [(3, .int 1), (0, .int 103), (1, .int p1), (2, .int p2)]) hx hb dX15_right_14 rfl hl (by decide) rfl (fun ls hl => ?_)
  refine va_ldcS (q := sa 53) (tx := "cm+-*lgspj") hx hb hown (VK53 hEn.2.1) dX15_right_15 ?_
  refine lv_iload_n hx hb dX15_right_17 rfl (lv_at hl 1 rfl) ?_
  refine z_calli (va_runV (As := [.int 103]) (rest := []) ⟨hx, hb, hml, hown, hts⟩ (k_ixs2 l D cy sa sv dc _ 103) (cwV 1 hts GV_RX15_104 rfl rfl rfl ⟨rfl, HD_yJ0_indexOf_0f7a4⟩ ⟨Nat.le_of_ble_eq_true rfl, Nat.le_of_ble_eq_true rfl⟩) ⟨z_blind EM_ok, recvS (hEm.2.2.2.2 2 _ rfl).1 hS, z_pre EM_ok hP hK hD hEm hS (z_free hD hS hA)⟩ rfl rfl hl.1 rfl (lv_room (Nat.le_of_ble_eq_true rfl)) dX15_right_18 ⟨Nat.le_of_ble_eq_true rfl, Nat.le_of_ble_eq_true rfl⟩) hD hS hA (fun r_18 u18 H locs hw_18 hP hD hS => ?_)
  have hP : va_P D vwCl [] H := hP
  have hD : va_D A [] := hD
  obtain rfl := hw_18
  refine lv_if_lt (tgt := 36) hx hb dX15_right_21 (by decide) (fun c_21 => absurd c_21 (by decide +kernel)) (fun _ => ?_)
  refine lv_iload_n hx hb dX15_right_24 rfl (lv_at hl 2 rfl) ?_
  refine lv_i2l hx hb dX15_right_25 rfl ?_
  refine lv_lconst (v := 0) hx hb dX15_right_26 (by decide) ?_
  refine lv_ldc2 hx hb hown (hts _ K2204) dX15_right_27 ?_
  refine z_calli (va_runS (As := [.long p1.toInt64, .long 0, .long 3]) (rest := []) ⟨hx, hb, hml, hown, hts⟩ (k_in l D cy sa sv dc _ (p1.toInt64) 0 3) (va_cwS 3 hts GS_RX15_13 rfl rfl rfl HD_yX15_in ⟨Nat.le_of_ble_eq_true rfl, Nat.le_of_ble_eq_true rfl⟩) ⟨z_blind EM_ok, z_pre EM_ok hP hK hD hEm hS (z_free hD hS hA)⟩ rfl rfl hl.1 rfl (lv_room (Nat.le_of_ble_eq_true rfl)) dX15_right_30 ⟨Nat.le_of_ble_eq_true rfl, Nat.le_of_ble_eq_true rfl⟩) hD hS hA (fun r_30 u30 H locs hw_30 hP hD hS => ?_)
  have hP : va_P D vwCl [] H := hP
  have hD : va_D A [] := hD
  obtain rfl := hw_30
  refine lv_if_eq (tgt := 40) hx hb dX15_right_33 (by decide) (fun c_33 => ?_) (fun c_33 => ?_)
  · refine lv_iconst (v := 0) hx hb dX15_right_40 (by decide) ?_
    refine lv_istore (lv' := [(4, .int 0), (3, .int 1), (0, .int 103), (1, .int p1), (2, .int p2)]) hx hb dX15_right_41 hl (by decide) rfl (fun ls hl => ?_)
    refine va_ldcS (q := sa 54) (tx := "m+-*ls") hx hb hown (VK54 hEn.2.1) dX15_right_43 ?_
    refine lv_iload_n hx hb dX15_right_45 rfl (lv_at hl 2 rfl) ?_
    refine z_calli (va_runV (As := [.int 103]) (rest := []) ⟨hx, hb, hml, hown, hts⟩ (k_ixs3 l D cy sa sv dc _ 103) (cwV 1 hts GV_RX15_104 rfl rfl rfl ⟨rfl, HD_yJ0_indexOf_0f7a4⟩ ⟨Nat.le_of_ble_eq_true rfl, Nat.le_of_ble_eq_true rfl⟩) ⟨z_blind EM_ok, recvS (hEm.2.2.2.2 3 _ rfl).1 hS, z_pre EM_ok hP hK hD hEm hS (z_free hD hS hA)⟩ rfl rfl hl.1 rfl (lv_room (Nat.le_of_ble_eq_true rfl)) dX15_right_46 ⟨Nat.le_of_ble_eq_true rfl, Nat.le_of_ble_eq_true rfl⟩) hD hS hA (fun r_46 u46 H locs hw_46 hP hD hS => ?_)
    have hP : va_P D vwCl [] H := hP
    have hD : va_D A [] := hD
    obtain rfl := hw_46
    refine lv_if_lt (tgt := 64) hx hb dX15_right_49 (by decide) (fun _ => ?_) (fun c_49 => absurd (by decide +kernel) c_49)
    refine lv_iload_n hx hb dX15_right_64 rfl (lv_at hl 2 rfl) ?_
    refine lv_bipush (v := 103) hx hb dX15_right_65 (by decide) ?_
    refine lv_icmp_eq (tgt := 76) hx hb dX15_right_67 (by decide) (fun _ => ?_) (fun c_67 => absurd (by decide) c_67)
    refine lv_iload_n hx hb dX15_right_76 rfl (lv_at hl 4 rfl) ?_
    refine lv_i2l hx hb dX15_right_77 rfl ?_
    refine lv_lconst (v := 0) hx hb dX15_right_78 (by decide) ?_
    refine lv_ldc2 hx hb hown (hts _ K2209) dX15_right_79 ?_
    refine z_calli (va_runS (As := [.long p2.toInt64, .long 0, .long 15]) (rest := []) ⟨hx, hb, hml, hown, hts⟩ (k_in l D cy sa sv dc _ (p2.toInt64) 0 15) (va_cwS 3 hts GS_RX15_13 rfl rfl rfl HD_yX15_in ⟨Nat.le_of_ble_eq_true rfl, Nat.le_of_ble_eq_true rfl⟩) ⟨z_blind EM_ok, z_pre EM_ok hP hK hD hEm hS (z_free hD hS hA)⟩ rfl rfl hl.1 rfl (lv_room (Nat.le_of_ble_eq_true rfl)) dX15_right_82 ⟨Nat.le_of_ble_eq_true rfl, Nat.le_of_ble_eq_true rfl⟩) hD hS hA (fun r_82 u82 H locs hw_82 hP hD hS => ?_)
    have hP : va_P D vwCl [] H := hP
    have hD : va_D A [] := hD
    obtain rfl := hw_82
    refine lv_goto (tgt := 147) hx hb dX15_right_85 (by decide) ?_
    refine lv_istore (lv' := [(5, .int (inL ((p2.toInt64)) 0 15)), (4, .int 0), (3, .int 1), (0, .int 103), (1, .int p1), (2, .int p2)]) hx hb dX15_right_147 hl (by decide) rfl (fun ls hl => ?_)
    refine lv_iload_n hx hb dX15_right_149 rfl (lv_at hl 2 rfl) ?_
    refine lv_if_eq (tgt := 167) hx hb dX15_right_150 (by decide) (fun c_150 => absurd c_150 (by decide)) (fun _ => ?_)
    refine lv_iload hx hb dX15_right_153 (lv_at hl 1 rfl) ?_
    refine lv_if_eq (tgt := 167) hx hb dX15_right_155 (by decide) (fun _ => ?_) (fun c_155 => absurd (by decide) c_155)
    refine lv_iconst (v := 0) hx hb dX15_right_167 (by decide) ?_
    exact z_reti () hx hb hr rfl hlocks hK ((by simp [okI, okD, okS, (inL_4 p1).symm.trans c_33])) hP hD hS (Nat.le_of_ble_eq_true rfl) (Nat.le_of_ble_eq_true rfl) dX15_right_168
  · refine lv_iconst (v := 1) hx hb dX15_right_36 (by decide) ?_
    refine lv_goto (tgt := 41) hx hb dX15_right_37 (by decide) ?_
    refine lv_istore (lv' := [(4, .int 1), (3, .int 1), (0, .int 103), (1, .int p1), (2, .int p2)]) hx hb dX15_right_41 hl (by decide) rfl (fun ls hl => ?_)
    refine va_ldcS (q := sa 54) (tx := "m+-*ls") hx hb hown (VK54 hEn.2.1) dX15_right_43 ?_
    refine lv_iload_n hx hb dX15_right_45 rfl (lv_at hl 2 rfl) ?_
    refine z_calli (va_runV (As := [.int 103]) (rest := []) ⟨hx, hb, hml, hown, hts⟩ (k_ixs3 l D cy sa sv dc _ 103) (cwV 1 hts GV_RX15_104 rfl rfl rfl ⟨rfl, HD_yJ0_indexOf_0f7a4⟩ ⟨Nat.le_of_ble_eq_true rfl, Nat.le_of_ble_eq_true rfl⟩) ⟨z_blind EM_ok, recvS (hEm.2.2.2.2 3 _ rfl).1 hS, z_pre EM_ok hP hK hD hEm hS (z_free hD hS hA)⟩ rfl rfl hl.1 rfl (lv_room (Nat.le_of_ble_eq_true rfl)) dX15_right_46 ⟨Nat.le_of_ble_eq_true rfl, Nat.le_of_ble_eq_true rfl⟩) hD hS hA (fun r_46 u46_1 H locs hw_46 hP hD hS => ?_)
    have hP : va_P D vwCl [] H := hP
    have hD : va_D A [] := hD
    obtain rfl := hw_46
    refine lv_if_lt (tgt := 64) hx hb dX15_right_49 (by decide) (fun _ => ?_) (fun c_49 => absurd (by decide +kernel) c_49)
    refine lv_iload_n hx hb dX15_right_64 rfl (lv_at hl 2 rfl) ?_
    refine lv_bipush (v := 103) hx hb dX15_right_65 (by decide) ?_
    refine lv_icmp_eq (tgt := 76) hx hb dX15_right_67 (by decide) (fun _ => ?_) (fun c_67 => absurd (by decide) c_67)
    refine lv_iload_n hx hb dX15_right_76 rfl (lv_at hl 4 rfl) ?_
    refine lv_i2l hx hb dX15_right_77 rfl ?_
    refine lv_lconst (v := 0) hx hb dX15_right_78 (by decide) ?_
    refine lv_ldc2 hx hb hown (hts _ K2209) dX15_right_79 ?_
    refine z_calli (va_runS (As := [.long p2.toInt64, .long 0, .long 15]) (rest := []) ⟨hx, hb, hml, hown, hts⟩ (k_in l D cy sa sv dc _ (p2.toInt64) 0 15) (va_cwS 3 hts GS_RX15_13 rfl rfl rfl HD_yX15_in ⟨Nat.le_of_ble_eq_true rfl, Nat.le_of_ble_eq_true rfl⟩) ⟨z_blind EM_ok, z_pre EM_ok hP hK hD hEm hS (z_free hD hS hA)⟩ rfl rfl hl.1 rfl (lv_room (Nat.le_of_ble_eq_true rfl)) dX15_right_82 ⟨Nat.le_of_ble_eq_true rfl, Nat.le_of_ble_eq_true rfl⟩) hD hS hA (fun r_82 u82_2 H locs hw_82 hP hD hS => ?_)
    have hP : va_P D vwCl [] H := hP
    have hD : va_D A [] := hD
    obtain rfl := hw_82
    refine lv_goto (tgt := 147) hx hb dX15_right_85 (by decide) ?_
    refine lv_istore (lv' := [(5, .int (inL ((p2.toInt64)) 0 15)), (4, .int 1), (3, .int 1), (0, .int 103), (1, .int p1), (2, .int p2)]) hx hb dX15_right_147 hl (by decide) rfl (fun ls hl => ?_)
    refine lv_iload_n hx hb dX15_right_149 rfl (lv_at hl 2 rfl) ?_
    refine lv_if_eq (tgt := 167) hx hb dX15_right_150 (by decide) (fun c_150 => absurd c_150 (by decide)) (fun _ => ?_)
    refine lv_iload hx hb dX15_right_153 (lv_at hl 1 rfl) ?_
    refine lv_if_eq (tgt := 167) hx hb dX15_right_155 (by decide) (fun c_155 => absurd c_155 (by decide)) (fun _ => ?_)
    refine lv_iload hx hb dX15_right_158 (lv_at hl 0 rfl) ?_
    refine lv_if_eq (tgt := 167) hx hb dX15_right_160 (by decide) (fun c_160 => ?_) (fun c_160 => ?_)
    · refine lv_iconst (v := 0) hx hb dX15_right_167 (by decide) ?_
      exact z_reti () hx hb hr rfl hlocks hK ((by simp [okI, okD, okS, bl_ne (fun z => c_33 ((inL_4 p1).trans z)), (inL_16 p2).symm.trans c_160])) hP hD hS (Nat.le_of_ble_eq_true rfl) (Nat.le_of_ble_eq_true rfl) dX15_right_168
    · refine lv_iconst (v := 1) hx hb dX15_right_163 (by decide) ?_
      refine lv_goto (tgt := 168) hx hb dX15_right_164 (by decide) ?_
      exact z_reti () hx hb hr rfl hlocks hK ((by simp [okI, okD, okS, bl_ne (fun z => c_33 ((inL_4 p1).trans z)), bl_ne (fun z => c_160 ((inL_16 p2).trans z))])) hP hD hS (Nat.le_of_ble_eq_true rfl) (Nat.le_of_ble_eq_true rfl) dX15_right_168
set_option maxHeartbeats 4000000 in
set_option maxRecDepth 100000 in
theorem k_right_115 (l : Launch) (D : va_G) (cy : Nat → ClassId) (sa : Nat → Nat) (sv : Nat → Nat) (dc : Nat) (sz : Nat) (p1 p2 : Int32) : Met l yX15_right (Cond.code yX15_right cX15_right 6 (some .boolean) :: ALL) ({ frames := 5, cells := 0, slots := 0, locals := 91 }) (zPc D vwCl (TY cy) (EM sa sv dc) [.int 115, .int p1, .int p2] [] sz) (va_Qi (fun r _ => r = okI 115 p1 p2) (zB D vwCl (TY cy) (S := Unit) (fun u => []) (va_A [] sz)) (va_A [] sz)) 0 0 (va_A [] sz) := by
  refine z_start (Qc := fun A => va_Qi (fun r _ => r = okI 115 p1 p2) (zB D vwCl (TY cy) (S := Unit) (fun u => []) A) A) PN_RX15 (Nat.le_of_ble_eq_true rfl) ?_
  intro p e s m below meth c A ls hx hb hr hml hts hown hlocks hin hA hP hK hD hS hEn hl
  have hown : s.vm.findClass RX15 = some m.cls := hown
  have hEm := hEn
  have hEn := hEn.1
  have hl : lv_has ls 6 [(0, .int 115), (1, .int p1), (2, .int p2)] := hl
  have hS0 := hS
  refine va_ldcS (q := sa 52) (tx := "ncm+-*lgspjkexrh") hx hb hown (VK52 hEn.2.1) dX15_right_0 ?_
  refine lv_iload_n hx hb dX15_right_2 rfl (lv_at hl 0 rfl) ?_
  refine z_calli (va_runV (As := [.int 115]) (rest := []) ⟨hx, hb, hml, hown, hts⟩ (k_ixs1 l D cy sa sv dc _ 115) (cwV 1 hts GV_RX15_104 rfl rfl rfl ⟨rfl, HD_yJ0_indexOf_0f7a4⟩ ⟨Nat.le_of_ble_eq_true rfl, Nat.le_of_ble_eq_true rfl⟩) ⟨z_blind EM_ok, recvS (hEm.2.2.2.2 1 _ rfl).1 hS, z_pre EM_ok hP hK hD hEm hS (z_free hD hS hA)⟩ rfl rfl hl.1 rfl (lv_room (Nat.le_of_ble_eq_true rfl)) dX15_right_3 ⟨Nat.le_of_ble_eq_true rfl, Nat.le_of_ble_eq_true rfl⟩) hD hS hA (fun r_3 u3 H locs hw_3 hP hD hS => ?_)
  have hP : va_P D vwCl [] H := hP
  have hD : va_D A [] := hD
  obtain rfl := hw_3
  refine lv_if_lt (tgt := 13) hx hb dX15_right_6 (by decide) (fun c_6 => absurd c_6 (by decide +kernel)) (fun _ => ?_)
  refine lv_iconst (v := 1) hx hb dX15_right_9 (by decide) ?_
  refine lv_goto (tgt := 14) hx hb dX15_right_10 (by decide) ?_
  refine lv_istore_n (lv' := [(3, .int 1), (0, .int 115), (1, .int p1), (2, .int p2)]) hx hb dX15_right_14 rfl hl (by decide) rfl (fun ls hl => ?_)
  refine va_ldcS (q := sa 53) (tx := "cm+-*lgspj") hx hb hown (VK53 hEn.2.1) dX15_right_15 ?_
  refine lv_iload_n hx hb dX15_right_17 rfl (lv_at hl 1 rfl) ?_
  refine z_calli (va_runV (As := [.int 115]) (rest := []) ⟨hx, hb, hml, hown, hts⟩ (k_ixs2 l D cy sa sv dc _ 115) (cwV 1 hts GV_RX15_104 rfl rfl rfl ⟨rfl, HD_yJ0_indexOf_0f7a4⟩ ⟨Nat.le_of_ble_eq_true rfl, Nat.le_of_ble_eq_true rfl⟩) ⟨z_blind EM_ok, recvS (hEm.2.2.2.2 2 _ rfl).1 hS, z_pre EM_ok hP hK hD hEm hS (z_free hD hS hA)⟩ rfl rfl hl.1 rfl (lv_room (Nat.le_of_ble_eq_true rfl)) dX15_right_18 ⟨Nat.le_of_ble_eq_true rfl, Nat.le_of_ble_eq_true rfl⟩) hD hS hA (fun r_18 u18 H locs hw_18 hP hD hS => ?_)
  have hP : va_P D vwCl [] H := hP
  have hD : va_D A [] := hD
  obtain rfl := hw_18
  refine lv_if_lt (tgt := 36) hx hb dX15_right_21 (by decide) (fun c_21 => absurd c_21 (by decide +kernel)) (fun _ => ?_)
  refine lv_iload_n hx hb dX15_right_24 rfl (lv_at hl 2 rfl) ?_
  refine lv_i2l hx hb dX15_right_25 rfl ?_
  refine lv_lconst (v := 0) hx hb dX15_right_26 (by decide) ?_
  refine lv_ldc2 hx hb hown (hts _ K2204) dX15_right_27 ?_
  refine z_calli (va_runS (As := [.long p1.toInt64, .long 0, .long 3]) (rest := []) ⟨hx, hb, hml, hown, hts⟩ (k_in l D cy sa sv dc _ (p1.toInt64) 0 3) (va_cwS 3 hts GS_RX15_13 rfl rfl rfl HD_yX15_in ⟨Nat.le_of_ble_eq_true rfl, Nat.le_of_ble_eq_true rfl⟩) ⟨z_blind EM_ok, z_pre EM_ok hP hK hD hEm hS (z_free hD hS hA)⟩ rfl rfl hl.1 rfl (lv_room (Nat.le_of_ble_eq_true rfl)) dX15_right_30 ⟨Nat.le_of_ble_eq_true rfl, Nat.le_of_ble_eq_true rfl⟩) hD hS hA (fun r_30 u30 H locs hw_30 hP hD hS => ?_)
  have hP : va_P D vwCl [] H := hP
  have hD : va_D A [] := hD
  obtain rfl := hw_30
  refine lv_if_eq (tgt := 40) hx hb dX15_right_33 (by decide) (fun c_33 => ?_) (fun c_33 => ?_)
  · refine lv_iconst (v := 0) hx hb dX15_right_40 (by decide) ?_
    refine lv_istore (lv' := [(4, .int 0), (3, .int 1), (0, .int 115), (1, .int p1), (2, .int p2)]) hx hb dX15_right_41 hl (by decide) rfl (fun ls hl => ?_)
    refine va_ldcS (q := sa 54) (tx := "m+-*ls") hx hb hown (VK54 hEn.2.1) dX15_right_43 ?_
    refine lv_iload_n hx hb dX15_right_45 rfl (lv_at hl 2 rfl) ?_
    refine z_calli (va_runV (As := [.int 115]) (rest := []) ⟨hx, hb, hml, hown, hts⟩ (k_ixs3 l D cy sa sv dc _ 115) (cwV 1 hts GV_RX15_104 rfl rfl rfl ⟨rfl, HD_yJ0_indexOf_0f7a4⟩ ⟨Nat.le_of_ble_eq_true rfl, Nat.le_of_ble_eq_true rfl⟩) ⟨z_blind EM_ok, recvS (hEm.2.2.2.2 3 _ rfl).1 hS, z_pre EM_ok hP hK hD hEm hS (z_free hD hS hA)⟩ rfl rfl hl.1 rfl (lv_room (Nat.le_of_ble_eq_true rfl)) dX15_right_46 ⟨Nat.le_of_ble_eq_true rfl, Nat.le_of_ble_eq_true rfl⟩) hD hS hA (fun r_46 u46 H locs hw_46 hP hD hS => ?_)
    have hP : va_P D vwCl [] H := hP
    have hD : va_D A [] := hD
    obtain rfl := hw_46
    refine lv_if_lt (tgt := 64) hx hb dX15_right_49 (by decide) (fun c_49 => absurd c_49 (by decide +kernel)) (fun _ => ?_)
    refine lv_iload_n hx hb dX15_right_52 rfl (lv_at hl 4 rfl) ?_
    refine lv_i2l hx hb dX15_right_53 rfl ?_
    refine lv_lconst (v := 0) hx hb dX15_right_54 (by decide) ?_
    refine lv_ldc2 hx hb hown (hts _ K2204) dX15_right_55 ?_
    refine z_calli (va_runS (As := [.long p2.toInt64, .long 0, .long 3]) (rest := []) ⟨hx, hb, hml, hown, hts⟩ (k_in l D cy sa sv dc _ (p2.toInt64) 0 3) (va_cwS 3 hts GS_RX15_13 rfl rfl rfl HD_yX15_in ⟨Nat.le_of_ble_eq_true rfl, Nat.le_of_ble_eq_true rfl⟩) ⟨z_blind EM_ok, z_pre EM_ok hP hK hD hEm hS (z_free hD hS hA)⟩ rfl rfl hl.1 rfl (lv_room (Nat.le_of_ble_eq_true rfl)) dX15_right_58 ⟨Nat.le_of_ble_eq_true rfl, Nat.le_of_ble_eq_true rfl⟩) hD hS hA (fun r_58 u58 H locs hw_58 hP hD hS => ?_)
    have hP : va_P D vwCl [] H := hP
    have hD : va_D A [] := hD
    obtain rfl := hw_58
    refine lv_goto (tgt := 147) hx hb dX15_right_61 (by decide) ?_
    refine lv_istore (lv' := [(5, .int (inL ((p2.toInt64)) 0 3)), (4, .int 0), (3, .int 1), (0, .int 115), (1, .int p1), (2, .int p2)]) hx hb dX15_right_147 hl (by decide) rfl (fun ls hl => ?_)
    refine lv_iload_n hx hb dX15_right_149 rfl (lv_at hl 2 rfl) ?_
    refine lv_if_eq (tgt := 167) hx hb dX15_right_150 (by decide) (fun c_150 => absurd c_150 (by decide)) (fun _ => ?_)
    refine lv_iload hx hb dX15_right_153 (lv_at hl 1 rfl) ?_
    refine lv_if_eq (tgt := 167) hx hb dX15_right_155 (by decide) (fun _ => ?_) (fun c_155 => absurd (by decide) c_155)
    refine lv_iconst (v := 0) hx hb dX15_right_167 (by decide) ?_
    exact z_reti () hx hb hr rfl hlocks hK ((by simp [okI, okD, okS, (inL_4 p1).symm.trans c_33])) hP hD hS (Nat.le_of_ble_eq_true rfl) (Nat.le_of_ble_eq_true rfl) dX15_right_168
  · refine lv_iconst (v := 1) hx hb dX15_right_36 (by decide) ?_
    refine lv_goto (tgt := 41) hx hb dX15_right_37 (by decide) ?_
    refine lv_istore (lv' := [(4, .int 1), (3, .int 1), (0, .int 115), (1, .int p1), (2, .int p2)]) hx hb dX15_right_41 hl (by decide) rfl (fun ls hl => ?_)
    refine va_ldcS (q := sa 54) (tx := "m+-*ls") hx hb hown (VK54 hEn.2.1) dX15_right_43 ?_
    refine lv_iload_n hx hb dX15_right_45 rfl (lv_at hl 2 rfl) ?_
    refine z_calli (va_runV (As := [.int 115]) (rest := []) ⟨hx, hb, hml, hown, hts⟩ (k_ixs3 l D cy sa sv dc _ 115) (cwV 1 hts GV_RX15_104 rfl rfl rfl ⟨rfl, HD_yJ0_indexOf_0f7a4⟩ ⟨Nat.le_of_ble_eq_true rfl, Nat.le_of_ble_eq_true rfl⟩) ⟨z_blind EM_ok, recvS (hEm.2.2.2.2 3 _ rfl).1 hS, z_pre EM_ok hP hK hD hEm hS (z_free hD hS hA)⟩ rfl rfl hl.1 rfl (lv_room (Nat.le_of_ble_eq_true rfl)) dX15_right_46 ⟨Nat.le_of_ble_eq_true rfl, Nat.le_of_ble_eq_true rfl⟩) hD hS hA (fun r_46 u46_1 H locs hw_46 hP hD hS => ?_)
    have hP : va_P D vwCl [] H := hP
    have hD : va_D A [] := hD
    obtain rfl := hw_46
    refine lv_if_lt (tgt := 64) hx hb dX15_right_49 (by decide) (fun c_49 => absurd c_49 (by decide +kernel)) (fun _ => ?_)
    refine lv_iload_n hx hb dX15_right_52 rfl (lv_at hl 4 rfl) ?_
    refine lv_i2l hx hb dX15_right_53 rfl ?_
    refine lv_lconst (v := 0) hx hb dX15_right_54 (by decide) ?_
    refine lv_ldc2 hx hb hown (hts _ K2204) dX15_right_55 ?_
    refine z_calli (va_runS (As := [.long p2.toInt64, .long 0, .long 3]) (rest := []) ⟨hx, hb, hml, hown, hts⟩ (k_in l D cy sa sv dc _ (p2.toInt64) 0 3) (va_cwS 3 hts GS_RX15_13 rfl rfl rfl HD_yX15_in ⟨Nat.le_of_ble_eq_true rfl, Nat.le_of_ble_eq_true rfl⟩) ⟨z_blind EM_ok, z_pre EM_ok hP hK hD hEm hS (z_free hD hS hA)⟩ rfl rfl hl.1 rfl (lv_room (Nat.le_of_ble_eq_true rfl)) dX15_right_58 ⟨Nat.le_of_ble_eq_true rfl, Nat.le_of_ble_eq_true rfl⟩) hD hS hA (fun r_58 u58_2 H locs hw_58 hP hD hS => ?_)
    have hP : va_P D vwCl [] H := hP
    have hD : va_D A [] := hD
    obtain rfl := hw_58
    refine lv_goto (tgt := 147) hx hb dX15_right_61 (by decide) ?_
    refine lv_istore (lv' := [(5, .int (inL ((p2.toInt64)) 0 3)), (4, .int 1), (3, .int 1), (0, .int 115), (1, .int p1), (2, .int p2)]) hx hb dX15_right_147 hl (by decide) rfl (fun ls hl => ?_)
    refine lv_iload_n hx hb dX15_right_149 rfl (lv_at hl 2 rfl) ?_
    refine lv_if_eq (tgt := 167) hx hb dX15_right_150 (by decide) (fun c_150 => absurd c_150 (by decide)) (fun _ => ?_)
    refine lv_iload hx hb dX15_right_153 (lv_at hl 1 rfl) ?_
    refine lv_if_eq (tgt := 167) hx hb dX15_right_155 (by decide) (fun c_155 => absurd c_155 (by decide)) (fun _ => ?_)
    refine lv_iload hx hb dX15_right_158 (lv_at hl 0 rfl) ?_
    refine lv_if_eq (tgt := 167) hx hb dX15_right_160 (by decide) (fun c_160 => ?_) (fun c_160 => ?_)
    · refine lv_iconst (v := 0) hx hb dX15_right_167 (by decide) ?_
      exact z_reti () hx hb hr rfl hlocks hK ((by simp [okI, okD, okS, bl_ne (fun z => c_33 ((inL_4 p1).trans z)), (inL_4 p2).symm.trans c_160])) hP hD hS (Nat.le_of_ble_eq_true rfl) (Nat.le_of_ble_eq_true rfl) dX15_right_168
    · refine lv_iconst (v := 1) hx hb dX15_right_163 (by decide) ?_
      refine lv_goto (tgt := 168) hx hb dX15_right_164 (by decide) ?_
      exact z_reti () hx hb hr rfl hlocks hK ((by simp [okI, okD, okS, bl_ne (fun z => c_33 ((inL_4 p1).trans z)), bl_ne (fun z => c_160 ((inL_4 p2).trans z))])) hP hD hS (Nat.le_of_ble_eq_true rfl) (Nat.le_of_ble_eq_true rfl) dX15_right_168
set_option maxHeartbeats 4000000 in
set_option maxRecDepth 100000 in
theorem k_right_112 (l : Launch) (D : va_G) (cy : Nat → ClassId) (sa : Nat → Nat) (sv : Nat → Nat) (dc : Nat) (sz : Nat) (p1 p2 : Int32) : Met l yX15_right (Cond.code yX15_right cX15_right 6 (some .boolean) :: ALL) ({ frames := 5, cells := 0, slots := 0, locals := 91 }) (zPc D vwCl (TY cy) (EM sa sv dc) [.int 112, .int p1, .int p2] [] sz) (va_Qi (fun r _ => r = okI 112 p1 p2) (zB D vwCl (TY cy) (S := Unit) (fun u => []) (va_A [] sz)) (va_A [] sz)) 0 0 (va_A [] sz) := by
  refine z_start (Qc := fun A => va_Qi (fun r _ => r = okI 112 p1 p2) (zB D vwCl (TY cy) (S := Unit) (fun u => []) A) A) PN_RX15 (Nat.le_of_ble_eq_true rfl) ?_
  intro p e s m below meth c A ls hx hb hr hml hts hown hlocks hin hA hP hK hD hS hEn hl
  have hown : s.vm.findClass RX15 = some m.cls := hown
  have hEm := hEn
  have hEn := hEn.1
  have hl : lv_has ls 6 [(0, .int 112), (1, .int p1), (2, .int p2)] := hl
  have hS0 := hS
  refine va_ldcS (q := sa 52) (tx := "ncm+-*lgspjkexrh") hx hb hown (VK52 hEn.2.1) dX15_right_0 ?_
  refine lv_iload_n hx hb dX15_right_2 rfl (lv_at hl 0 rfl) ?_
  refine z_calli (va_runV (As := [.int 112]) (rest := []) ⟨hx, hb, hml, hown, hts⟩ (k_ixs1 l D cy sa sv dc _ 112) (cwV 1 hts GV_RX15_104 rfl rfl rfl ⟨rfl, HD_yJ0_indexOf_0f7a4⟩ ⟨Nat.le_of_ble_eq_true rfl, Nat.le_of_ble_eq_true rfl⟩) ⟨z_blind EM_ok, recvS (hEm.2.2.2.2 1 _ rfl).1 hS, z_pre EM_ok hP hK hD hEm hS (z_free hD hS hA)⟩ rfl rfl hl.1 rfl (lv_room (Nat.le_of_ble_eq_true rfl)) dX15_right_3 ⟨Nat.le_of_ble_eq_true rfl, Nat.le_of_ble_eq_true rfl⟩) hD hS hA (fun r_3 u3 H locs hw_3 hP hD hS => ?_)
  have hP : va_P D vwCl [] H := hP
  have hD : va_D A [] := hD
  obtain rfl := hw_3
  refine lv_if_lt (tgt := 13) hx hb dX15_right_6 (by decide) (fun c_6 => absurd c_6 (by decide +kernel)) (fun _ => ?_)
  refine lv_iconst (v := 1) hx hb dX15_right_9 (by decide) ?_
  refine lv_goto (tgt := 14) hx hb dX15_right_10 (by decide) ?_
  refine lv_istore_n (lv' := [(3, .int 1), (0, .int 112), (1, .int p1), (2, .int p2)]) hx hb dX15_right_14 rfl hl (by decide) rfl (fun ls hl => ?_)
  refine va_ldcS (q := sa 53) (tx := "cm+-*lgspj") hx hb hown (VK53 hEn.2.1) dX15_right_15 ?_
  refine lv_iload_n hx hb dX15_right_17 rfl (lv_at hl 1 rfl) ?_
  refine z_calli (va_runV (As := [.int 112]) (rest := []) ⟨hx, hb, hml, hown, hts⟩ (k_ixs2 l D cy sa sv dc _ 112) (cwV 1 hts GV_RX15_104 rfl rfl rfl ⟨rfl, HD_yJ0_indexOf_0f7a4⟩ ⟨Nat.le_of_ble_eq_true rfl, Nat.le_of_ble_eq_true rfl⟩) ⟨z_blind EM_ok, recvS (hEm.2.2.2.2 2 _ rfl).1 hS, z_pre EM_ok hP hK hD hEm hS (z_free hD hS hA)⟩ rfl rfl hl.1 rfl (lv_room (Nat.le_of_ble_eq_true rfl)) dX15_right_18 ⟨Nat.le_of_ble_eq_true rfl, Nat.le_of_ble_eq_true rfl⟩) hD hS hA (fun r_18 u18 H locs hw_18 hP hD hS => ?_)
  have hP : va_P D vwCl [] H := hP
  have hD : va_D A [] := hD
  obtain rfl := hw_18
  refine lv_if_lt (tgt := 36) hx hb dX15_right_21 (by decide) (fun c_21 => absurd c_21 (by decide +kernel)) (fun _ => ?_)
  refine lv_iload_n hx hb dX15_right_24 rfl (lv_at hl 2 rfl) ?_
  refine lv_i2l hx hb dX15_right_25 rfl ?_
  refine lv_lconst (v := 0) hx hb dX15_right_26 (by decide) ?_
  refine lv_ldc2 hx hb hown (hts _ K2204) dX15_right_27 ?_
  refine z_calli (va_runS (As := [.long p1.toInt64, .long 0, .long 3]) (rest := []) ⟨hx, hb, hml, hown, hts⟩ (k_in l D cy sa sv dc _ (p1.toInt64) 0 3) (va_cwS 3 hts GS_RX15_13 rfl rfl rfl HD_yX15_in ⟨Nat.le_of_ble_eq_true rfl, Nat.le_of_ble_eq_true rfl⟩) ⟨z_blind EM_ok, z_pre EM_ok hP hK hD hEm hS (z_free hD hS hA)⟩ rfl rfl hl.1 rfl (lv_room (Nat.le_of_ble_eq_true rfl)) dX15_right_30 ⟨Nat.le_of_ble_eq_true rfl, Nat.le_of_ble_eq_true rfl⟩) hD hS hA (fun r_30 u30 H locs hw_30 hP hD hS => ?_)
  have hP : va_P D vwCl [] H := hP
  have hD : va_D A [] := hD
  obtain rfl := hw_30
  refine lv_if_eq (tgt := 40) hx hb dX15_right_33 (by decide) (fun c_33 => ?_) (fun c_33 => ?_)
  · refine lv_iconst (v := 0) hx hb dX15_right_40 (by decide) ?_
    refine lv_istore (lv' := [(4, .int 0), (3, .int 1), (0, .int 112), (1, .int p1), (2, .int p2)]) hx hb dX15_right_41 hl (by decide) rfl (fun ls hl => ?_)
    refine va_ldcS (q := sa 54) (tx := "m+-*ls") hx hb hown (VK54 hEn.2.1) dX15_right_43 ?_
    refine lv_iload_n hx hb dX15_right_45 rfl (lv_at hl 2 rfl) ?_
    refine z_calli (va_runV (As := [.int 112]) (rest := []) ⟨hx, hb, hml, hown, hts⟩ (k_ixs3 l D cy sa sv dc _ 112) (cwV 1 hts GV_RX15_104 rfl rfl rfl ⟨rfl, HD_yJ0_indexOf_0f7a4⟩ ⟨Nat.le_of_ble_eq_true rfl, Nat.le_of_ble_eq_true rfl⟩) ⟨z_blind EM_ok, recvS (hEm.2.2.2.2 3 _ rfl).1 hS, z_pre EM_ok hP hK hD hEm hS (z_free hD hS hA)⟩ rfl rfl hl.1 rfl (lv_room (Nat.le_of_ble_eq_true rfl)) dX15_right_46 ⟨Nat.le_of_ble_eq_true rfl, Nat.le_of_ble_eq_true rfl⟩) hD hS hA (fun r_46 u46 H locs hw_46 hP hD hS => ?_)
    have hP : va_P D vwCl [] H := hP
    have hD : va_D A [] := hD
    obtain rfl := hw_46
    refine lv_if_lt (tgt := 64) hx hb dX15_right_49 (by decide) (fun _ => ?_) (fun c_49 => absurd (by decide +kernel) c_49)
    refine lv_iload_n hx hb dX15_right_64 rfl (lv_at hl 2 rfl) ?_
    refine lv_bipush (v := 103) hx hb dX15_right_65 (by decide) ?_
    refine lv_icmp_eq (tgt := 76) hx hb dX15_right_67 (by decide) (fun c_67 => absurd c_67 (by decide)) (fun _ => ?_)
    refine lv_iload_n hx hb dX15_right_70 rfl (lv_at hl 2 rfl) ?_
    refine lv_bipush (v := 112) hx hb dX15_right_71 (by decide) ?_
    refine lv_icmp_ne (tgt := 88) hx hb dX15_right_73 (by decide) (fun c_73 => absurd (by decide) c_73) (fun _ => ?_)
    refine lv_iload_n hx hb dX15_right_76 rfl (lv_at hl 4 rfl) ?_
    refine lv_i2l hx hb dX15_right_77 rfl ?_
    refine lv_lconst (v := 0) hx hb dX15_right_78 (by decide) ?_
    refine lv_ldc2 hx hb hown (hts _ K2209) dX15_right_79 ?_
    refine z_calli (va_runS (As := [.long p2.toInt64, .long 0, .long 15]) (rest := []) ⟨hx, hb, hml, hown, hts⟩ (k_in l D cy sa sv dc _ (p2.toInt64) 0 15) (va_cwS 3 hts GS_RX15_13 rfl rfl rfl HD_yX15_in ⟨Nat.le_of_ble_eq_true rfl, Nat.le_of_ble_eq_true rfl⟩) ⟨z_blind EM_ok, z_pre EM_ok hP hK hD hEm hS (z_free hD hS hA)⟩ rfl rfl hl.1 rfl (lv_room (Nat.le_of_ble_eq_true rfl)) dX15_right_82 ⟨Nat.le_of_ble_eq_true rfl, Nat.le_of_ble_eq_true rfl⟩) hD hS hA (fun r_82 u82 H locs hw_82 hP hD hS => ?_)
    have hP : va_P D vwCl [] H := hP
    have hD : va_D A [] := hD
    obtain rfl := hw_82
    refine lv_goto (tgt := 147) hx hb dX15_right_85 (by decide) ?_
    refine lv_istore (lv' := [(5, .int (inL ((p2.toInt64)) 0 15)), (4, .int 0), (3, .int 1), (0, .int 112), (1, .int p1), (2, .int p2)]) hx hb dX15_right_147 hl (by decide) rfl (fun ls hl => ?_)
    refine lv_iload_n hx hb dX15_right_149 rfl (lv_at hl 2 rfl) ?_
    refine lv_if_eq (tgt := 167) hx hb dX15_right_150 (by decide) (fun c_150 => absurd c_150 (by decide)) (fun _ => ?_)
    refine lv_iload hx hb dX15_right_153 (lv_at hl 1 rfl) ?_
    refine lv_if_eq (tgt := 167) hx hb dX15_right_155 (by decide) (fun _ => ?_) (fun c_155 => absurd (by decide) c_155)
    refine lv_iconst (v := 0) hx hb dX15_right_167 (by decide) ?_
    exact z_reti () hx hb hr rfl hlocks hK ((by simp [okI, okD, okS, (inL_4 p1).symm.trans c_33])) hP hD hS (Nat.le_of_ble_eq_true rfl) (Nat.le_of_ble_eq_true rfl) dX15_right_168
  · refine lv_iconst (v := 1) hx hb dX15_right_36 (by decide) ?_
    refine lv_goto (tgt := 41) hx hb dX15_right_37 (by decide) ?_
    refine lv_istore (lv' := [(4, .int 1), (3, .int 1), (0, .int 112), (1, .int p1), (2, .int p2)]) hx hb dX15_right_41 hl (by decide) rfl (fun ls hl => ?_)
    refine va_ldcS (q := sa 54) (tx := "m+-*ls") hx hb hown (VK54 hEn.2.1) dX15_right_43 ?_
    refine lv_iload_n hx hb dX15_right_45 rfl (lv_at hl 2 rfl) ?_
    refine z_calli (va_runV (As := [.int 112]) (rest := []) ⟨hx, hb, hml, hown, hts⟩ (k_ixs3 l D cy sa sv dc _ 112) (cwV 1 hts GV_RX15_104 rfl rfl rfl ⟨rfl, HD_yJ0_indexOf_0f7a4⟩ ⟨Nat.le_of_ble_eq_true rfl, Nat.le_of_ble_eq_true rfl⟩) ⟨z_blind EM_ok, recvS (hEm.2.2.2.2 3 _ rfl).1 hS, z_pre EM_ok hP hK hD hEm hS (z_free hD hS hA)⟩ rfl rfl hl.1 rfl (lv_room (Nat.le_of_ble_eq_true rfl)) dX15_right_46 ⟨Nat.le_of_ble_eq_true rfl, Nat.le_of_ble_eq_true rfl⟩) hD hS hA (fun r_46 u46_1 H locs hw_46 hP hD hS => ?_)
    have hP : va_P D vwCl [] H := hP
    have hD : va_D A [] := hD
    obtain rfl := hw_46
    refine lv_if_lt (tgt := 64) hx hb dX15_right_49 (by decide) (fun _ => ?_) (fun c_49 => absurd (by decide +kernel) c_49)
    refine lv_iload_n hx hb dX15_right_64 rfl (lv_at hl 2 rfl) ?_
    refine lv_bipush (v := 103) hx hb dX15_right_65 (by decide) ?_
    refine lv_icmp_eq (tgt := 76) hx hb dX15_right_67 (by decide) (fun c_67 => absurd c_67 (by decide)) (fun _ => ?_)
    refine lv_iload_n hx hb dX15_right_70 rfl (lv_at hl 2 rfl) ?_
    refine lv_bipush (v := 112) hx hb dX15_right_71 (by decide) ?_
    refine lv_icmp_ne (tgt := 88) hx hb dX15_right_73 (by decide) (fun c_73 => absurd (by decide) c_73) (fun _ => ?_)
    refine lv_iload_n hx hb dX15_right_76 rfl (lv_at hl 4 rfl) ?_
    refine lv_i2l hx hb dX15_right_77 rfl ?_
    refine lv_lconst (v := 0) hx hb dX15_right_78 (by decide) ?_
    refine lv_ldc2 hx hb hown (hts _ K2209) dX15_right_79 ?_
    refine z_calli (va_runS (As := [.long p2.toInt64, .long 0, .long 15]) (rest := []) ⟨hx, hb, hml, hown, hts⟩ (k_in l D cy sa sv dc _ (p2.toInt64) 0 15) (va_cwS 3 hts GS_RX15_13 rfl rfl rfl HD_yX15_in ⟨Nat.le_of_ble_eq_true rfl, Nat.le_of_ble_eq_true rfl⟩) ⟨z_blind EM_ok, z_pre EM_ok hP hK hD hEm hS (z_free hD hS hA)⟩ rfl rfl hl.1 rfl (lv_room (Nat.le_of_ble_eq_true rfl)) dX15_right_82 ⟨Nat.le_of_ble_eq_true rfl, Nat.le_of_ble_eq_true rfl⟩) hD hS hA (fun r_82 u82_2 H locs hw_82 hP hD hS => ?_)
    have hP : va_P D vwCl [] H := hP
    have hD : va_D A [] := hD
    obtain rfl := hw_82
    refine lv_goto (tgt := 147) hx hb dX15_right_85 (by decide) ?_
    refine lv_istore (lv' := [(5, .int (inL ((p2.toInt64)) 0 15)), (4, .int 1), (3, .int 1), (0, .int 112), (1, .int p1), (2, .int p2)]) hx hb dX15_right_147 hl (by decide) rfl (fun ls hl => ?_)
    refine lv_iload_n hx hb dX15_right_149 rfl (lv_at hl 2 rfl) ?_
    refine lv_if_eq (tgt := 167) hx hb dX15_right_150 (by decide) (fun c_150 => absurd c_150 (by decide)) (fun _ => ?_)
    refine lv_iload hx hb dX15_right_153 (lv_at hl 1 rfl) ?_
    refine lv_if_eq (tgt := 167) hx hb dX15_right_155 (by decide) (fun c_155 => absurd c_155 (by decide)) (fun _ => ?_)
    refine lv_iload hx hb dX15_right_158 (lv_at hl 0 rfl) ?_
    refine lv_if_eq (tgt := 167) hx hb dX15_right_160 (by decide) (fun c_160 => ?_) (fun c_160 => ?_)
    · refine lv_iconst (v := 0) hx hb dX15_right_167 (by decide) ?_
      exact z_reti () hx hb hr rfl hlocks hK ((by simp [okI, okD, okS, bl_ne (fun z => c_33 ((inL_4 p1).trans z)), (inL_16 p2).symm.trans c_160])) hP hD hS (Nat.le_of_ble_eq_true rfl) (Nat.le_of_ble_eq_true rfl) dX15_right_168
    · refine lv_iconst (v := 1) hx hb dX15_right_163 (by decide) ?_
      refine lv_goto (tgt := 168) hx hb dX15_right_164 (by decide) ?_
      exact z_reti () hx hb hr rfl hlocks hK ((by simp [okI, okD, okS, bl_ne (fun z => c_33 ((inL_4 p1).trans z)), bl_ne (fun z => c_160 ((inL_16 p2).trans z))])) hP hD hS (Nat.le_of_ble_eq_true rfl) (Nat.le_of_ble_eq_true rfl) dX15_right_168
set_option maxHeartbeats 4000000 in
set_option maxRecDepth 100000 in
theorem k_right_106 (l : Launch) (D : va_G) (cy : Nat → ClassId) (sa : Nat → Nat) (sv : Nat → Nat) (dc : Nat) (sz : Nat) (p1 p2 : Int32) : Met l yX15_right (Cond.code yX15_right cX15_right 6 (some .boolean) :: ALL) ({ frames := 5, cells := 0, slots := 0, locals := 91 }) (zPc D vwCl (TY cy) (EM sa sv dc) [.int 106, .int p1, .int p2] [] sz) (va_Qi (fun r _ => r = okI 106 p1 p2) (zB D vwCl (TY cy) (S := Unit) (fun u => []) (va_A [] sz)) (va_A [] sz)) 0 0 (va_A [] sz) := by
  refine z_start (Qc := fun A => va_Qi (fun r _ => r = okI 106 p1 p2) (zB D vwCl (TY cy) (S := Unit) (fun u => []) A) A) PN_RX15 (Nat.le_of_ble_eq_true rfl) ?_
  intro p e s m below meth c A ls hx hb hr hml hts hown hlocks hin hA hP hK hD hS hEn hl
  have hown : s.vm.findClass RX15 = some m.cls := hown
  have hEm := hEn
  have hEn := hEn.1
  have hl : lv_has ls 6 [(0, .int 106), (1, .int p1), (2, .int p2)] := hl
  have hS0 := hS
  refine va_ldcS (q := sa 52) (tx := "ncm+-*lgspjkexrh") hx hb hown (VK52 hEn.2.1) dX15_right_0 ?_
  refine lv_iload_n hx hb dX15_right_2 rfl (lv_at hl 0 rfl) ?_
  refine z_calli (va_runV (As := [.int 106]) (rest := []) ⟨hx, hb, hml, hown, hts⟩ (k_ixs1 l D cy sa sv dc _ 106) (cwV 1 hts GV_RX15_104 rfl rfl rfl ⟨rfl, HD_yJ0_indexOf_0f7a4⟩ ⟨Nat.le_of_ble_eq_true rfl, Nat.le_of_ble_eq_true rfl⟩) ⟨z_blind EM_ok, recvS (hEm.2.2.2.2 1 _ rfl).1 hS, z_pre EM_ok hP hK hD hEm hS (z_free hD hS hA)⟩ rfl rfl hl.1 rfl (lv_room (Nat.le_of_ble_eq_true rfl)) dX15_right_3 ⟨Nat.le_of_ble_eq_true rfl, Nat.le_of_ble_eq_true rfl⟩) hD hS hA (fun r_3 u3 H locs hw_3 hP hD hS => ?_)
  have hP : va_P D vwCl [] H := hP
  have hD : va_D A [] := hD
  obtain rfl := hw_3
  refine lv_if_lt (tgt := 13) hx hb dX15_right_6 (by decide) (fun c_6 => absurd c_6 (by decide +kernel)) (fun _ => ?_)
  refine lv_iconst (v := 1) hx hb dX15_right_9 (by decide) ?_
  refine lv_goto (tgt := 14) hx hb dX15_right_10 (by decide) ?_
  refine lv_istore_n (lv' := [(3, .int 1), (0, .int 106), (1, .int p1), (2, .int p2)]) hx hb dX15_right_14 rfl hl (by decide) rfl (fun ls hl => ?_)
  refine va_ldcS (q := sa 53) (tx := "cm+-*lgspj") hx hb hown (VK53 hEn.2.1) dX15_right_15 ?_
  refine lv_iload_n hx hb dX15_right_17 rfl (lv_at hl 1 rfl) ?_
  refine z_calli (va_runV (As := [.int 106]) (rest := []) ⟨hx, hb, hml, hown, hts⟩ (k_ixs2 l D cy sa sv dc _ 106) (cwV 1 hts GV_RX15_104 rfl rfl rfl ⟨rfl, HD_yJ0_indexOf_0f7a4⟩ ⟨Nat.le_of_ble_eq_true rfl, Nat.le_of_ble_eq_true rfl⟩) ⟨z_blind EM_ok, recvS (hEm.2.2.2.2 2 _ rfl).1 hS, z_pre EM_ok hP hK hD hEm hS (z_free hD hS hA)⟩ rfl rfl hl.1 rfl (lv_room (Nat.le_of_ble_eq_true rfl)) dX15_right_18 ⟨Nat.le_of_ble_eq_true rfl, Nat.le_of_ble_eq_true rfl⟩) hD hS hA (fun r_18 u18 H locs hw_18 hP hD hS => ?_)
  have hP : va_P D vwCl [] H := hP
  have hD : va_D A [] := hD
  obtain rfl := hw_18
  refine lv_if_lt (tgt := 36) hx hb dX15_right_21 (by decide) (fun c_21 => absurd c_21 (by decide +kernel)) (fun _ => ?_)
  refine lv_iload_n hx hb dX15_right_24 rfl (lv_at hl 2 rfl) ?_
  refine lv_i2l hx hb dX15_right_25 rfl ?_
  refine lv_lconst (v := 0) hx hb dX15_right_26 (by decide) ?_
  refine lv_ldc2 hx hb hown (hts _ K2204) dX15_right_27 ?_
  refine z_calli (va_runS (As := [.long p1.toInt64, .long 0, .long 3]) (rest := []) ⟨hx, hb, hml, hown, hts⟩ (k_in l D cy sa sv dc _ (p1.toInt64) 0 3) (va_cwS 3 hts GS_RX15_13 rfl rfl rfl HD_yX15_in ⟨Nat.le_of_ble_eq_true rfl, Nat.le_of_ble_eq_true rfl⟩) ⟨z_blind EM_ok, z_pre EM_ok hP hK hD hEm hS (z_free hD hS hA)⟩ rfl rfl hl.1 rfl (lv_room (Nat.le_of_ble_eq_true rfl)) dX15_right_30 ⟨Nat.le_of_ble_eq_true rfl, Nat.le_of_ble_eq_true rfl⟩) hD hS hA (fun r_30 u30 H locs hw_30 hP hD hS => ?_)
  have hP : va_P D vwCl [] H := hP
  have hD : va_D A [] := hD
  obtain rfl := hw_30
  refine lv_if_eq (tgt := 40) hx hb dX15_right_33 (by decide) (fun c_33 => ?_) (fun c_33 => ?_)
  · refine lv_iconst (v := 0) hx hb dX15_right_40 (by decide) ?_
    refine lv_istore (lv' := [(4, .int 0), (3, .int 1), (0, .int 106), (1, .int p1), (2, .int p2)]) hx hb dX15_right_41 hl (by decide) rfl (fun ls hl => ?_)
    refine va_ldcS (q := sa 54) (tx := "m+-*ls") hx hb hown (VK54 hEn.2.1) dX15_right_43 ?_
    refine lv_iload_n hx hb dX15_right_45 rfl (lv_at hl 2 rfl) ?_
    refine z_calli (va_runV (As := [.int 106]) (rest := []) ⟨hx, hb, hml, hown, hts⟩ (k_ixs3 l D cy sa sv dc _ 106) (cwV 1 hts GV_RX15_104 rfl rfl rfl ⟨rfl, HD_yJ0_indexOf_0f7a4⟩ ⟨Nat.le_of_ble_eq_true rfl, Nat.le_of_ble_eq_true rfl⟩) ⟨z_blind EM_ok, recvS (hEm.2.2.2.2 3 _ rfl).1 hS, z_pre EM_ok hP hK hD hEm hS (z_free hD hS hA)⟩ rfl rfl hl.1 rfl (lv_room (Nat.le_of_ble_eq_true rfl)) dX15_right_46 ⟨Nat.le_of_ble_eq_true rfl, Nat.le_of_ble_eq_true rfl⟩) hD hS hA (fun r_46 u46 H locs hw_46 hP hD hS => ?_)
    have hP : va_P D vwCl [] H := hP
    have hD : va_D A [] := hD
    obtain rfl := hw_46
    refine lv_if_lt (tgt := 64) hx hb dX15_right_49 (by decide) (fun _ => ?_) (fun c_49 => absurd (by decide +kernel) c_49)
    refine lv_iload_n hx hb dX15_right_64 rfl (lv_at hl 2 rfl) ?_
    refine lv_bipush (v := 103) hx hb dX15_right_65 (by decide) ?_
    refine lv_icmp_eq (tgt := 76) hx hb dX15_right_67 (by decide) (fun c_67 => absurd c_67 (by decide)) (fun _ => ?_)
    refine lv_iload_n hx hb dX15_right_70 rfl (lv_at hl 2 rfl) ?_
    refine lv_bipush (v := 112) hx hb dX15_right_71 (by decide) ?_
    refine lv_icmp_ne (tgt := 88) hx hb dX15_right_73 (by decide) (fun _ => ?_) (fun c_73 => absurd c_73 (by decide))
    refine lv_iload_n hx hb dX15_right_88 rfl (lv_at hl 2 rfl) ?_
    refine lv_bipush (v := 106) hx hb dX15_right_89 (by decide) ?_
    refine lv_icmp_ne (tgt := 106) hx hb dX15_right_91 (by decide) (fun c_91 => absurd (by decide) c_91) (fun _ => ?_)
    refine lv_iload_n hx hb dX15_right_94 rfl (lv_at hl 4 rfl) ?_
    refine lv_i2l hx hb dX15_right_95 rfl ?_
    refine lv_lconst (v := 0) hx hb dX15_right_96 (by decide) ?_
    refine lv_ldc2 hx hb hown (hts _ K2210) dX15_right_97 ?_
    refine z_calli (va_runS (As := [.long p2.toInt64, .long 0, .long 59]) (rest := []) ⟨hx, hb, hml, hown, hts⟩ (k_in l D cy sa sv dc _ (p2.toInt64) 0 59) (va_cwS 3 hts GS_RX15_13 rfl rfl rfl HD_yX15_in ⟨Nat.le_of_ble_eq_true rfl, Nat.le_of_ble_eq_true rfl⟩) ⟨z_blind EM_ok, z_pre EM_ok hP hK hD hEm hS (z_free hD hS hA)⟩ rfl rfl hl.1 rfl (lv_room (Nat.le_of_ble_eq_true rfl)) dX15_right_100 ⟨Nat.le_of_ble_eq_true rfl, Nat.le_of_ble_eq_true rfl⟩) hD hS hA (fun r_100 u100 H locs hw_100 hP hD hS => ?_)
    have hP : va_P D vwCl [] H := hP
    have hD : va_D A [] := hD
    obtain rfl := hw_100
    refine lv_goto (tgt := 147) hx hb dX15_right_103 (by decide) ?_
    refine lv_istore (lv' := [(5, .int (inL ((p2.toInt64)) 0 59)), (4, .int 0), (3, .int 1), (0, .int 106), (1, .int p1), (2, .int p2)]) hx hb dX15_right_147 hl (by decide) rfl (fun ls hl => ?_)
    refine lv_iload_n hx hb dX15_right_149 rfl (lv_at hl 2 rfl) ?_
    refine lv_if_eq (tgt := 167) hx hb dX15_right_150 (by decide) (fun c_150 => absurd c_150 (by decide)) (fun _ => ?_)
    refine lv_iload hx hb dX15_right_153 (lv_at hl 1 rfl) ?_
    refine lv_if_eq (tgt := 167) hx hb dX15_right_155 (by decide) (fun _ => ?_) (fun c_155 => absurd (by decide) c_155)
    refine lv_iconst (v := 0) hx hb dX15_right_167 (by decide) ?_
    exact z_reti () hx hb hr rfl hlocks hK ((by simp [okI, okD, okS, (inL_4 p1).symm.trans c_33])) hP hD hS (Nat.le_of_ble_eq_true rfl) (Nat.le_of_ble_eq_true rfl) dX15_right_168
  · refine lv_iconst (v := 1) hx hb dX15_right_36 (by decide) ?_
    refine lv_goto (tgt := 41) hx hb dX15_right_37 (by decide) ?_
    refine lv_istore (lv' := [(4, .int 1), (3, .int 1), (0, .int 106), (1, .int p1), (2, .int p2)]) hx hb dX15_right_41 hl (by decide) rfl (fun ls hl => ?_)
    refine va_ldcS (q := sa 54) (tx := "m+-*ls") hx hb hown (VK54 hEn.2.1) dX15_right_43 ?_
    refine lv_iload_n hx hb dX15_right_45 rfl (lv_at hl 2 rfl) ?_
    refine z_calli (va_runV (As := [.int 106]) (rest := []) ⟨hx, hb, hml, hown, hts⟩ (k_ixs3 l D cy sa sv dc _ 106) (cwV 1 hts GV_RX15_104 rfl rfl rfl ⟨rfl, HD_yJ0_indexOf_0f7a4⟩ ⟨Nat.le_of_ble_eq_true rfl, Nat.le_of_ble_eq_true rfl⟩) ⟨z_blind EM_ok, recvS (hEm.2.2.2.2 3 _ rfl).1 hS, z_pre EM_ok hP hK hD hEm hS (z_free hD hS hA)⟩ rfl rfl hl.1 rfl (lv_room (Nat.le_of_ble_eq_true rfl)) dX15_right_46 ⟨Nat.le_of_ble_eq_true rfl, Nat.le_of_ble_eq_true rfl⟩) hD hS hA (fun r_46 u46_1 H locs hw_46 hP hD hS => ?_)
    have hP : va_P D vwCl [] H := hP
    have hD : va_D A [] := hD
    obtain rfl := hw_46
    refine lv_if_lt (tgt := 64) hx hb dX15_right_49 (by decide) (fun _ => ?_) (fun c_49 => absurd (by decide +kernel) c_49)
    refine lv_iload_n hx hb dX15_right_64 rfl (lv_at hl 2 rfl) ?_
    refine lv_bipush (v := 103) hx hb dX15_right_65 (by decide) ?_
    refine lv_icmp_eq (tgt := 76) hx hb dX15_right_67 (by decide) (fun c_67 => absurd c_67 (by decide)) (fun _ => ?_)
    refine lv_iload_n hx hb dX15_right_70 rfl (lv_at hl 2 rfl) ?_
    refine lv_bipush (v := 112) hx hb dX15_right_71 (by decide) ?_
    refine lv_icmp_ne (tgt := 88) hx hb dX15_right_73 (by decide) (fun _ => ?_) (fun c_73 => absurd c_73 (by decide))
    refine lv_iload_n hx hb dX15_right_88 rfl (lv_at hl 2 rfl) ?_
    refine lv_bipush (v := 106) hx hb dX15_right_89 (by decide) ?_
    refine lv_icmp_ne (tgt := 106) hx hb dX15_right_91 (by decide) (fun c_91 => absurd (by decide) c_91) (fun _ => ?_)
    refine lv_iload_n hx hb dX15_right_94 rfl (lv_at hl 4 rfl) ?_
    refine lv_i2l hx hb dX15_right_95 rfl ?_
    refine lv_lconst (v := 0) hx hb dX15_right_96 (by decide) ?_
    refine lv_ldc2 hx hb hown (hts _ K2210) dX15_right_97 ?_
    refine z_calli (va_runS (As := [.long p2.toInt64, .long 0, .long 59]) (rest := []) ⟨hx, hb, hml, hown, hts⟩ (k_in l D cy sa sv dc _ (p2.toInt64) 0 59) (va_cwS 3 hts GS_RX15_13 rfl rfl rfl HD_yX15_in ⟨Nat.le_of_ble_eq_true rfl, Nat.le_of_ble_eq_true rfl⟩) ⟨z_blind EM_ok, z_pre EM_ok hP hK hD hEm hS (z_free hD hS hA)⟩ rfl rfl hl.1 rfl (lv_room (Nat.le_of_ble_eq_true rfl)) dX15_right_100 ⟨Nat.le_of_ble_eq_true rfl, Nat.le_of_ble_eq_true rfl⟩) hD hS hA (fun r_100 u100_2 H locs hw_100 hP hD hS => ?_)
    have hP : va_P D vwCl [] H := hP
    have hD : va_D A [] := hD
    obtain rfl := hw_100
    refine lv_goto (tgt := 147) hx hb dX15_right_103 (by decide) ?_
    refine lv_istore (lv' := [(5, .int (inL ((p2.toInt64)) 0 59)), (4, .int 1), (3, .int 1), (0, .int 106), (1, .int p1), (2, .int p2)]) hx hb dX15_right_147 hl (by decide) rfl (fun ls hl => ?_)
    refine lv_iload_n hx hb dX15_right_149 rfl (lv_at hl 2 rfl) ?_
    refine lv_if_eq (tgt := 167) hx hb dX15_right_150 (by decide) (fun c_150 => absurd c_150 (by decide)) (fun _ => ?_)
    refine lv_iload hx hb dX15_right_153 (lv_at hl 1 rfl) ?_
    refine lv_if_eq (tgt := 167) hx hb dX15_right_155 (by decide) (fun c_155 => absurd c_155 (by decide)) (fun _ => ?_)
    refine lv_iload hx hb dX15_right_158 (lv_at hl 0 rfl) ?_
    refine lv_if_eq (tgt := 167) hx hb dX15_right_160 (by decide) (fun c_160 => ?_) (fun c_160 => ?_)
    · refine lv_iconst (v := 0) hx hb dX15_right_167 (by decide) ?_
      exact z_reti () hx hb hr rfl hlocks hK ((by simp [okI, okD, okS, bl_ne (fun z => c_33 ((inL_4 p1).trans z)), (inL_60 p2).symm.trans c_160])) hP hD hS (Nat.le_of_ble_eq_true rfl) (Nat.le_of_ble_eq_true rfl) dX15_right_168
    · refine lv_iconst (v := 1) hx hb dX15_right_163 (by decide) ?_
      refine lv_goto (tgt := 168) hx hb dX15_right_164 (by decide) ?_
      exact z_reti () hx hb hr rfl hlocks hK ((by simp [okI, okD, okS, bl_ne (fun z => c_33 ((inL_4 p1).trans z)), bl_ne (fun z => c_160 ((inL_60 p2).trans z))])) hP hD hS (Nat.le_of_ble_eq_true rfl) (Nat.le_of_ble_eq_true rfl) dX15_right_168
set_option maxHeartbeats 4000000 in
set_option maxRecDepth 100000 in
theorem k_right_107 (l : Launch) (D : va_G) (cy : Nat → ClassId) (sa : Nat → Nat) (sv : Nat → Nat) (dc : Nat) (sz : Nat) (p1 p2 : Int32) : Met l yX15_right (Cond.code yX15_right cX15_right 6 (some .boolean) :: ALL) ({ frames := 5, cells := 0, slots := 0, locals := 91 }) (zPc D vwCl (TY cy) (EM sa sv dc) [.int 107, .int p1, .int p2] [] sz) (va_Qi (fun r _ => r = okI 107 p1 p2) (zB D vwCl (TY cy) (S := Unit) (fun u => []) (va_A [] sz)) (va_A [] sz)) 0 0 (va_A [] sz) := by
  refine z_start (Qc := fun A => va_Qi (fun r _ => r = okI 107 p1 p2) (zB D vwCl (TY cy) (S := Unit) (fun u => []) A) A) PN_RX15 (Nat.le_of_ble_eq_true rfl) ?_
  intro p e s m below meth c A ls hx hb hr hml hts hown hlocks hin hA hP hK hD hS hEn hl
  have hown : s.vm.findClass RX15 = some m.cls := hown
  have hEm := hEn
  have hEn := hEn.1
  have hl : lv_has ls 6 [(0, .int 107), (1, .int p1), (2, .int p2)] := hl
  have hS0 := hS
  refine va_ldcS (q := sa 52) (tx := "ncm+-*lgspjkexrh") hx hb hown (VK52 hEn.2.1) dX15_right_0 ?_
  refine lv_iload_n hx hb dX15_right_2 rfl (lv_at hl 0 rfl) ?_
  refine z_calli (va_runV (As := [.int 107]) (rest := []) ⟨hx, hb, hml, hown, hts⟩ (k_ixs1 l D cy sa sv dc _ 107) (cwV 1 hts GV_RX15_104 rfl rfl rfl ⟨rfl, HD_yJ0_indexOf_0f7a4⟩ ⟨Nat.le_of_ble_eq_true rfl, Nat.le_of_ble_eq_true rfl⟩) ⟨z_blind EM_ok, recvS (hEm.2.2.2.2 1 _ rfl).1 hS, z_pre EM_ok hP hK hD hEm hS (z_free hD hS hA)⟩ rfl rfl hl.1 rfl (lv_room (Nat.le_of_ble_eq_true rfl)) dX15_right_3 ⟨Nat.le_of_ble_eq_true rfl, Nat.le_of_ble_eq_true rfl⟩) hD hS hA (fun r_3 u3 H locs hw_3 hP hD hS => ?_)
  have hP : va_P D vwCl [] H := hP
  have hD : va_D A [] := hD
  obtain rfl := hw_3
  refine lv_if_lt (tgt := 13) hx hb dX15_right_6 (by decide) (fun c_6 => absurd c_6 (by decide +kernel)) (fun _ => ?_)
  refine lv_iconst (v := 1) hx hb dX15_right_9 (by decide) ?_
  refine lv_goto (tgt := 14) hx hb dX15_right_10 (by decide) ?_
  refine lv_istore_n (lv' := [(3, .int 1), (0, .int 107), (1, .int p1), (2, .int p2)]) hx hb dX15_right_14 rfl hl (by decide) rfl (fun ls hl => ?_)
  refine va_ldcS (q := sa 53) (tx := "cm+-*lgspj") hx hb hown (VK53 hEn.2.1) dX15_right_15 ?_
  refine lv_iload_n hx hb dX15_right_17 rfl (lv_at hl 1 rfl) ?_
  refine z_calli (va_runV (As := [.int 107]) (rest := []) ⟨hx, hb, hml, hown, hts⟩ (k_ixs2 l D cy sa sv dc _ 107) (cwV 1 hts GV_RX15_104 rfl rfl rfl ⟨rfl, HD_yJ0_indexOf_0f7a4⟩ ⟨Nat.le_of_ble_eq_true rfl, Nat.le_of_ble_eq_true rfl⟩) ⟨z_blind EM_ok, recvS (hEm.2.2.2.2 2 _ rfl).1 hS, z_pre EM_ok hP hK hD hEm hS (z_free hD hS hA)⟩ rfl rfl hl.1 rfl (lv_room (Nat.le_of_ble_eq_true rfl)) dX15_right_18 ⟨Nat.le_of_ble_eq_true rfl, Nat.le_of_ble_eq_true rfl⟩) hD hS hA (fun r_18 u18 H locs hw_18 hP hD hS => ?_)
  have hP : va_P D vwCl [] H := hP
  have hD : va_D A [] := hD
  obtain rfl := hw_18
  refine lv_if_lt (tgt := 36) hx hb dX15_right_21 (by decide) (fun _ => ?_) (fun c_21 => absurd (by decide +kernel) c_21)
  refine lv_iconst (v := 1) hx hb dX15_right_36 (by decide) ?_
  refine lv_goto (tgt := 41) hx hb dX15_right_37 (by decide) ?_
  refine lv_istore (lv' := [(4, .int 1), (3, .int 1), (0, .int 107), (1, .int p1), (2, .int p2)]) hx hb dX15_right_41 hl (by decide) rfl (fun ls hl => ?_)
  refine va_ldcS (q := sa 54) (tx := "m+-*ls") hx hb hown (VK54 hEn.2.1) dX15_right_43 ?_
  refine lv_iload_n hx hb dX15_right_45 rfl (lv_at hl 2 rfl) ?_
  refine z_calli (va_runV (As := [.int 107]) (rest := []) ⟨hx, hb, hml, hown, hts⟩ (k_ixs3 l D cy sa sv dc _ 107) (cwV 1 hts GV_RX15_104 rfl rfl rfl ⟨rfl, HD_yJ0_indexOf_0f7a4⟩ ⟨Nat.le_of_ble_eq_true rfl, Nat.le_of_ble_eq_true rfl⟩) ⟨z_blind EM_ok, recvS (hEm.2.2.2.2 3 _ rfl).1 hS, z_pre EM_ok hP hK hD hEm hS (z_free hD hS hA)⟩ rfl rfl hl.1 rfl (lv_room (Nat.le_of_ble_eq_true rfl)) dX15_right_46 ⟨Nat.le_of_ble_eq_true rfl, Nat.le_of_ble_eq_true rfl⟩) hD hS hA (fun r_46 u46 H locs hw_46 hP hD hS => ?_)
  have hP : va_P D vwCl [] H := hP
  have hD : va_D A [] := hD
  obtain rfl := hw_46
  refine lv_if_lt (tgt := 64) hx hb dX15_right_49 (by decide) (fun _ => ?_) (fun c_49 => absurd (by decide +kernel) c_49)
  refine lv_iload_n hx hb dX15_right_64 rfl (lv_at hl 2 rfl) ?_
  refine lv_bipush (v := 103) hx hb dX15_right_65 (by decide) ?_
  refine lv_icmp_eq (tgt := 76) hx hb dX15_right_67 (by decide) (fun c_67 => absurd c_67 (by decide)) (fun _ => ?_)
  refine lv_iload_n hx hb dX15_right_70 rfl (lv_at hl 2 rfl) ?_
  refine lv_bipush (v := 112) hx hb dX15_right_71 (by decide) ?_
  refine lv_icmp_ne (tgt := 88) hx hb dX15_right_73 (by decide) (fun _ => ?_) (fun c_73 => absurd c_73 (by decide))
  refine lv_iload_n hx hb dX15_right_88 rfl (lv_at hl 2 rfl) ?_
  refine lv_bipush (v := 106) hx hb dX15_right_89 (by decide) ?_
  refine lv_icmp_ne (tgt := 106) hx hb dX15_right_91 (by decide) (fun _ => ?_) (fun c_91 => absurd c_91 (by decide))
  refine lv_iload_n hx hb dX15_right_106 rfl (lv_at hl 2 rfl) ?_
  refine lv_bipush (v := 107) hx hb dX15_right_107 (by decide) ?_
  refine lv_icmp_ne (tgt := 124) hx hb dX15_right_109 (by decide) (fun c_109 => absurd (by decide) c_109) (fun _ => ?_)
  refine lv_iload_n hx hb dX15_right_112 rfl (lv_at hl 4 rfl) ?_
  refine lv_i2l hx hb dX15_right_113 rfl ?_
  refine lv_lconst (v := 0) hx hb dX15_right_114 (by decide) ?_
  refine lv_ldc2 hx hb hown (hts _ K2211) dX15_right_115 ?_
  refine z_calli (va_runS (As := [.long p2.toInt64, .long 0, .long 5]) (rest := []) ⟨hx, hb, hml, hown, hts⟩ (k_in l D cy sa sv dc _ (p2.toInt64) 0 5) (va_cwS 3 hts GS_RX15_13 rfl rfl rfl HD_yX15_in ⟨Nat.le_of_ble_eq_true rfl, Nat.le_of_ble_eq_true rfl⟩) ⟨z_blind EM_ok, z_pre EM_ok hP hK hD hEm hS (z_free hD hS hA)⟩ rfl rfl hl.1 rfl (lv_room (Nat.le_of_ble_eq_true rfl)) dX15_right_118 ⟨Nat.le_of_ble_eq_true rfl, Nat.le_of_ble_eq_true rfl⟩) hD hS hA (fun r_118 u118 H locs hw_118 hP hD hS => ?_)
  have hP : va_P D vwCl [] H := hP
  have hD : va_D A [] := hD
  obtain rfl := hw_118
  refine lv_goto (tgt := 147) hx hb dX15_right_121 (by decide) ?_
  refine lv_istore (lv' := [(5, .int (inL ((p2.toInt64)) 0 5)), (4, .int 1), (3, .int 1), (0, .int 107), (1, .int p1), (2, .int p2)]) hx hb dX15_right_147 hl (by decide) rfl (fun ls hl => ?_)
  refine lv_iload_n hx hb dX15_right_149 rfl (lv_at hl 2 rfl) ?_
  refine lv_if_eq (tgt := 167) hx hb dX15_right_150 (by decide) (fun c_150 => absurd c_150 (by decide)) (fun _ => ?_)
  refine lv_iload hx hb dX15_right_153 (lv_at hl 1 rfl) ?_
  refine lv_if_eq (tgt := 167) hx hb dX15_right_155 (by decide) (fun c_155 => absurd c_155 (by decide)) (fun _ => ?_)
  refine lv_iload hx hb dX15_right_158 (lv_at hl 0 rfl) ?_
  refine lv_if_eq (tgt := 167) hx hb dX15_right_160 (by decide) (fun c_160 => ?_) (fun c_160 => ?_)
  · refine lv_iconst (v := 0) hx hb dX15_right_167 (by decide) ?_
    exact z_reti () hx hb hr rfl hlocks hK ((by simp [okI, okD, okS, (inL_6 p2).symm.trans c_160])) hP hD hS (Nat.le_of_ble_eq_true rfl) (Nat.le_of_ble_eq_true rfl) dX15_right_168
  · refine lv_iconst (v := 1) hx hb dX15_right_163 (by decide) ?_
    refine lv_goto (tgt := 168) hx hb dX15_right_164 (by decide) ?_
    exact z_reti () hx hb hr rfl hlocks hK ((by simp [okI, okD, okS, bl_ne (fun z => c_160 ((inL_6 p2).trans z))])) hP hD hS (Nat.le_of_ble_eq_true rfl) (Nat.le_of_ble_eq_true rfl) dX15_right_168
set_option maxHeartbeats 4000000 in
set_option maxRecDepth 100000 in
theorem k_right_101 (l : Launch) (D : va_G) (cy : Nat → ClassId) (sa : Nat → Nat) (sv : Nat → Nat) (dc : Nat) (sz : Nat) (p1 p2 : Int32) : Met l yX15_right (Cond.code yX15_right cX15_right 6 (some .boolean) :: ALL) ({ frames := 5, cells := 0, slots := 0, locals := 91 }) (zPc D vwCl (TY cy) (EM sa sv dc) [.int 101, .int p1, .int p2] [] sz) (va_Qi (fun r _ => r = okI 101 p1 p2) (zB D vwCl (TY cy) (S := Unit) (fun u => []) (va_A [] sz)) (va_A [] sz)) 0 0 (va_A [] sz) := by
  refine z_start (Qc := fun A => va_Qi (fun r _ => r = okI 101 p1 p2) (zB D vwCl (TY cy) (S := Unit) (fun u => []) A) A) PN_RX15 (Nat.le_of_ble_eq_true rfl) ?_
  intro p e s m below meth c A ls hx hb hr hml hts hown hlocks hin hA hP hK hD hS hEn hl
  have hown : s.vm.findClass RX15 = some m.cls := hown
  have hEm := hEn
  have hEn := hEn.1
  have hl : lv_has ls 6 [(0, .int 101), (1, .int p1), (2, .int p2)] := hl
  have hS0 := hS
  refine va_ldcS (q := sa 52) (tx := "ncm+-*lgspjkexrh") hx hb hown (VK52 hEn.2.1) dX15_right_0 ?_
  refine lv_iload_n hx hb dX15_right_2 rfl (lv_at hl 0 rfl) ?_
  refine z_calli (va_runV (As := [.int 101]) (rest := []) ⟨hx, hb, hml, hown, hts⟩ (k_ixs1 l D cy sa sv dc _ 101) (cwV 1 hts GV_RX15_104 rfl rfl rfl ⟨rfl, HD_yJ0_indexOf_0f7a4⟩ ⟨Nat.le_of_ble_eq_true rfl, Nat.le_of_ble_eq_true rfl⟩) ⟨z_blind EM_ok, recvS (hEm.2.2.2.2 1 _ rfl).1 hS, z_pre EM_ok hP hK hD hEm hS (z_free hD hS hA)⟩ rfl rfl hl.1 rfl (lv_room (Nat.le_of_ble_eq_true rfl)) dX15_right_3 ⟨Nat.le_of_ble_eq_true rfl, Nat.le_of_ble_eq_true rfl⟩) hD hS hA (fun r_3 u3 H locs hw_3 hP hD hS => ?_)
  have hP : va_P D vwCl [] H := hP
  have hD : va_D A [] := hD
  obtain rfl := hw_3
  refine lv_if_lt (tgt := 13) hx hb dX15_right_6 (by decide) (fun c_6 => absurd c_6 (by decide +kernel)) (fun _ => ?_)
  refine lv_iconst (v := 1) hx hb dX15_right_9 (by decide) ?_
  refine lv_goto (tgt := 14) hx hb dX15_right_10 (by decide) ?_
  refine lv_istore_n (lv' := [(3, .int 1), (0, .int 101), (1, .int p1), (2, .int p2)]) hx hb dX15_right_14 rfl hl (by decide) rfl (fun ls hl => ?_)
  refine va_ldcS (q := sa 53) (tx := "cm+-*lgspj") hx hb hown (VK53 hEn.2.1) dX15_right_15 ?_
  refine lv_iload_n hx hb dX15_right_17 rfl (lv_at hl 1 rfl) ?_
  refine z_calli (va_runV (As := [.int 101]) (rest := []) ⟨hx, hb, hml, hown, hts⟩ (k_ixs2 l D cy sa sv dc _ 101) (cwV 1 hts GV_RX15_104 rfl rfl rfl ⟨rfl, HD_yJ0_indexOf_0f7a4⟩ ⟨Nat.le_of_ble_eq_true rfl, Nat.le_of_ble_eq_true rfl⟩) ⟨z_blind EM_ok, recvS (hEm.2.2.2.2 2 _ rfl).1 hS, z_pre EM_ok hP hK hD hEm hS (z_free hD hS hA)⟩ rfl rfl hl.1 rfl (lv_room (Nat.le_of_ble_eq_true rfl)) dX15_right_18 ⟨Nat.le_of_ble_eq_true rfl, Nat.le_of_ble_eq_true rfl⟩) hD hS hA (fun r_18 u18 H locs hw_18 hP hD hS => ?_)
  have hP : va_P D vwCl [] H := hP
  have hD : va_D A [] := hD
  obtain rfl := hw_18
  refine lv_if_lt (tgt := 36) hx hb dX15_right_21 (by decide) (fun _ => ?_) (fun c_21 => absurd (by decide +kernel) c_21)
  refine lv_iconst (v := 1) hx hb dX15_right_36 (by decide) ?_
  refine lv_goto (tgt := 41) hx hb dX15_right_37 (by decide) ?_
  refine lv_istore (lv' := [(4, .int 1), (3, .int 1), (0, .int 101), (1, .int p1), (2, .int p2)]) hx hb dX15_right_41 hl (by decide) rfl (fun ls hl => ?_)
  refine va_ldcS (q := sa 54) (tx := "m+-*ls") hx hb hown (VK54 hEn.2.1) dX15_right_43 ?_
  refine lv_iload_n hx hb dX15_right_45 rfl (lv_at hl 2 rfl) ?_
  refine z_calli (va_runV (As := [.int 101]) (rest := []) ⟨hx, hb, hml, hown, hts⟩ (k_ixs3 l D cy sa sv dc _ 101) (cwV 1 hts GV_RX15_104 rfl rfl rfl ⟨rfl, HD_yJ0_indexOf_0f7a4⟩ ⟨Nat.le_of_ble_eq_true rfl, Nat.le_of_ble_eq_true rfl⟩) ⟨z_blind EM_ok, recvS (hEm.2.2.2.2 3 _ rfl).1 hS, z_pre EM_ok hP hK hD hEm hS (z_free hD hS hA)⟩ rfl rfl hl.1 rfl (lv_room (Nat.le_of_ble_eq_true rfl)) dX15_right_46 ⟨Nat.le_of_ble_eq_true rfl, Nat.le_of_ble_eq_true rfl⟩) hD hS hA (fun r_46 u46 H locs hw_46 hP hD hS => ?_)
  have hP : va_P D vwCl [] H := hP
  have hD : va_D A [] := hD
  obtain rfl := hw_46
  refine lv_if_lt (tgt := 64) hx hb dX15_right_49 (by decide) (fun _ => ?_) (fun c_49 => absurd (by decide +kernel) c_49)
  refine lv_iload_n hx hb dX15_right_64 rfl (lv_at hl 2 rfl) ?_
  refine lv_bipush (v := 103) hx hb dX15_right_65 (by decide) ?_
  refine lv_icmp_eq (tgt := 76) hx hb dX15_right_67 (by decide) (fun c_67 => absurd c_67 (by decide)) (fun _ => ?_)
  refine lv_iload_n hx hb dX15_right_70 rfl (lv_at hl 2 rfl) ?_
  refine lv_bipush (v := 112) hx hb dX15_right_71 (by decide) ?_
  refine lv_icmp_ne (tgt := 88) hx hb dX15_right_73 (by decide) (fun _ => ?_) (fun c_73 => absurd c_73 (by decide))
  refine lv_iload_n hx hb dX15_right_88 rfl (lv_at hl 2 rfl) ?_
  refine lv_bipush (v := 106) hx hb dX15_right_89 (by decide) ?_
  refine lv_icmp_ne (tgt := 106) hx hb dX15_right_91 (by decide) (fun _ => ?_) (fun c_91 => absurd c_91 (by decide))
  refine lv_iload_n hx hb dX15_right_106 rfl (lv_at hl 2 rfl) ?_
  refine lv_bipush (v := 107) hx hb dX15_right_107 (by decide) ?_
  refine lv_icmp_ne (tgt := 124) hx hb dX15_right_109 (by decide) (fun _ => ?_) (fun c_109 => absurd c_109 (by decide))
  refine lv_iload_n hx hb dX15_right_124 rfl (lv_at hl 2 rfl) ?_
  refine lv_bipush (v := 101) hx hb dX15_right_125 (by decide) ?_
  refine lv_icmp_ne (tgt := 142) hx hb dX15_right_127 (by decide) (fun c_127 => absurd (by decide) c_127) (fun _ => ?_)
  refine lv_iload_n hx hb dX15_right_130 rfl (lv_at hl 4 rfl) ?_
  refine lv_i2l hx hb dX15_right_131 rfl ?_
  refine lv_lconst (v := 0) hx hb dX15_right_132 (by decide) ?_
  refine lv_ldc2 hx hb hown (hts _ K2212) dX15_right_133 ?_
  refine z_calli (va_runS (As := [.long p2.toInt64, .long 0, .long 4]) (rest := []) ⟨hx, hb, hml, hown, hts⟩ (k_in l D cy sa sv dc _ (p2.toInt64) 0 4) (va_cwS 3 hts GS_RX15_13 rfl rfl rfl HD_yX15_in ⟨Nat.le_of_ble_eq_true rfl, Nat.le_of_ble_eq_true rfl⟩) ⟨z_blind EM_ok, z_pre EM_ok hP hK hD hEm hS (z_free hD hS hA)⟩ rfl rfl hl.1 rfl (lv_room (Nat.le_of_ble_eq_true rfl)) dX15_right_136 ⟨Nat.le_of_ble_eq_true rfl, Nat.le_of_ble_eq_true rfl⟩) hD hS hA (fun r_136 u136 H locs hw_136 hP hD hS => ?_)
  have hP : va_P D vwCl [] H := hP
  have hD : va_D A [] := hD
  obtain rfl := hw_136
  refine lv_if_eq (tgt := 146) hx hb dX15_right_139 (by decide) (fun c_139 => ?_) (fun c_139 => ?_)
  · refine lv_iconst (v := 0) hx hb dX15_right_146 (by decide) ?_
    refine lv_istore (lv' := [(5, .int 0), (4, .int 1), (3, .int 1), (0, .int 101), (1, .int p1), (2, .int p2)]) hx hb dX15_right_147 hl (by decide) rfl (fun ls hl => ?_)
    refine lv_iload_n hx hb dX15_right_149 rfl (lv_at hl 2 rfl) ?_
    refine lv_if_eq (tgt := 167) hx hb dX15_right_150 (by decide) (fun c_150 => absurd c_150 (by decide)) (fun _ => ?_)
    refine lv_iload hx hb dX15_right_153 (lv_at hl 1 rfl) ?_
    refine lv_if_eq (tgt := 167) hx hb dX15_right_155 (by decide) (fun c_155 => absurd c_155 (by decide)) (fun _ => ?_)
    refine lv_iload hx hb dX15_right_158 (lv_at hl 0 rfl) ?_
    refine lv_if_eq (tgt := 167) hx hb dX15_right_160 (by decide) (fun _ => ?_) (fun c_160 => absurd (by decide) c_160)
    refine lv_iconst (v := 0) hx hb dX15_right_167 (by decide) ?_
    exact z_reti () hx hb hr rfl hlocks hK ((by simp [okI, okD, okS, (inL_5 p2).symm.trans c_139])) hP hD hS (Nat.le_of_ble_eq_true rfl) (Nat.le_of_ble_eq_true rfl) dX15_right_168
  · refine lv_iconst (v := 1) hx hb dX15_right_142 (by decide) ?_
    refine lv_goto (tgt := 147) hx hb dX15_right_143 (by decide) ?_
    refine lv_istore (lv' := [(5, .int 1), (4, .int 1), (3, .int 1), (0, .int 101), (1, .int p1), (2, .int p2)]) hx hb dX15_right_147 hl (by decide) rfl (fun ls hl => ?_)
    refine lv_iload_n hx hb dX15_right_149 rfl (lv_at hl 2 rfl) ?_
    refine lv_if_eq (tgt := 167) hx hb dX15_right_150 (by decide) (fun c_150 => absurd c_150 (by decide)) (fun _ => ?_)
    refine lv_iload hx hb dX15_right_153 (lv_at hl 1 rfl) ?_
    refine lv_if_eq (tgt := 167) hx hb dX15_right_155 (by decide) (fun c_155 => absurd c_155 (by decide)) (fun _ => ?_)
    refine lv_iload hx hb dX15_right_158 (lv_at hl 0 rfl) ?_
    refine lv_if_eq (tgt := 167) hx hb dX15_right_160 (by decide) (fun c_160 => absurd c_160 (by decide)) (fun _ => ?_)
    refine lv_iconst (v := 1) hx hb dX15_right_163 (by decide) ?_
    refine lv_goto (tgt := 168) hx hb dX15_right_164 (by decide) ?_
    exact z_reti () hx hb hr rfl hlocks hK ((by simp [okI, okD, okS, bl_ne (fun z => c_139 ((inL_5 p2).trans z))])) hP hD hS (Nat.le_of_ble_eq_true rfl) (Nat.le_of_ble_eq_true rfl) dX15_right_168
set_option maxHeartbeats 4000000 in
set_option maxRecDepth 100000 in
theorem k_right_120 (l : Launch) (D : va_G) (cy : Nat → ClassId) (sa : Nat → Nat) (sv : Nat → Nat) (dc : Nat) (sz : Nat) (p1 p2 : Int32) : Met l yX15_right (Cond.code yX15_right cX15_right 6 (some .boolean) :: ALL) ({ frames := 5, cells := 0, slots := 0, locals := 91 }) (zPc D vwCl (TY cy) (EM sa sv dc) [.int 120, .int p1, .int p2] [] sz) (va_Qi (fun r _ => r = okI 120 p1 p2) (zB D vwCl (TY cy) (S := Unit) (fun u => []) (va_A [] sz)) (va_A [] sz)) 0 0 (va_A [] sz) := by
  refine z_start (Qc := fun A => va_Qi (fun r _ => r = okI 120 p1 p2) (zB D vwCl (TY cy) (S := Unit) (fun u => []) A) A) PN_RX15 (Nat.le_of_ble_eq_true rfl) ?_
  intro p e s m below meth c A ls hx hb hr hml hts hown hlocks hin hA hP hK hD hS hEn hl
  have hown : s.vm.findClass RX15 = some m.cls := hown
  have hEm := hEn
  have hEn := hEn.1
  have hl : lv_has ls 6 [(0, .int 120), (1, .int p1), (2, .int p2)] := hl
  have hS0 := hS
  refine va_ldcS (q := sa 52) (tx := "ncm+-*lgspjkexrh") hx hb hown (VK52 hEn.2.1) dX15_right_0 ?_
  refine lv_iload_n hx hb dX15_right_2 rfl (lv_at hl 0 rfl) ?_
  refine z_calli (va_runV (As := [.int 120]) (rest := []) ⟨hx, hb, hml, hown, hts⟩ (k_ixs1 l D cy sa sv dc _ 120) (cwV 1 hts GV_RX15_104 rfl rfl rfl ⟨rfl, HD_yJ0_indexOf_0f7a4⟩ ⟨Nat.le_of_ble_eq_true rfl, Nat.le_of_ble_eq_true rfl⟩) ⟨z_blind EM_ok, recvS (hEm.2.2.2.2 1 _ rfl).1 hS, z_pre EM_ok hP hK hD hEm hS (z_free hD hS hA)⟩ rfl rfl hl.1 rfl (lv_room (Nat.le_of_ble_eq_true rfl)) dX15_right_3 ⟨Nat.le_of_ble_eq_true rfl, Nat.le_of_ble_eq_true rfl⟩) hD hS hA (fun r_3 u3 H locs hw_3 hP hD hS => ?_)
  have hP : va_P D vwCl [] H := hP
  have hD : va_D A [] := hD
  obtain rfl := hw_3
  refine lv_if_lt (tgt := 13) hx hb dX15_right_6 (by decide) (fun c_6 => absurd c_6 (by decide +kernel)) (fun _ => ?_)
  refine lv_iconst (v := 1) hx hb dX15_right_9 (by decide) ?_
  refine lv_goto (tgt := 14) hx hb dX15_right_10 (by decide) ?_
  refine lv_istore_n (lv' := [(3, .int 1), (0, .int 120), (1, .int p1), (2, .int p2)]) hx hb dX15_right_14 rfl hl (by decide) rfl (fun ls hl => ?_)
  refine va_ldcS (q := sa 53) (tx := "cm+-*lgspj") hx hb hown (VK53 hEn.2.1) dX15_right_15 ?_
  refine lv_iload_n hx hb dX15_right_17 rfl (lv_at hl 1 rfl) ?_
  refine z_calli (va_runV (As := [.int 120]) (rest := []) ⟨hx, hb, hml, hown, hts⟩ (k_ixs2 l D cy sa sv dc _ 120) (cwV 1 hts GV_RX15_104 rfl rfl rfl ⟨rfl, HD_yJ0_indexOf_0f7a4⟩ ⟨Nat.le_of_ble_eq_true rfl, Nat.le_of_ble_eq_true rfl⟩) ⟨z_blind EM_ok, recvS (hEm.2.2.2.2 2 _ rfl).1 hS, z_pre EM_ok hP hK hD hEm hS (z_free hD hS hA)⟩ rfl rfl hl.1 rfl (lv_room (Nat.le_of_ble_eq_true rfl)) dX15_right_18 ⟨Nat.le_of_ble_eq_true rfl, Nat.le_of_ble_eq_true rfl⟩) hD hS hA (fun r_18 u18 H locs hw_18 hP hD hS => ?_)
  have hP : va_P D vwCl [] H := hP
  have hD : va_D A [] := hD
  obtain rfl := hw_18
  refine lv_if_lt (tgt := 36) hx hb dX15_right_21 (by decide) (fun _ => ?_) (fun c_21 => absurd (by decide +kernel) c_21)
  refine lv_iconst (v := 1) hx hb dX15_right_36 (by decide) ?_
  refine lv_goto (tgt := 41) hx hb dX15_right_37 (by decide) ?_
  refine lv_istore (lv' := [(4, .int 1), (3, .int 1), (0, .int 120), (1, .int p1), (2, .int p2)]) hx hb dX15_right_41 hl (by decide) rfl (fun ls hl => ?_)
  refine va_ldcS (q := sa 54) (tx := "m+-*ls") hx hb hown (VK54 hEn.2.1) dX15_right_43 ?_
  refine lv_iload_n hx hb dX15_right_45 rfl (lv_at hl 2 rfl) ?_
  refine z_calli (va_runV (As := [.int 120]) (rest := []) ⟨hx, hb, hml, hown, hts⟩ (k_ixs3 l D cy sa sv dc _ 120) (cwV 1 hts GV_RX15_104 rfl rfl rfl ⟨rfl, HD_yJ0_indexOf_0f7a4⟩ ⟨Nat.le_of_ble_eq_true rfl, Nat.le_of_ble_eq_true rfl⟩) ⟨z_blind EM_ok, recvS (hEm.2.2.2.2 3 _ rfl).1 hS, z_pre EM_ok hP hK hD hEm hS (z_free hD hS hA)⟩ rfl rfl hl.1 rfl (lv_room (Nat.le_of_ble_eq_true rfl)) dX15_right_46 ⟨Nat.le_of_ble_eq_true rfl, Nat.le_of_ble_eq_true rfl⟩) hD hS hA (fun r_46 u46 H locs hw_46 hP hD hS => ?_)
  have hP : va_P D vwCl [] H := hP
  have hD : va_D A [] := hD
  obtain rfl := hw_46
  refine lv_if_lt (tgt := 64) hx hb dX15_right_49 (by decide) (fun _ => ?_) (fun c_49 => absurd (by decide +kernel) c_49)
  refine lv_iload_n hx hb dX15_right_64 rfl (lv_at hl 2 rfl) ?_
  refine lv_bipush (v := 103) hx hb dX15_right_65 (by decide) ?_
  refine lv_icmp_eq (tgt := 76) hx hb dX15_right_67 (by decide) (fun c_67 => absurd c_67 (by decide)) (fun _ => ?_)
  refine lv_iload_n hx hb dX15_right_70 rfl (lv_at hl 2 rfl) ?_
  refine lv_bipush (v := 112) hx hb dX15_right_71 (by decide) ?_
  refine lv_icmp_ne (tgt := 88) hx hb dX15_right_73 (by decide) (fun _ => ?_) (fun c_73 => absurd c_73 (by decide))
  refine lv_iload_n hx hb dX15_right_88 rfl (lv_at hl 2 rfl) ?_
  refine lv_bipush (v := 106) hx hb dX15_right_89 (by decide) ?_
  refine lv_icmp_ne (tgt := 106) hx hb dX15_right_91 (by decide) (fun _ => ?_) (fun c_91 => absurd c_91 (by decide))
  refine lv_iload_n hx hb dX15_right_106 rfl (lv_at hl 2 rfl) ?_
  refine lv_bipush (v := 107) hx hb dX15_right_107 (by decide) ?_
  refine lv_icmp_ne (tgt := 124) hx hb dX15_right_109 (by decide) (fun _ => ?_) (fun c_109 => absurd c_109 (by decide))
  refine lv_iload_n hx hb dX15_right_124 rfl (lv_at hl 2 rfl) ?_
  refine lv_bipush (v := 101) hx hb dX15_right_125 (by decide) ?_
  refine lv_icmp_ne (tgt := 142) hx hb dX15_right_127 (by decide) (fun _ => ?_) (fun c_127 => absurd c_127 (by decide))
  refine lv_iconst (v := 1) hx hb dX15_right_142 (by decide) ?_
  refine lv_goto (tgt := 147) hx hb dX15_right_143 (by decide) ?_
  refine lv_istore (lv' := [(5, .int 1), (4, .int 1), (3, .int 1), (0, .int 120), (1, .int p1), (2, .int p2)]) hx hb dX15_right_147 hl (by decide) rfl (fun ls hl => ?_)
  refine lv_iload_n hx hb dX15_right_149 rfl (lv_at hl 2 rfl) ?_
  refine lv_if_eq (tgt := 167) hx hb dX15_right_150 (by decide) (fun c_150 => absurd c_150 (by decide)) (fun _ => ?_)
  refine lv_iload hx hb dX15_right_153 (lv_at hl 1 rfl) ?_
  refine lv_if_eq (tgt := 167) hx hb dX15_right_155 (by decide) (fun c_155 => absurd c_155 (by decide)) (fun _ => ?_)
  refine lv_iload hx hb dX15_right_158 (lv_at hl 0 rfl) ?_
  refine lv_if_eq (tgt := 167) hx hb dX15_right_160 (by decide) (fun c_160 => absurd c_160 (by decide)) (fun _ => ?_)
  refine lv_iconst (v := 1) hx hb dX15_right_163 (by decide) ?_
  refine lv_goto (tgt := 168) hx hb dX15_right_164 (by decide) ?_
  exact z_reti () hx hb hr rfl hlocks hK ((by simp [okI, okD, okS])) hP hD hS (Nat.le_of_ble_eq_true rfl) (Nat.le_of_ble_eq_true rfl) dX15_right_168
set_option maxHeartbeats 4000000 in
set_option maxRecDepth 100000 in
theorem k_right_114 (l : Launch) (D : va_G) (cy : Nat → ClassId) (sa : Nat → Nat) (sv : Nat → Nat) (dc : Nat) (sz : Nat) (p1 p2 : Int32) : Met l yX15_right (Cond.code yX15_right cX15_right 6 (some .boolean) :: ALL) ({ frames := 5, cells := 0, slots := 0, locals := 91 }) (zPc D vwCl (TY cy) (EM sa sv dc) [.int 114, .int p1, .int p2] [] sz) (va_Qi (fun r _ => r = okI 114 p1 p2) (zB D vwCl (TY cy) (S := Unit) (fun u => []) (va_A [] sz)) (va_A [] sz)) 0 0 (va_A [] sz) := by
  refine z_start (Qc := fun A => va_Qi (fun r _ => r = okI 114 p1 p2) (zB D vwCl (TY cy) (S := Unit) (fun u => []) A) A) PN_RX15 (Nat.le_of_ble_eq_true rfl) ?_
  intro p e s m below meth c A ls hx hb hr hml hts hown hlocks hin hA hP hK hD hS hEn hl
  have hown : s.vm.findClass RX15 = some m.cls := hown
  have hEm := hEn
  have hEn := hEn.1
  have hl : lv_has ls 6 [(0, .int 114), (1, .int p1), (2, .int p2)] := hl
  have hS0 := hS
  refine va_ldcS (q := sa 52) (tx := "ncm+-*lgspjkexrh") hx hb hown (VK52 hEn.2.1) dX15_right_0 ?_
  refine lv_iload_n hx hb dX15_right_2 rfl (lv_at hl 0 rfl) ?_
  refine z_calli (va_runV (As := [.int 114]) (rest := []) ⟨hx, hb, hml, hown, hts⟩ (k_ixs1 l D cy sa sv dc _ 114) (cwV 1 hts GV_RX15_104 rfl rfl rfl ⟨rfl, HD_yJ0_indexOf_0f7a4⟩ ⟨Nat.le_of_ble_eq_true rfl, Nat.le_of_ble_eq_true rfl⟩) ⟨z_blind EM_ok, recvS (hEm.2.2.2.2 1 _ rfl).1 hS, z_pre EM_ok hP hK hD hEm hS (z_free hD hS hA)⟩ rfl rfl hl.1 rfl (lv_room (Nat.le_of_ble_eq_true rfl)) dX15_right_3 ⟨Nat.le_of_ble_eq_true rfl, Nat.le_of_ble_eq_true rfl⟩) hD hS hA (fun r_3 u3 H locs hw_3 hP hD hS => ?_)
  have hP : va_P D vwCl [] H := hP
  have hD : va_D A [] := hD
  obtain rfl := hw_3
  refine lv_if_lt (tgt := 13) hx hb dX15_right_6 (by decide) (fun c_6 => absurd c_6 (by decide +kernel)) (fun _ => ?_)
  refine lv_iconst (v := 1) hx hb dX15_right_9 (by decide) ?_
  refine lv_goto (tgt := 14) hx hb dX15_right_10 (by decide) ?_
  refine lv_istore_n (lv' := [(3, .int 1), (0, .int 114), (1, .int p1), (2, .int p2)]) hx hb dX15_right_14 rfl hl (by decide) rfl (fun ls hl => ?_)
  refine va_ldcS (q := sa 53) (tx := "cm+-*lgspj") hx hb hown (VK53 hEn.2.1) dX15_right_15 ?_
  refine lv_iload_n hx hb dX15_right_17 rfl (lv_at hl 1 rfl) ?_
  refine z_calli (va_runV (As := [.int 114]) (rest := []) ⟨hx, hb, hml, hown, hts⟩ (k_ixs2 l D cy sa sv dc _ 114) (cwV 1 hts GV_RX15_104 rfl rfl rfl ⟨rfl, HD_yJ0_indexOf_0f7a4⟩ ⟨Nat.le_of_ble_eq_true rfl, Nat.le_of_ble_eq_true rfl⟩) ⟨z_blind EM_ok, recvS (hEm.2.2.2.2 2 _ rfl).1 hS, z_pre EM_ok hP hK hD hEm hS (z_free hD hS hA)⟩ rfl rfl hl.1 rfl (lv_room (Nat.le_of_ble_eq_true rfl)) dX15_right_18 ⟨Nat.le_of_ble_eq_true rfl, Nat.le_of_ble_eq_true rfl⟩) hD hS hA (fun r_18 u18 H locs hw_18 hP hD hS => ?_)
  have hP : va_P D vwCl [] H := hP
  have hD : va_D A [] := hD
  obtain rfl := hw_18
  refine lv_if_lt (tgt := 36) hx hb dX15_right_21 (by decide) (fun _ => ?_) (fun c_21 => absurd (by decide +kernel) c_21)
  refine lv_iconst (v := 1) hx hb dX15_right_36 (by decide) ?_
  refine lv_goto (tgt := 41) hx hb dX15_right_37 (by decide) ?_
  refine lv_istore (lv' := [(4, .int 1), (3, .int 1), (0, .int 114), (1, .int p1), (2, .int p2)]) hx hb dX15_right_41 hl (by decide) rfl (fun ls hl => ?_)
  refine va_ldcS (q := sa 54) (tx := "m+-*ls") hx hb hown (VK54 hEn.2.1) dX15_right_43 ?_
  refine lv_iload_n hx hb dX15_right_45 rfl (lv_at hl 2 rfl) ?_
  refine z_calli (va_runV (As := [.int 114]) (rest := []) ⟨hx, hb, hml, hown, hts⟩ (k_ixs3 l D cy sa sv dc _ 114) (cwV 1 hts GV_RX15_104 rfl rfl rfl ⟨rfl, HD_yJ0_indexOf_0f7a4⟩ ⟨Nat.le_of_ble_eq_true rfl, Nat.le_of_ble_eq_true rfl⟩) ⟨z_blind EM_ok, recvS (hEm.2.2.2.2 3 _ rfl).1 hS, z_pre EM_ok hP hK hD hEm hS (z_free hD hS hA)⟩ rfl rfl hl.1 rfl (lv_room (Nat.le_of_ble_eq_true rfl)) dX15_right_46 ⟨Nat.le_of_ble_eq_true rfl, Nat.le_of_ble_eq_true rfl⟩) hD hS hA (fun r_46 u46 H locs hw_46 hP hD hS => ?_)
  have hP : va_P D vwCl [] H := hP
  have hD : va_D A [] := hD
  obtain rfl := hw_46
  refine lv_if_lt (tgt := 64) hx hb dX15_right_49 (by decide) (fun _ => ?_) (fun c_49 => absurd (by decide +kernel) c_49)
  refine lv_iload_n hx hb dX15_right_64 rfl (lv_at hl 2 rfl) ?_
  refine lv_bipush (v := 103) hx hb dX15_right_65 (by decide) ?_
  refine lv_icmp_eq (tgt := 76) hx hb dX15_right_67 (by decide) (fun c_67 => absurd c_67 (by decide)) (fun _ => ?_)
  refine lv_iload_n hx hb dX15_right_70 rfl (lv_at hl 2 rfl) ?_
  refine lv_bipush (v := 112) hx hb dX15_right_71 (by decide) ?_
  refine lv_icmp_ne (tgt := 88) hx hb dX15_right_73 (by decide) (fun _ => ?_) (fun c_73 => absurd c_73 (by decide))
  refine lv_iload_n hx hb dX15_right_88 rfl (lv_at hl 2 rfl) ?_
  refine lv_bipush (v := 106) hx hb dX15_right_89 (by decide) ?_
  refine lv_icmp_ne (tgt := 106) hx hb dX15_right_91 (by decide) (fun _ => ?_) (fun c_91 => absurd c_91 (by decide))
  refine lv_iload_n hx hb dX15_right_106 rfl (lv_at hl 2 rfl) ?_
  refine lv_bipush (v := 107) hx hb dX15_right_107 (by decide) ?_
  refine lv_icmp_ne (tgt := 124) hx hb dX15_right_109 (by decide) (fun _ => ?_) (fun c_109 => absurd c_109 (by decide))
  refine lv_iload_n hx hb dX15_right_124 rfl (lv_at hl 2 rfl) ?_
  refine lv_bipush (v := 101) hx hb dX15_right_125 (by decide) ?_
  refine lv_icmp_ne (tgt := 142) hx hb dX15_right_127 (by decide) (fun _ => ?_) (fun c_127 => absurd c_127 (by decide))
  refine lv_iconst (v := 1) hx hb dX15_right_142 (by decide) ?_
  refine lv_goto (tgt := 147) hx hb dX15_right_143 (by decide) ?_
  refine lv_istore (lv' := [(5, .int 1), (4, .int 1), (3, .int 1), (0, .int 114), (1, .int p1), (2, .int p2)]) hx hb dX15_right_147 hl (by decide) rfl (fun ls hl => ?_)
  refine lv_iload_n hx hb dX15_right_149 rfl (lv_at hl 2 rfl) ?_
  refine lv_if_eq (tgt := 167) hx hb dX15_right_150 (by decide) (fun c_150 => absurd c_150 (by decide)) (fun _ => ?_)
  refine lv_iload hx hb dX15_right_153 (lv_at hl 1 rfl) ?_
  refine lv_if_eq (tgt := 167) hx hb dX15_right_155 (by decide) (fun c_155 => absurd c_155 (by decide)) (fun _ => ?_)
  refine lv_iload hx hb dX15_right_158 (lv_at hl 0 rfl) ?_
  refine lv_if_eq (tgt := 167) hx hb dX15_right_160 (by decide) (fun c_160 => absurd c_160 (by decide)) (fun _ => ?_)
  refine lv_iconst (v := 1) hx hb dX15_right_163 (by decide) ?_
  refine lv_goto (tgt := 168) hx hb dX15_right_164 (by decide) ?_
  exact z_reti () hx hb hr rfl hlocks hK ((by simp [okI, okD, okS])) hP hD hS (Nat.le_of_ble_eq_true rfl) (Nat.le_of_ble_eq_true rfl) dX15_right_168
set_option maxHeartbeats 4000000 in
set_option maxRecDepth 100000 in
theorem k_right_104 (l : Launch) (D : va_G) (cy : Nat → ClassId) (sa : Nat → Nat) (sv : Nat → Nat) (dc : Nat) (sz : Nat) (p1 p2 : Int32) : Met l yX15_right (Cond.code yX15_right cX15_right 6 (some .boolean) :: ALL) ({ frames := 5, cells := 0, slots := 0, locals := 91 }) (zPc D vwCl (TY cy) (EM sa sv dc) [.int 104, .int p1, .int p2] [] sz) (va_Qi (fun r _ => r = okI 104 p1 p2) (zB D vwCl (TY cy) (S := Unit) (fun u => []) (va_A [] sz)) (va_A [] sz)) 0 0 (va_A [] sz) := by
  refine z_start (Qc := fun A => va_Qi (fun r _ => r = okI 104 p1 p2) (zB D vwCl (TY cy) (S := Unit) (fun u => []) A) A) PN_RX15 (Nat.le_of_ble_eq_true rfl) ?_
  intro p e s m below meth c A ls hx hb hr hml hts hown hlocks hin hA hP hK hD hS hEn hl
  have hown : s.vm.findClass RX15 = some m.cls := hown
  have hEm := hEn
  have hEn := hEn.1
  have hl : lv_has ls 6 [(0, .int 104), (1, .int p1), (2, .int p2)] := hl
  have hS0 := hS
  refine va_ldcS (q := sa 52) (tx := "ncm+-*lgspjkexrh") hx hb hown (VK52 hEn.2.1) dX15_right_0 ?_
  refine lv_iload_n hx hb dX15_right_2 rfl (lv_at hl 0 rfl) ?_
  refine z_calli (va_runV (As := [.int 104]) (rest := []) ⟨hx, hb, hml, hown, hts⟩ (k_ixs1 l D cy sa sv dc _ 104) (cwV 1 hts GV_RX15_104 rfl rfl rfl ⟨rfl, HD_yJ0_indexOf_0f7a4⟩ ⟨Nat.le_of_ble_eq_true rfl, Nat.le_of_ble_eq_true rfl⟩) ⟨z_blind EM_ok, recvS (hEm.2.2.2.2 1 _ rfl).1 hS, z_pre EM_ok hP hK hD hEm hS (z_free hD hS hA)⟩ rfl rfl hl.1 rfl (lv_room (Nat.le_of_ble_eq_true rfl)) dX15_right_3 ⟨Nat.le_of_ble_eq_true rfl, Nat.le_of_ble_eq_true rfl⟩) hD hS hA (fun r_3 u3 H locs hw_3 hP hD hS => ?_)
  have hP : va_P D vwCl [] H := hP
  have hD : va_D A [] := hD
  obtain rfl := hw_3
  refine lv_if_lt (tgt := 13) hx hb dX15_right_6 (by decide) (fun c_6 => absurd c_6 (by decide +kernel)) (fun _ => ?_)
  refine lv_iconst (v := 1) hx hb dX15_right_9 (by decide) ?_
  refine lv_goto (tgt := 14) hx hb dX15_right_10 (by decide) ?_
  refine lv_istore_n (lv' := [(3, .int 1), (0, .int 104), (1, .int p1), (2, .int p2)]) hx hb dX15_right_14 rfl hl (by decide) rfl (fun ls hl => ?_)
  refine va_ldcS (q := sa 53) (tx := "cm+-*lgspj") hx hb hown (VK53 hEn.2.1) dX15_right_15 ?_
  refine lv_iload_n hx hb dX15_right_17 rfl (lv_at hl 1 rfl) ?_
  refine z_calli (va_runV (As := [.int 104]) (rest := []) ⟨hx, hb, hml, hown, hts⟩ (k_ixs2 l D cy sa sv dc _ 104) (cwV 1 hts GV_RX15_104 rfl rfl rfl ⟨rfl, HD_yJ0_indexOf_0f7a4⟩ ⟨Nat.le_of_ble_eq_true rfl, Nat.le_of_ble_eq_true rfl⟩) ⟨z_blind EM_ok, recvS (hEm.2.2.2.2 2 _ rfl).1 hS, z_pre EM_ok hP hK hD hEm hS (z_free hD hS hA)⟩ rfl rfl hl.1 rfl (lv_room (Nat.le_of_ble_eq_true rfl)) dX15_right_18 ⟨Nat.le_of_ble_eq_true rfl, Nat.le_of_ble_eq_true rfl⟩) hD hS hA (fun r_18 u18 H locs hw_18 hP hD hS => ?_)
  have hP : va_P D vwCl [] H := hP
  have hD : va_D A [] := hD
  obtain rfl := hw_18
  refine lv_if_lt (tgt := 36) hx hb dX15_right_21 (by decide) (fun _ => ?_) (fun c_21 => absurd (by decide +kernel) c_21)
  refine lv_iconst (v := 1) hx hb dX15_right_36 (by decide) ?_
  refine lv_goto (tgt := 41) hx hb dX15_right_37 (by decide) ?_
  refine lv_istore (lv' := [(4, .int 1), (3, .int 1), (0, .int 104), (1, .int p1), (2, .int p2)]) hx hb dX15_right_41 hl (by decide) rfl (fun ls hl => ?_)
  refine va_ldcS (q := sa 54) (tx := "m+-*ls") hx hb hown (VK54 hEn.2.1) dX15_right_43 ?_
  refine lv_iload_n hx hb dX15_right_45 rfl (lv_at hl 2 rfl) ?_
  refine z_calli (va_runV (As := [.int 104]) (rest := []) ⟨hx, hb, hml, hown, hts⟩ (k_ixs3 l D cy sa sv dc _ 104) (cwV 1 hts GV_RX15_104 rfl rfl rfl ⟨rfl, HD_yJ0_indexOf_0f7a4⟩ ⟨Nat.le_of_ble_eq_true rfl, Nat.le_of_ble_eq_true rfl⟩) ⟨z_blind EM_ok, recvS (hEm.2.2.2.2 3 _ rfl).1 hS, z_pre EM_ok hP hK hD hEm hS (z_free hD hS hA)⟩ rfl rfl hl.1 rfl (lv_room (Nat.le_of_ble_eq_true rfl)) dX15_right_46 ⟨Nat.le_of_ble_eq_true rfl, Nat.le_of_ble_eq_true rfl⟩) hD hS hA (fun r_46 u46 H locs hw_46 hP hD hS => ?_)
  have hP : va_P D vwCl [] H := hP
  have hD : va_D A [] := hD
  obtain rfl := hw_46
  refine lv_if_lt (tgt := 64) hx hb dX15_right_49 (by decide) (fun _ => ?_) (fun c_49 => absurd (by decide +kernel) c_49)
  refine lv_iload_n hx hb dX15_right_64 rfl (lv_at hl 2 rfl) ?_
  refine lv_bipush (v := 103) hx hb dX15_right_65 (by decide) ?_
  refine lv_icmp_eq (tgt := 76) hx hb dX15_right_67 (by decide) (fun c_67 => absurd c_67 (by decide)) (fun _ => ?_)
  refine lv_iload_n hx hb dX15_right_70 rfl (lv_at hl 2 rfl) ?_
  refine lv_bipush (v := 112) hx hb dX15_right_71 (by decide) ?_
  refine lv_icmp_ne (tgt := 88) hx hb dX15_right_73 (by decide) (fun _ => ?_) (fun c_73 => absurd c_73 (by decide))
  refine lv_iload_n hx hb dX15_right_88 rfl (lv_at hl 2 rfl) ?_
  refine lv_bipush (v := 106) hx hb dX15_right_89 (by decide) ?_
  refine lv_icmp_ne (tgt := 106) hx hb dX15_right_91 (by decide) (fun _ => ?_) (fun c_91 => absurd c_91 (by decide))
  refine lv_iload_n hx hb dX15_right_106 rfl (lv_at hl 2 rfl) ?_
  refine lv_bipush (v := 107) hx hb dX15_right_107 (by decide) ?_
  refine lv_icmp_ne (tgt := 124) hx hb dX15_right_109 (by decide) (fun _ => ?_) (fun c_109 => absurd c_109 (by decide))
  refine lv_iload_n hx hb dX15_right_124 rfl (lv_at hl 2 rfl) ?_
  refine lv_bipush (v := 101) hx hb dX15_right_125 (by decide) ?_
  refine lv_icmp_ne (tgt := 142) hx hb dX15_right_127 (by decide) (fun _ => ?_) (fun c_127 => absurd c_127 (by decide))
  refine lv_iconst (v := 1) hx hb dX15_right_142 (by decide) ?_
  refine lv_goto (tgt := 147) hx hb dX15_right_143 (by decide) ?_
  refine lv_istore (lv' := [(5, .int 1), (4, .int 1), (3, .int 1), (0, .int 104), (1, .int p1), (2, .int p2)]) hx hb dX15_right_147 hl (by decide) rfl (fun ls hl => ?_)
  refine lv_iload_n hx hb dX15_right_149 rfl (lv_at hl 2 rfl) ?_
  refine lv_if_eq (tgt := 167) hx hb dX15_right_150 (by decide) (fun c_150 => absurd c_150 (by decide)) (fun _ => ?_)
  refine lv_iload hx hb dX15_right_153 (lv_at hl 1 rfl) ?_
  refine lv_if_eq (tgt := 167) hx hb dX15_right_155 (by decide) (fun c_155 => absurd c_155 (by decide)) (fun _ => ?_)
  refine lv_iload hx hb dX15_right_158 (lv_at hl 0 rfl) ?_
  refine lv_if_eq (tgt := 167) hx hb dX15_right_160 (by decide) (fun c_160 => absurd c_160 (by decide)) (fun _ => ?_)
  refine lv_iconst (v := 1) hx hb dX15_right_163 (by decide) ?_
  refine lv_goto (tgt := 168) hx hb dX15_right_164 (by decide) ?_
  exact z_reti () hx hb hr rfl hlocks hK ((by simp [okI, okD, okS])) hP hD hS (Nat.le_of_ble_eq_true rfl) (Nat.le_of_ble_eq_true rfl) dX15_right_168
set_option maxHeartbeats 4000000 in
set_option maxRecDepth 100000 in
theorem k_right_o (l : Launch) (D : va_G) (cy : Nat → ClassId) (sa : Nat → Nat) (sv : Nat → Nat) (dc : Nat) (sz : Nat) (p0 p1 p2 : Int32) (h : ∀ x ∈ ([110, 99, 109, 43, 45, 42, 108, 103, 115, 112, 106, 107, 101, 120, 114, 104] : List Int32), ¬ p0 = x) : Met l yX15_right (Cond.code yX15_right cX15_right 6 (some .boolean) :: ALL) ({ frames := 5, cells := 0, slots := 0, locals := 91 }) (zPc D vwCl (TY cy) (EM sa sv dc) [.int p0, .int p1, .int p2] [] sz) (va_Qi (fun r _ => r = okI p0 p1 p2) (zB D vwCl (TY cy) (S := Unit) (fun u => []) (va_A [] sz)) (va_A [] sz)) 0 0 (va_A [] sz) := by
  refine z_start (Qc := fun A => va_Qi (fun r _ => r = okI p0 p1 p2) (zB D vwCl (TY cy) (S := Unit) (fun u => []) A) A) PN_RX15 (Nat.le_of_ble_eq_true rfl) ?_
  intro p e s m below meth c A ls hx hb hr hml hts hown hlocks hin hA hP hK hD hS hEn hl
  have hown : s.vm.findClass RX15 = some m.cls := hown
  have hEm := hEn
  have hEn := hEn.1
  have hl : lv_has ls 6 [(0, .int p0), (1, .int p1), (2, .int p2)] := hl
  have hS0 := hS
  refine va_ldcS (q := sa 52) (tx := "ncm+-*lgspjkexrh") hx hb hown (VK52 hEn.2.1) dX15_right_0 ?_
  refine lv_iload_n hx hb dX15_right_2 rfl (lv_at hl 0 rfl) ?_
  refine z_calli (va_runV (As := [.int p0]) (rest := []) ⟨hx, hb, hml, hown, hts⟩ (k_ixs1 l D cy sa sv dc _ p0) (cwV 1 hts GV_RX15_104 rfl rfl rfl ⟨rfl, HD_yJ0_indexOf_0f7a4⟩ ⟨Nat.le_of_ble_eq_true rfl, Nat.le_of_ble_eq_true rfl⟩) ⟨z_blind EM_ok, recvS (hEm.2.2.2.2 1 _ rfl).1 hS, z_pre EM_ok hP hK hD hEm hS (z_free hD hS hA)⟩ rfl rfl hl.1 rfl (lv_room (Nat.le_of_ble_eq_true rfl)) dX15_right_3 ⟨Nat.le_of_ble_eq_true rfl, Nat.le_of_ble_eq_true rfl⟩) hD hS hA (fun r_3 u3 H locs hw_3 hP hD hS => ?_)
  have hP : va_P D vwCl [] H := hP
  have hD : va_D A [] := hD
  obtain rfl := hw_3
  refine lv_if_lt (tgt := 13) hx hb dX15_right_6 (by decide) (fun _ => ?_) (fun c_6 => absurd (by rw [ixf_no (by decide +kernel) (fun x hx => h x (hx))]; decide) c_6)
  refine lv_iconst (v := 0) hx hb dX15_right_13 (by decide) ?_
  refine lv_istore_n (lv' := [(3, .int 0), (0, .int p0), (1, .int p1), (2, .int p2)]) hx hb dX15_right_14 rfl hl (by decide) rfl (fun ls hl => ?_)
  refine va_ldcS (q := sa 53) (tx := "cm+-*lgspj") hx hb hown (VK53 hEn.2.1) dX15_right_15 ?_
  refine lv_iload_n hx hb dX15_right_17 rfl (lv_at hl 1 rfl) ?_
  refine z_calli (va_runV (As := [.int p0]) (rest := []) ⟨hx, hb, hml, hown, hts⟩ (k_ixs2 l D cy sa sv dc _ p0) (cwV 1 hts GV_RX15_104 rfl rfl rfl ⟨rfl, HD_yJ0_indexOf_0f7a4⟩ ⟨Nat.le_of_ble_eq_true rfl, Nat.le_of_ble_eq_true rfl⟩) ⟨z_blind EM_ok, recvS (hEm.2.2.2.2 2 _ rfl).1 hS, z_pre EM_ok hP hK hD hEm hS (z_free hD hS hA)⟩ rfl rfl hl.1 rfl (lv_room (Nat.le_of_ble_eq_true rfl)) dX15_right_18 ⟨Nat.le_of_ble_eq_true rfl, Nat.le_of_ble_eq_true rfl⟩) hD hS hA (fun r_18 u18 H locs hw_18 hP hD hS => ?_)
  have hP : va_P D vwCl [] H := hP
  have hD : va_D A [] := hD
  obtain rfl := hw_18
  refine lv_if_lt (tgt := 36) hx hb dX15_right_21 (by decide) (fun _ => ?_) (fun c_21 => absurd (by rw [ixf_no (by decide +kernel) (fun x hx => h x ((by decide +kernel : ∀ x ∈ ([99, 109, 43, 45, 42, 108, 103, 115, 112, 106] : List Int32), x ∈ ([110, 99, 109, 43, 45, 42, 108, 103, 115, 112, 106, 107, 101, 120, 114, 104] : List Int32)) x hx))]; decide) c_21)
  refine lv_iconst (v := 1) hx hb dX15_right_36 (by decide) ?_
  refine lv_goto (tgt := 41) hx hb dX15_right_37 (by decide) ?_
  refine lv_istore (lv' := [(4, .int 1), (3, .int 0), (0, .int p0), (1, .int p1), (2, .int p2)]) hx hb dX15_right_41 hl (by decide) rfl (fun ls hl => ?_)
  refine va_ldcS (q := sa 54) (tx := "m+-*ls") hx hb hown (VK54 hEn.2.1) dX15_right_43 ?_
  refine lv_iload_n hx hb dX15_right_45 rfl (lv_at hl 2 rfl) ?_
  refine z_calli (va_runV (As := [.int p0]) (rest := []) ⟨hx, hb, hml, hown, hts⟩ (k_ixs3 l D cy sa sv dc _ p0) (cwV 1 hts GV_RX15_104 rfl rfl rfl ⟨rfl, HD_yJ0_indexOf_0f7a4⟩ ⟨Nat.le_of_ble_eq_true rfl, Nat.le_of_ble_eq_true rfl⟩) ⟨z_blind EM_ok, recvS (hEm.2.2.2.2 3 _ rfl).1 hS, z_pre EM_ok hP hK hD hEm hS (z_free hD hS hA)⟩ rfl rfl hl.1 rfl (lv_room (Nat.le_of_ble_eq_true rfl)) dX15_right_46 ⟨Nat.le_of_ble_eq_true rfl, Nat.le_of_ble_eq_true rfl⟩) hD hS hA (fun r_46 u46 H locs hw_46 hP hD hS => ?_)
  have hP : va_P D vwCl [] H := hP
  have hD : va_D A [] := hD
  obtain rfl := hw_46
  refine lv_if_lt (tgt := 64) hx hb dX15_right_49 (by decide) (fun _ => ?_) (fun c_49 => absurd (by rw [ixf_no (by decide +kernel) (fun x hx => h x ((by decide +kernel : ∀ x ∈ ([109, 43, 45, 42, 108, 115] : List Int32), x ∈ ([110, 99, 109, 43, 45, 42, 108, 103, 115, 112, 106, 107, 101, 120, 114, 104] : List Int32)) x hx))]; decide) c_49)
  refine lv_iload_n hx hb dX15_right_64 rfl (lv_at hl 2 rfl) ?_
  refine lv_bipush (v := 103) hx hb dX15_right_65 (by decide) ?_
  refine lv_icmp_eq (tgt := 76) hx hb dX15_right_67 (by decide) (fun c_67 => absurd c_67 (h 103 (by decide +kernel))) (fun _ => ?_)
  refine lv_iload_n hx hb dX15_right_70 rfl (lv_at hl 2 rfl) ?_
  refine lv_bipush (v := 112) hx hb dX15_right_71 (by decide) ?_
  refine lv_icmp_ne (tgt := 88) hx hb dX15_right_73 (by decide) (fun _ => ?_) (fun c_73 => absurd c_73 (h 112 (by decide +kernel)))
  refine lv_iload_n hx hb dX15_right_88 rfl (lv_at hl 2 rfl) ?_
  refine lv_bipush (v := 106) hx hb dX15_right_89 (by decide) ?_
  refine lv_icmp_ne (tgt := 106) hx hb dX15_right_91 (by decide) (fun _ => ?_) (fun c_91 => absurd c_91 (h 106 (by decide +kernel)))
  refine lv_iload_n hx hb dX15_right_106 rfl (lv_at hl 2 rfl) ?_
  refine lv_bipush (v := 107) hx hb dX15_right_107 (by decide) ?_
  refine lv_icmp_ne (tgt := 124) hx hb dX15_right_109 (by decide) (fun _ => ?_) (fun c_109 => absurd c_109 (h 107 (by decide +kernel)))
  refine lv_iload_n hx hb dX15_right_124 rfl (lv_at hl 2 rfl) ?_
  refine lv_bipush (v := 101) hx hb dX15_right_125 (by decide) ?_
  refine lv_icmp_ne (tgt := 142) hx hb dX15_right_127 (by decide) (fun _ => ?_) (fun c_127 => absurd c_127 (h 101 (by decide +kernel)))
  refine lv_iconst (v := 1) hx hb dX15_right_142 (by decide) ?_
  refine lv_goto (tgt := 147) hx hb dX15_right_143 (by decide) ?_
  refine lv_istore (lv' := [(5, .int 1), (4, .int 1), (3, .int 0), (0, .int p0), (1, .int p1), (2, .int p2)]) hx hb dX15_right_147 hl (by decide) rfl (fun ls hl => ?_)
  refine lv_iload_n hx hb dX15_right_149 rfl (lv_at hl 2 rfl) ?_
  refine lv_if_eq (tgt := 167) hx hb dX15_right_150 (by decide) (fun _ => ?_) (fun c_150 => absurd (by decide) c_150)
  refine lv_iconst (v := 0) hx hb dX15_right_167 (by decide) ?_
  exact z_reti () hx hb hr rfl hlocks hK ((by simp [okI, okD, okS, h 110 (by decide +kernel), h 99 (by decide +kernel), h 109 (by decide +kernel), h 43 (by decide +kernel), h 45 (by decide +kernel), h 42 (by decide +kernel), h 108 (by decide +kernel), h 103 (by decide +kernel), h 115 (by decide +kernel), h 112 (by decide +kernel), h 106 (by decide +kernel), h 107 (by decide +kernel), h 101 (by decide +kernel), h 120 (by decide +kernel), h 114 (by decide +kernel), h 104 (by decide +kernel)])) hP hD hS (Nat.le_of_ble_eq_true rfl) (Nat.le_of_ble_eq_true rfl) dX15_right_168
theorem k_right (l : Launch) (D : va_G) (cy : Nat → ClassId) (sa : Nat → Nat) (sv : Nat → Nat) (dc : Nat) (sz : Nat) (p0 p1 p2 : Int32)  : Met l yX15_right (Cond.code yX15_right cX15_right 6 (some .boolean) :: ALL) ({ frames := 5, cells := 0, slots := 0, locals := 91 }) (zPc D vwCl (TY cy) (EM sa sv dc) [.int p0, .int p1, .int p2] [] sz) (va_Qi (fun r _ => r = okI p0 p1 p2) (zB D vwCl (TY cy) (S := Unit) (fun u => []) (va_A [] sz)) (va_A [] sz)) 0 0 (va_A [] sz) := by
  by_cases h110 : p0 = 110
  · subst h110
    exact k_right_110 l D cy sa sv dc sz p1 p2
  by_cases h99 : p0 = 99
  · subst h99
    exact k_right_99 l D cy sa sv dc sz p1 p2
  by_cases h109 : p0 = 109
  · subst h109
    exact k_right_109 l D cy sa sv dc sz p1 p2
  by_cases h43 : p0 = 43
  · subst h43
    exact k_right_43 l D cy sa sv dc sz p1 p2
  by_cases h45 : p0 = 45
  · subst h45
    exact k_right_45 l D cy sa sv dc sz p1 p2
  by_cases h42 : p0 = 42
  · subst h42
    exact k_right_42 l D cy sa sv dc sz p1 p2
  by_cases h108 : p0 = 108
  · subst h108
    exact k_right_108 l D cy sa sv dc sz p1 p2
  by_cases h103 : p0 = 103
  · subst h103
    exact k_right_103 l D cy sa sv dc sz p1 p2
  by_cases h115 : p0 = 115
  · subst h115
    exact k_right_115 l D cy sa sv dc sz p1 p2
  by_cases h112 : p0 = 112
  · subst h112
    exact k_right_112 l D cy sa sv dc sz p1 p2
  by_cases h106 : p0 = 106
  · subst h106
    exact k_right_106 l D cy sa sv dc sz p1 p2
  by_cases h107 : p0 = 107
  · subst h107
    exact k_right_107 l D cy sa sv dc sz p1 p2
  by_cases h101 : p0 = 101
  · subst h101
    exact k_right_101 l D cy sa sv dc sz p1 p2
  by_cases h120 : p0 = 120
  · subst h120
    exact k_right_120 l D cy sa sv dc sz p1 p2
  by_cases h114 : p0 = 114
  · subst h114
    exact k_right_114 l D cy sa sv dc sz p1 p2
  by_cases h104 : p0 = 104
  · subst h104
    exact k_right_104 l D cy sa sv dc sz p1 p2
  refine k_right_o l D cy sa sv dc sz p0 p1 p2 (fun x hx => ?_)
  simp only [List.mem_cons, List.not_mem_nil, or_false] at hx
  rcases hx with rfl | rfl | rfl | rfl | rfl | rfl | rfl | rfl | hx
  · exact h110
  · exact h99
  · exact h109
  · exact h43
  · exact h45
  · exact h42
  · exact h108
  · exact h103
  rcases hx with rfl | rfl | rfl | rfl | rfl | rfl | rfl | rfl
  · exact h115
  · exact h112
  · exact h106
  · exact h107
  · exact h101
  · exact h120
  · exact h114
  · exact h104
