set_option maxHeartbeats 4000000 in
set_option maxRecDepth 100000 in
theorem k_coders0 (l : Launch) (D : va_G) (cy : Nat → ClassId) (sa : Nat → Nat) (sv : Nat → Nat) (dc : Nat) (sz : Nat) : Met l yJ0_coder_7d493 (Cond.code yJ0_coder_7d493 cJ0_coder_7d493 1 (some .byte) :: ALL) ({ frames := 0, cells := 0, slots := 0, locals := 0 }) (zPc D vwCl (TY cy) (EM sa sv dc) [.ref (sa 51)] [] sz) (va_Qi (fun r _ => r = 0) (zB D vwCl (TY cy) (S := Unit) (fun u => []) (va_A [] sz)) (va_A [] sz)) 0 0 (va_A [] sz) := by
  refine z_start (Qc := fun A => va_Qi (fun r _ => r = 0) (zB D vwCl (TY cy) (S := Unit) (fun u => []) A) A) PN_RJ0 (Nat.le_of_ble_eq_true rfl) ?_
  intro p e s m below meth c A ls hx hb hr hml hts hown hlocks hin hA hP hK hD hS hEn hl
  have hown : s.vm.findClass RJ0 = some m.cls := hown
  have hEm := hEn
  have hEn := hEn.1
  have hl : lv_has ls 1 [(0, .ref (sa 51))] := hl
  have hS0 := hS
  refine va_gets (C := "java/lang/String") (n := "COMPACT_STRINGS") (d := "Z") (v := .int 1) hx hb hEn.2.2.2.2.2 hS hown (hts _ K1440) (fun _ h9 => h9) dJ0_coder_7d493_0 ?_
  refine lv_if_eq (tgt := 13) hx hb dJ0_coder_7d493_3 (by decide) (fun c_3 => absurd c_3 (by decide)) (fun _ => ?_)
  refine lv_aload_n hx hb dJ0_coder_7d493_6 rfl (lv_at hl 0 rfl) ?_
  refine va_getX (N := 1) (i := 0) (v := fun _ => .int 0) (ad := fun _ => (sa 51)) (o := "java/lang/String") (n := "coder") (d := "B") hx hb (fun _ _ => (hEm.2.2.2.2 0 _ rfl).2.1) (by decide) hS hown (hts _ K1557) (fun _ h9 => h9) dJ0_coder_7d493_7 ?_
  refine W.eq (g2 := F0 m 10 ls [.int 0]) rfl ?_
  refine lv_goto (tgt := 14) hx hb dJ0_coder_7d493_10 (by decide) ?_
  exact z_reti () hx hb hr rfl hlocks hK (rfl) hP hD hS (Nat.le_of_ble_eq_true rfl) (Nat.le_of_ble_eq_true rfl) dJ0_coder_7d493_14
set_option maxHeartbeats 4000000 in
set_option maxRecDepth 100000 in
theorem k_isL1s0 (l : Launch) (D : va_G) (cy : Nat → ClassId) (sa : Nat → Nat) (sv : Nat → Nat) (dc : Nat) (sz : Nat) : Met l yJ0_isLatin1_aae02 (Cond.code yJ0_isLatin1_aae02 cJ0_isLatin1_aae02 1 (some .boolean) :: ALL) ({ frames := 0, cells := 0, slots := 0, locals := 0 }) (zPc D vwCl (TY cy) (EM sa sv dc) [.ref (sa 51)] [] sz) (va_Qi (fun r _ => r = 1) (zB D vwCl (TY cy) (S := Unit) (fun u => []) (va_A [] sz)) (va_A [] sz)) 0 0 (va_A [] sz) := by
  refine z_start (Qc := fun A => va_Qi (fun r _ => r = 1) (zB D vwCl (TY cy) (S := Unit) (fun u => []) A) A) PN_RJ0 (Nat.le_of_ble_eq_true rfl) ?_
  intro p e s m below meth c A ls hx hb hr hml hts hown hlocks hin hA hP hK hD hS hEn hl
  have hown : s.vm.findClass RJ0 = some m.cls := hown
  have hEm := hEn
  have hEn := hEn.1
  have hl : lv_has ls 1 [(0, .ref (sa 51))] := hl
  have hS0 := hS
  refine va_gets (C := "java/lang/String") (n := "COMPACT_STRINGS") (d := "Z") (v := .int 1) hx hb hEn.2.2.2.2.2 hS hown (hts _ K1440) (fun _ h9 => h9) dJ0_isLatin1_aae02_0 ?_
  refine lv_if_eq (tgt := 17) hx hb dJ0_isLatin1_aae02_3 (by decide) (fun c_3 => absurd c_3 (by decide)) (fun _ => ?_)
  refine lv_aload_n hx hb dJ0_isLatin1_aae02_6 rfl (lv_at hl 0 rfl) ?_
  refine va_getX (N := 1) (i := 0) (v := fun _ => .int 0) (ad := fun _ => (sa 51)) (o := "java/lang/String") (n := "coder") (d := "B") hx hb (fun _ _ => (hEm.2.2.2.2 0 _ rfl).2.1) (by decide) hS hown (hts _ K1557) (fun _ h9 => h9) dJ0_isLatin1_aae02_7 ?_
  refine W.eq (g2 := F0 m 10 ls [.int 0]) rfl ?_
  refine lv_if_ne (tgt := 17) hx hb dJ0_isLatin1_aae02_10 (by decide) (fun c_10 => absurd (by decide) c_10) (fun _ => ?_)
  refine lv_iconst (v := 1) hx hb dJ0_isLatin1_aae02_13 (by decide) ?_
  refine lv_goto (tgt := 18) hx hb dJ0_isLatin1_aae02_14 (by decide) ?_
  exact z_reti () hx hb hr rfl hlocks hK (rfl) hP hD hS (Nat.le_of_ble_eq_true rfl) (Nat.le_of_ble_eq_true rfl) dJ0_isLatin1_aae02_18
set_option maxHeartbeats 4000000 in
set_option maxRecDepth 100000 in
theorem k_lens0 (l : Launch) (D : va_G) (cy : Nat → ClassId) (sa : Nat → Nat) (sv : Nat → Nat) (dc : Nat) (sz : Nat) : Met l yJ0_length_8abf5 (Cond.code yJ0_length_8abf5 cJ0_length_8abf5 1 (some .int) :: ALL) ({ frames := 1, cells := 0, slots := 0, locals := 20 }) (zPc D vwCl (TY cy) (EM sa sv dc) [.ref (sa 51)] [] sz) (va_Qi (fun r _ => r = 0) (zB D vwCl (TY cy) (S := Unit) (fun u => []) (va_A [] sz)) (va_A [] sz)) 0 0 (va_A [] sz) := by
  refine z_start (Qc := fun A => va_Qi (fun r _ => r = 0) (zB D vwCl (TY cy) (S := Unit) (fun u => []) A) A) PN_RJ0 (Nat.le_of_ble_eq_true rfl) ?_
  intro p e s m below meth c A ls hx hb hr hml hts hown hlocks hin hA hP hK hD hS hEn hl
  have hown : s.vm.findClass RJ0 = some m.cls := hown
  have hEm := hEn
  have hEn := hEn.1
  have hl : lv_has ls 1 [(0, .ref (sa 51))] := hl
  have hS0 := hS
  refine lv_aload_n hx hb dJ0_length_8abf5_0 rfl (lv_at hl 0 rfl) ?_
  refine va_getX (N := 1) (i := 0) (v := fun _ => .ref (sv 0)) (ad := fun _ => (sa 51)) (o := "java/lang/String") (n := "value") (d := "[B") hx hb (fun _ _ => (hEm.2.2.2.2 0 _ rfl).2.2.1) (by decide) hS hown (hts _ K1556) (fun _ h9 => h9) dJ0_length_8abf5_1 ?_
  refine W.eq (g2 := F0 m 4 ls [.ref (sv 0)]) rfl ?_
  refine va_tlen (v := 0) hx hb (hEm.2.2.2.2 0 _ rfl).2.2.2 hS rfl dJ0_length_8abf5_4 ?_
  refine lv_aload_n hx hb dJ0_length_8abf5_5 rfl (lv_at hl 0 rfl) ?_
  refine z_calli (va_runV (As := []) (rest := [.int 0]) ⟨hx, hb, hml, hown, hts⟩ (k_coders0 l D cy sa sv dc _) (cwV 0 hts GV_RJ0_335 rfl rfl rfl ⟨rfl, HD_yJ0_coder_7d493⟩ ⟨Nat.le_of_ble_eq_true rfl, Nat.le_of_ble_eq_true rfl⟩) ⟨z_blind EM_ok, recvS (hEm.2.2.2.2 0 _ rfl).1 hS, z_pre EM_ok hP hK hD hEm hS (z_free hD hS hA)⟩ rfl rfl hl.1 rfl (lv_room (Nat.le_of_ble_eq_true rfl)) dJ0_length_8abf5_6 ⟨Nat.le_of_ble_eq_true rfl, Nat.le_of_ble_eq_true rfl⟩) hD hS hA (fun r_6 u6 H locs hw_6 hP hD hS => ?_)
  have hP : va_P D vwCl [] H := hP
  have hD : va_D A [] := hD
  obtain rfl := hw_6
  refine lv_ishr hx hb dJ0_length_8abf5_9 ?_
  refine lv_topi (fun v_1 hv_1 => ?_)
  obtain rfl : v_1 = 0 := hv_1.trans (by decide)
  exact z_reti () hx hb hr rfl hlocks hK (rfl) hP hD hS (Nat.le_of_ble_eq_true rfl) (Nat.le_of_ble_eq_true rfl) dJ0_length_8abf5_10
set_option maxHeartbeats 4000000 in
set_option maxRecDepth 100000 in
theorem k_coders1 (l : Launch) (D : va_G) (cy : Nat → ClassId) (sa : Nat → Nat) (sv : Nat → Nat) (dc : Nat) (sz : Nat) : Met l yJ0_coder_7d493 (Cond.code yJ0_coder_7d493 cJ0_coder_7d493 1 (some .byte) :: ALL) ({ frames := 0, cells := 0, slots := 0, locals := 0 }) (zPc D vwCl (TY cy) (EM sa sv dc) [.ref (sa 52)] [] sz) (va_Qi (fun r _ => r = 0) (zB D vwCl (TY cy) (S := Unit) (fun u => []) (va_A [] sz)) (va_A [] sz)) 0 0 (va_A [] sz) := by
  refine z_start (Qc := fun A => va_Qi (fun r _ => r = 0) (zB D vwCl (TY cy) (S := Unit) (fun u => []) A) A) PN_RJ0 (Nat.le_of_ble_eq_true rfl) ?_
  intro p e s m below meth c A ls hx hb hr hml hts hown hlocks hin hA hP hK hD hS hEn hl
  have hown : s.vm.findClass RJ0 = some m.cls := hown
  have hEm := hEn
  have hEn := hEn.1
  have hl : lv_has ls 1 [(0, .ref (sa 52))] := hl
  have hS0 := hS
  refine va_gets (C := "java/lang/String") (n := "COMPACT_STRINGS") (d := "Z") (v := .int 1) hx hb hEn.2.2.2.2.2 hS hown (hts _ K1440) (fun _ h9 => h9) dJ0_coder_7d493_0 ?_
  refine lv_if_eq (tgt := 13) hx hb dJ0_coder_7d493_3 (by decide) (fun c_3 => absurd c_3 (by decide)) (fun _ => ?_)
  refine lv_aload_n hx hb dJ0_coder_7d493_6 rfl (lv_at hl 0 rfl) ?_
  refine va_getX (N := 1) (i := 0) (v := fun _ => .int 0) (ad := fun _ => (sa 52)) (o := "java/lang/String") (n := "coder") (d := "B") hx hb (fun _ _ => (hEm.2.2.2.2 1 _ rfl).2.1) (by decide) hS hown (hts _ K1557) (fun _ h9 => h9) dJ0_coder_7d493_7 ?_
  refine W.eq (g2 := F0 m 10 ls [.int 0]) rfl ?_
  refine lv_goto (tgt := 14) hx hb dJ0_coder_7d493_10 (by decide) ?_
  exact z_reti () hx hb hr rfl hlocks hK (rfl) hP hD hS (Nat.le_of_ble_eq_true rfl) (Nat.le_of_ble_eq_true rfl) dJ0_coder_7d493_14
set_option maxHeartbeats 4000000 in
set_option maxRecDepth 100000 in
theorem k_isL1s1 (l : Launch) (D : va_G) (cy : Nat → ClassId) (sa : Nat → Nat) (sv : Nat → Nat) (dc : Nat) (sz : Nat) : Met l yJ0_isLatin1_aae02 (Cond.code yJ0_isLatin1_aae02 cJ0_isLatin1_aae02 1 (some .boolean) :: ALL) ({ frames := 0, cells := 0, slots := 0, locals := 0 }) (zPc D vwCl (TY cy) (EM sa sv dc) [.ref (sa 52)] [] sz) (va_Qi (fun r _ => r = 1) (zB D vwCl (TY cy) (S := Unit) (fun u => []) (va_A [] sz)) (va_A [] sz)) 0 0 (va_A [] sz) := by
  refine z_start (Qc := fun A => va_Qi (fun r _ => r = 1) (zB D vwCl (TY cy) (S := Unit) (fun u => []) A) A) PN_RJ0 (Nat.le_of_ble_eq_true rfl) ?_
  intro p e s m below meth c A ls hx hb hr hml hts hown hlocks hin hA hP hK hD hS hEn hl
  have hown : s.vm.findClass RJ0 = some m.cls := hown
  have hEm := hEn
  have hEn := hEn.1
  have hl : lv_has ls 1 [(0, .ref (sa 52))] := hl
  have hS0 := hS
  refine va_gets (C := "java/lang/String") (n := "COMPACT_STRINGS") (d := "Z") (v := .int 1) hx hb hEn.2.2.2.2.2 hS hown (hts _ K1440) (fun _ h9 => h9) dJ0_isLatin1_aae02_0 ?_
  refine lv_if_eq (tgt := 17) hx hb dJ0_isLatin1_aae02_3 (by decide) (fun c_3 => absurd c_3 (by decide)) (fun _ => ?_)
  refine lv_aload_n hx hb dJ0_isLatin1_aae02_6 rfl (lv_at hl 0 rfl) ?_
  refine va_getX (N := 1) (i := 0) (v := fun _ => .int 0) (ad := fun _ => (sa 52)) (o := "java/lang/String") (n := "coder") (d := "B") hx hb (fun _ _ => (hEm.2.2.2.2 1 _ rfl).2.1) (by decide) hS hown (hts _ K1557) (fun _ h9 => h9) dJ0_isLatin1_aae02_7 ?_
  refine W.eq (g2 := F0 m 10 ls [.int 0]) rfl ?_
  refine lv_if_ne (tgt := 17) hx hb dJ0_isLatin1_aae02_10 (by decide) (fun c_10 => absurd (by decide) c_10) (fun _ => ?_)
  refine lv_iconst (v := 1) hx hb dJ0_isLatin1_aae02_13 (by decide) ?_
  refine lv_goto (tgt := 18) hx hb dJ0_isLatin1_aae02_14 (by decide) ?_
  exact z_reti () hx hb hr rfl hlocks hK (rfl) hP hD hS (Nat.le_of_ble_eq_true rfl) (Nat.le_of_ble_eq_true rfl) dJ0_isLatin1_aae02_18
set_option maxHeartbeats 4000000 in
set_option maxRecDepth 100000 in
theorem k_lens1 (l : Launch) (D : va_G) (cy : Nat → ClassId) (sa : Nat → Nat) (sv : Nat → Nat) (dc : Nat) (sz : Nat) : Met l yJ0_length_8abf5 (Cond.code yJ0_length_8abf5 cJ0_length_8abf5 1 (some .int) :: ALL) ({ frames := 1, cells := 0, slots := 0, locals := 20 }) (zPc D vwCl (TY cy) (EM sa sv dc) [.ref (sa 52)] [] sz) (va_Qi (fun r _ => r = 16) (zB D vwCl (TY cy) (S := Unit) (fun u => []) (va_A [] sz)) (va_A [] sz)) 0 0 (va_A [] sz) := by
  refine z_start (Qc := fun A => va_Qi (fun r _ => r = 16) (zB D vwCl (TY cy) (S := Unit) (fun u => []) A) A) PN_RJ0 (Nat.le_of_ble_eq_true rfl) ?_
  intro p e s m below meth c A ls hx hb hr hml hts hown hlocks hin hA hP hK hD hS hEn hl
  have hown : s.vm.findClass RJ0 = some m.cls := hown
  have hEm := hEn
  have hEn := hEn.1
  have hl : lv_has ls 1 [(0, .ref (sa 52))] := hl
  have hS0 := hS
  refine lv_aload_n hx hb dJ0_length_8abf5_0 rfl (lv_at hl 0 rfl) ?_
  refine va_getX (N := 1) (i := 0) (v := fun _ => .ref (sv 1)) (ad := fun _ => (sa 52)) (o := "java/lang/String") (n := "value") (d := "[B") hx hb (fun _ _ => (hEm.2.2.2.2 1 _ rfl).2.2.1) (by decide) hS hown (hts _ K1556) (fun _ h9 => h9) dJ0_length_8abf5_1 ?_
  refine W.eq (g2 := F0 m 4 ls [.ref (sv 1)]) rfl ?_
  refine va_tlen (v := 16) hx hb (hEm.2.2.2.2 1 _ rfl).2.2.2 hS rfl dJ0_length_8abf5_4 ?_
  refine lv_aload_n hx hb dJ0_length_8abf5_5 rfl (lv_at hl 0 rfl) ?_
  refine z_calli (va_runV (As := []) (rest := [.int 16]) ⟨hx, hb, hml, hown, hts⟩ (k_coders1 l D cy sa sv dc _) (cwV 0 hts GV_RJ0_335 rfl rfl rfl ⟨rfl, HD_yJ0_coder_7d493⟩ ⟨Nat.le_of_ble_eq_true rfl, Nat.le_of_ble_eq_true rfl⟩) ⟨z_blind EM_ok, recvS (hEm.2.2.2.2 1 _ rfl).1 hS, z_pre EM_ok hP hK hD hEm hS (z_free hD hS hA)⟩ rfl rfl hl.1 rfl (lv_room (Nat.le_of_ble_eq_true rfl)) dJ0_length_8abf5_6 ⟨Nat.le_of_ble_eq_true rfl, Nat.le_of_ble_eq_true rfl⟩) hD hS hA (fun r_6 u6 H locs hw_6 hP hD hS => ?_)
  have hP : va_P D vwCl [] H := hP
  have hD : va_D A [] := hD
  obtain rfl := hw_6
  refine lv_ishr hx hb dJ0_length_8abf5_9 ?_
  refine lv_topi (fun v_1 hv_1 => ?_)
  obtain rfl : v_1 = 16 := hv_1.trans (by decide)
  exact z_reti () hx hb hr rfl hlocks hK (rfl) hP hD hS (Nat.le_of_ble_eq_true rfl) (Nat.le_of_ble_eq_true rfl) dJ0_length_8abf5_10
set_option maxHeartbeats 4000000 in
set_option maxRecDepth 100000 in
theorem k_coders2 (l : Launch) (D : va_G) (cy : Nat → ClassId) (sa : Nat → Nat) (sv : Nat → Nat) (dc : Nat) (sz : Nat) : Met l yJ0_coder_7d493 (Cond.code yJ0_coder_7d493 cJ0_coder_7d493 1 (some .byte) :: ALL) ({ frames := 0, cells := 0, slots := 0, locals := 0 }) (zPc D vwCl (TY cy) (EM sa sv dc) [.ref (sa 53)] [] sz) (va_Qi (fun r _ => r = 0) (zB D vwCl (TY cy) (S := Unit) (fun u => []) (va_A [] sz)) (va_A [] sz)) 0 0 (va_A [] sz) := by
  refine z_start (Qc := fun A => va_Qi (fun r _ => r = 0) (zB D vwCl (TY cy) (S := Unit) (fun u => []) A) A) PN_RJ0 (Nat.le_of_ble_eq_true rfl) ?_
  intro p e s m below meth c A ls hx hb hr hml hts hown hlocks hin hA hP hK hD hS hEn hl
  have hown : s.vm.findClass RJ0 = some m.cls := hown
  have hEm := hEn
  have hEn := hEn.1
  have hl : lv_has ls 1 [(0, .ref (sa 53))] := hl
  have hS0 := hS
  refine va_gets (C := "java/lang/String") (n := "COMPACT_STRINGS") (d := "Z") (v := .int 1) hx hb hEn.2.2.2.2.2 hS hown (hts _ K1440) (fun _ h9 => h9) dJ0_coder_7d493_0 ?_
  refine lv_if_eq (tgt := 13) hx hb dJ0_coder_7d493_3 (by decide) (fun c_3 => absurd c_3 (by decide)) (fun _ => ?_)
  refine lv_aload_n hx hb dJ0_coder_7d493_6 rfl (lv_at hl 0 rfl) ?_
  refine va_getX (N := 1) (i := 0) (v := fun _ => .int 0) (ad := fun _ => (sa 53)) (o := "java/lang/String") (n := "coder") (d := "B") hx hb (fun _ _ => (hEm.2.2.2.2 2 _ rfl).2.1) (by decide) hS hown (hts _ K1557) (fun _ h9 => h9) dJ0_coder_7d493_7 ?_
  refine W.eq (g2 := F0 m 10 ls [.int 0]) rfl ?_
  refine lv_goto (tgt := 14) hx hb dJ0_coder_7d493_10 (by decide) ?_
  exact z_reti () hx hb hr rfl hlocks hK (rfl) hP hD hS (Nat.le_of_ble_eq_true rfl) (Nat.le_of_ble_eq_true rfl) dJ0_coder_7d493_14
set_option maxHeartbeats 4000000 in
set_option maxRecDepth 100000 in
theorem k_isL1s2 (l : Launch) (D : va_G) (cy : Nat → ClassId) (sa : Nat → Nat) (sv : Nat → Nat) (dc : Nat) (sz : Nat) : Met l yJ0_isLatin1_aae02 (Cond.code yJ0_isLatin1_aae02 cJ0_isLatin1_aae02 1 (some .boolean) :: ALL) ({ frames := 0, cells := 0, slots := 0, locals := 0 }) (zPc D vwCl (TY cy) (EM sa sv dc) [.ref (sa 53)] [] sz) (va_Qi (fun r _ => r = 1) (zB D vwCl (TY cy) (S := Unit) (fun u => []) (va_A [] sz)) (va_A [] sz)) 0 0 (va_A [] sz) := by
  refine z_start (Qc := fun A => va_Qi (fun r _ => r = 1) (zB D vwCl (TY cy) (S := Unit) (fun u => []) A) A) PN_RJ0 (Nat.le_of_ble_eq_true rfl) ?_
  intro p e s m below meth c A ls hx hb hr hml hts hown hlocks hin hA hP hK hD hS hEn hl
  have hown : s.vm.findClass RJ0 = some m.cls := hown
  have hEm := hEn
  have hEn := hEn.1
  have hl : lv_has ls 1 [(0, .ref (sa 53))] := hl
  have hS0 := hS
  refine va_gets (C := "java/lang/String") (n := "COMPACT_STRINGS") (d := "Z") (v := .int 1) hx hb hEn.2.2.2.2.2 hS hown (hts _ K1440) (fun _ h9 => h9) dJ0_isLatin1_aae02_0 ?_
  refine lv_if_eq (tgt := 17) hx hb dJ0_isLatin1_aae02_3 (by decide) (fun c_3 => absurd c_3 (by decide)) (fun _ => ?_)
  refine lv_aload_n hx hb dJ0_isLatin1_aae02_6 rfl (lv_at hl 0 rfl) ?_
  refine va_getX (N := 1) (i := 0) (v := fun _ => .int 0) (ad := fun _ => (sa 53)) (o := "java/lang/String") (n := "coder") (d := "B") hx hb (fun _ _ => (hEm.2.2.2.2 2 _ rfl).2.1) (by decide) hS hown (hts _ K1557) (fun _ h9 => h9) dJ0_isLatin1_aae02_7 ?_
  refine W.eq (g2 := F0 m 10 ls [.int 0]) rfl ?_
  refine lv_if_ne (tgt := 17) hx hb dJ0_isLatin1_aae02_10 (by decide) (fun c_10 => absurd (by decide) c_10) (fun _ => ?_)
  refine lv_iconst (v := 1) hx hb dJ0_isLatin1_aae02_13 (by decide) ?_
  refine lv_goto (tgt := 18) hx hb dJ0_isLatin1_aae02_14 (by decide) ?_
  exact z_reti () hx hb hr rfl hlocks hK (rfl) hP hD hS (Nat.le_of_ble_eq_true rfl) (Nat.le_of_ble_eq_true rfl) dJ0_isLatin1_aae02_18
set_option maxHeartbeats 4000000 in
set_option maxRecDepth 100000 in
theorem k_lens2 (l : Launch) (D : va_G) (cy : Nat → ClassId) (sa : Nat → Nat) (sv : Nat → Nat) (dc : Nat) (sz : Nat) : Met l yJ0_length_8abf5 (Cond.code yJ0_length_8abf5 cJ0_length_8abf5 1 (some .int) :: ALL) ({ frames := 1, cells := 0, slots := 0, locals := 20 }) (zPc D vwCl (TY cy) (EM sa sv dc) [.ref (sa 53)] [] sz) (va_Qi (fun r _ => r = 10) (zB D vwCl (TY cy) (S := Unit) (fun u => []) (va_A [] sz)) (va_A [] sz)) 0 0 (va_A [] sz) := by
  refine z_start (Qc := fun A => va_Qi (fun r _ => r = 10) (zB D vwCl (TY cy) (S := Unit) (fun u => []) A) A) PN_RJ0 (Nat.le_of_ble_eq_true rfl) ?_
  intro p e s m below meth c A ls hx hb hr hml hts hown hlocks hin hA hP hK hD hS hEn hl
  have hown : s.vm.findClass RJ0 = some m.cls := hown
  have hEm := hEn
  have hEn := hEn.1
  have hl : lv_has ls 1 [(0, .ref (sa 53))] := hl
  have hS0 := hS
  refine lv_aload_n hx hb dJ0_length_8abf5_0 rfl (lv_at hl 0 rfl) ?_
  refine va_getX (N := 1) (i := 0) (v := fun _ => .ref (sv 2)) (ad := fun _ => (sa 53)) (o := "java/lang/String") (n := "value") (d := "[B") hx hb (fun _ _ => (hEm.2.2.2.2 2 _ rfl).2.2.1) (by decide) hS hown (hts _ K1556) (fun _ h9 => h9) dJ0_length_8abf5_1 ?_
  refine W.eq (g2 := F0 m 4 ls [.ref (sv 2)]) rfl ?_
  refine va_tlen (v := 10) hx hb (hEm.2.2.2.2 2 _ rfl).2.2.2 hS rfl dJ0_length_8abf5_4 ?_
  refine lv_aload_n hx hb dJ0_length_8abf5_5 rfl (lv_at hl 0 rfl) ?_
  refine z_calli (va_runV (As := []) (rest := [.int 10]) ⟨hx, hb, hml, hown, hts⟩ (k_coders2 l D cy sa sv dc _) (cwV 0 hts GV_RJ0_335 rfl rfl rfl ⟨rfl, HD_yJ0_coder_7d493⟩ ⟨Nat.le_of_ble_eq_true rfl, Nat.le_of_ble_eq_true rfl⟩) ⟨z_blind EM_ok, recvS (hEm.2.2.2.2 2 _ rfl).1 hS, z_pre EM_ok hP hK hD hEm hS (z_free hD hS hA)⟩ rfl rfl hl.1 rfl (lv_room (Nat.le_of_ble_eq_true rfl)) dJ0_length_8abf5_6 ⟨Nat.le_of_ble_eq_true rfl, Nat.le_of_ble_eq_true rfl⟩) hD hS hA (fun r_6 u6 H locs hw_6 hP hD hS => ?_)
  have hP : va_P D vwCl [] H := hP
  have hD : va_D A [] := hD
  obtain rfl := hw_6
  refine lv_ishr hx hb dJ0_length_8abf5_9 ?_
  refine lv_topi (fun v_1 hv_1 => ?_)
  obtain rfl : v_1 = 10 := hv_1.trans (by decide)
  exact z_reti () hx hb hr rfl hlocks hK (rfl) hP hD hS (Nat.le_of_ble_eq_true rfl) (Nat.le_of_ble_eq_true rfl) dJ0_length_8abf5_10
set_option maxHeartbeats 4000000 in
set_option maxRecDepth 100000 in
theorem k_coders3 (l : Launch) (D : va_G) (cy : Nat → ClassId) (sa : Nat → Nat) (sv : Nat → Nat) (dc : Nat) (sz : Nat) : Met l yJ0_coder_7d493 (Cond.code yJ0_coder_7d493 cJ0_coder_7d493 1 (some .byte) :: ALL) ({ frames := 0, cells := 0, slots := 0, locals := 0 }) (zPc D vwCl (TY cy) (EM sa sv dc) [.ref (sa 54)] [] sz) (va_Qi (fun r _ => r = 0) (zB D vwCl (TY cy) (S := Unit) (fun u => []) (va_A [] sz)) (va_A [] sz)) 0 0 (va_A [] sz) := by
  refine z_start (Qc := fun A => va_Qi (fun r _ => r = 0) (zB D vwCl (TY cy) (S := Unit) (fun u => []) A) A) PN_RJ0 (Nat.le_of_ble_eq_true rfl) ?_
  intro p e s m below meth c A ls hx hb hr hml hts hown hlocks hin hA hP hK hD hS hEn hl
  have hown : s.vm.findClass RJ0 = some m.cls := hown
  have hEm := hEn
  have hEn := hEn.1
  have hl : lv_has ls 1 [(0, .ref (sa 54))] := hl
  have hS0 := hS
  refine va_gets (C := "java/lang/String") (n := "COMPACT_STRINGS") (d := "Z") (v := .int 1) hx hb hEn.2.2.2.2.2 hS hown (hts _ K1440) (fun _ h9 => h9) dJ0_coder_7d493_0 ?_
  refine lv_if_eq (tgt := 13) hx hb dJ0_coder_7d493_3 (by decide) (fun c_3 => absurd c_3 (by decide)) (fun _ => ?_)
  refine lv_aload_n hx hb dJ0_coder_7d493_6 rfl (lv_at hl 0 rfl) ?_
  refine va_getX (N := 1) (i := 0) (v := fun _ => .int 0) (ad := fun _ => (sa 54)) (o := "java/lang/String") (n := "coder") (d := "B") hx hb (fun _ _ => (hEm.2.2.2.2 3 _ rfl).2.1) (by decide) hS hown (hts _ K1557) (fun _ h9 => h9) dJ0_coder_7d493_7 ?_
  refine W.eq (g2 := F0 m 10 ls [.int 0]) rfl ?_
  refine lv_goto (tgt := 14) hx hb dJ0_coder_7d493_10 (by decide) ?_
  exact z_reti () hx hb hr rfl hlocks hK (rfl) hP hD hS (Nat.le_of_ble_eq_true rfl) (Nat.le_of_ble_eq_true rfl) dJ0_coder_7d493_14
set_option maxHeartbeats 4000000 in
set_option maxRecDepth 100000 in
theorem k_isL1s3 (l : Launch) (D : va_G) (cy : Nat → ClassId) (sa : Nat → Nat) (sv : Nat → Nat) (dc : Nat) (sz : Nat) : Met l yJ0_isLatin1_aae02 (Cond.code yJ0_isLatin1_aae02 cJ0_isLatin1_aae02 1 (some .boolean) :: ALL) ({ frames := 0, cells := 0, slots := 0, locals := 0 }) (zPc D vwCl (TY cy) (EM sa sv dc) [.ref (sa 54)] [] sz) (va_Qi (fun r _ => r = 1) (zB D vwCl (TY cy) (S := Unit) (fun u => []) (va_A [] sz)) (va_A [] sz)) 0 0 (va_A [] sz) := by
  refine z_start (Qc := fun A => va_Qi (fun r _ => r = 1) (zB D vwCl (TY cy) (S := Unit) (fun u => []) A) A) PN_RJ0 (Nat.le_of_ble_eq_true rfl) ?_
  intro p e s m below meth c A ls hx hb hr hml hts hown hlocks hin hA hP hK hD hS hEn hl
  have hown : s.vm.findClass RJ0 = some m.cls := hown
  have hEm := hEn
  have hEn := hEn.1
  have hl : lv_has ls 1 [(0, .ref (sa 54))] := hl
  have hS0 := hS
  refine va_gets (C := "java/lang/String") (n := "COMPACT_STRINGS") (d := "Z") (v := .int 1) hx hb hEn.2.2.2.2.2 hS hown (hts _ K1440) (fun _ h9 => h9) dJ0_isLatin1_aae02_0 ?_
  refine lv_if_eq (tgt := 17) hx hb dJ0_isLatin1_aae02_3 (by decide) (fun c_3 => absurd c_3 (by decide)) (fun _ => ?_)
  refine lv_aload_n hx hb dJ0_isLatin1_aae02_6 rfl (lv_at hl 0 rfl) ?_
  refine va_getX (N := 1) (i := 0) (v := fun _ => .int 0) (ad := fun _ => (sa 54)) (o := "java/lang/String") (n := "coder") (d := "B") hx hb (fun _ _ => (hEm.2.2.2.2 3 _ rfl).2.1) (by decide) hS hown (hts _ K1557) (fun _ h9 => h9) dJ0_isLatin1_aae02_7 ?_
  refine W.eq (g2 := F0 m 10 ls [.int 0]) rfl ?_
  refine lv_if_ne (tgt := 17) hx hb dJ0_isLatin1_aae02_10 (by decide) (fun c_10 => absurd (by decide) c_10) (fun _ => ?_)
  refine lv_iconst (v := 1) hx hb dJ0_isLatin1_aae02_13 (by decide) ?_
  refine lv_goto (tgt := 18) hx hb dJ0_isLatin1_aae02_14 (by decide) ?_
  exact z_reti () hx hb hr rfl hlocks hK (rfl) hP hD hS (Nat.le_of_ble_eq_true rfl) (Nat.le_of_ble_eq_true rfl) dJ0_isLatin1_aae02_18
set_option maxHeartbeats 4000000 in
set_option maxRecDepth 100000 in
theorem k_lens3 (l : Launch) (D : va_G) (cy : Nat → ClassId) (sa : Nat → Nat) (sv : Nat → Nat) (dc : Nat) (sz : Nat) : Met l yJ0_length_8abf5 (Cond.code yJ0_length_8abf5 cJ0_length_8abf5 1 (some .int) :: ALL) ({ frames := 1, cells := 0, slots := 0, locals := 20 }) (zPc D vwCl (TY cy) (EM sa sv dc) [.ref (sa 54)] [] sz) (va_Qi (fun r _ => r = 6) (zB D vwCl (TY cy) (S := Unit) (fun u => []) (va_A [] sz)) (va_A [] sz)) 0 0 (va_A [] sz) := by
  refine z_start (Qc := fun A => va_Qi (fun r _ => r = 6) (zB D vwCl (TY cy) (S := Unit) (fun u => []) A) A) PN_RJ0 (Nat.le_of_ble_eq_true rfl) ?_
  intro p e s m below meth c A ls hx hb hr hml hts hown hlocks hin hA hP hK hD hS hEn hl
  have hown : s.vm.findClass RJ0 = some m.cls := hown
  have hEm := hEn
  have hEn := hEn.1
  have hl : lv_has ls 1 [(0, .ref (sa 54))] := hl
  have hS0 := hS
  refine lv_aload_n hx hb dJ0_length_8abf5_0 rfl (lv_at hl 0 rfl) ?_
  refine va_getX (N := 1) (i := 0) (v := fun _ => .ref (sv 3)) (ad := fun _ => (sa 54)) (o := "java/lang/String") (n := "value") (d := "[B") hx hb (fun _ _ => (hEm.2.2.2.2 3 _ rfl).2.2.1) (by decide) hS hown (hts _ K1556) (fun _ h9 => h9) dJ0_length_8abf5_1 ?_
  refine W.eq (g2 := F0 m 4 ls [.ref (sv 3)]) rfl ?_
  refine va_tlen (v := 6) hx hb (hEm.2.2.2.2 3 _ rfl).2.2.2 hS rfl dJ0_length_8abf5_4 ?_
  refine lv_aload_n hx hb dJ0_length_8abf5_5 rfl (lv_at hl 0 rfl) ?_
  refine z_calli (va_runV (As := []) (rest := [.int 6]) ⟨hx, hb, hml, hown, hts⟩ (k_coders3 l D cy sa sv dc _) (cwV 0 hts GV_RJ0_335 rfl rfl rfl ⟨rfl, HD_yJ0_coder_7d493⟩ ⟨Nat.le_of_ble_eq_true rfl, Nat.le_of_ble_eq_true rfl⟩) ⟨z_blind EM_ok, recvS (hEm.2.2.2.2 3 _ rfl).1 hS, z_pre EM_ok hP hK hD hEm hS (z_free hD hS hA)⟩ rfl rfl hl.1 rfl (lv_room (Nat.le_of_ble_eq_true rfl)) dJ0_length_8abf5_6 ⟨Nat.le_of_ble_eq_true rfl, Nat.le_of_ble_eq_true rfl⟩) hD hS hA (fun r_6 u6 H locs hw_6 hP hD hS => ?_)
  have hP : va_P D vwCl [] H := hP
  have hD : va_D A [] := hD
  obtain rfl := hw_6
  refine lv_ishr hx hb dJ0_length_8abf5_9 ?_
  refine lv_topi (fun v_1 hv_1 => ?_)
  obtain rfl : v_1 = 6 := hv_1.trans (by decide)
  exact z_reti () hx hb hr rfl hlocks hK (rfl) hP hD hS (Nat.le_of_ble_eq_true rfl) (Nat.le_of_ble_eq_true rfl) dJ0_length_8abf5_10
set_option maxHeartbeats 4000000 in
set_option maxRecDepth 100000 in
theorem k_coders4 (l : Launch) (D : va_G) (cy : Nat → ClassId) (sa : Nat → Nat) (sv : Nat → Nat) (dc : Nat) (sz : Nat) : Met l yJ0_coder_7d493 (Cond.code yJ0_coder_7d493 cJ0_coder_7d493 1 (some .byte) :: ALL) ({ frames := 0, cells := 0, slots := 0, locals := 0 }) (zPc D vwCl (TY cy) (EM sa sv dc) [.ref (sa 56)] [] sz) (va_Qi (fun r _ => r = 0) (zB D vwCl (TY cy) (S := Unit) (fun u => []) (va_A [] sz)) (va_A [] sz)) 0 0 (va_A [] sz) := by
  refine z_start (Qc := fun A => va_Qi (fun r _ => r = 0) (zB D vwCl (TY cy) (S := Unit) (fun u => []) A) A) PN_RJ0 (Nat.le_of_ble_eq_true rfl) ?_
  intro p e s m below meth c A ls hx hb hr hml hts hown hlocks hin hA hP hK hD hS hEn hl
  have hown : s.vm.findClass RJ0 = some m.cls := hown
  have hEm := hEn
  have hEn := hEn.1
  have hl : lv_has ls 1 [(0, .ref (sa 56))] := hl
  have hS0 := hS
  refine va_gets (C := "java/lang/String") (n := "COMPACT_STRINGS") (d := "Z") (v := .int 1) hx hb hEn.2.2.2.2.2 hS hown (hts _ K1440) (fun _ h9 => h9) dJ0_coder_7d493_0 ?_
  refine lv_if_eq (tgt := 13) hx hb dJ0_coder_7d493_3 (by decide) (fun c_3 => absurd c_3 (by decide)) (fun _ => ?_)
  refine lv_aload_n hx hb dJ0_coder_7d493_6 rfl (lv_at hl 0 rfl) ?_
  refine va_getX (N := 1) (i := 0) (v := fun _ => .int 0) (ad := fun _ => (sa 56)) (o := "java/lang/String") (n := "coder") (d := "B") hx hb (fun _ _ => (hEm.2.2.2.2 4 _ rfl).2.1) (by decide) hS hown (hts _ K1557) (fun _ h9 => h9) dJ0_coder_7d493_7 ?_
  refine W.eq (g2 := F0 m 10 ls [.int 0]) rfl ?_
  refine lv_goto (tgt := 14) hx hb dJ0_coder_7d493_10 (by decide) ?_
  exact z_reti () hx hb hr rfl hlocks hK (rfl) hP hD hS (Nat.le_of_ble_eq_true rfl) (Nat.le_of_ble_eq_true rfl) dJ0_coder_7d493_14
set_option maxHeartbeats 4000000 in
set_option maxRecDepth 100000 in
theorem k_isL1s4 (l : Launch) (D : va_G) (cy : Nat → ClassId) (sa : Nat → Nat) (sv : Nat → Nat) (dc : Nat) (sz : Nat) : Met l yJ0_isLatin1_aae02 (Cond.code yJ0_isLatin1_aae02 cJ0_isLatin1_aae02 1 (some .boolean) :: ALL) ({ frames := 0, cells := 0, slots := 0, locals := 0 }) (zPc D vwCl (TY cy) (EM sa sv dc) [.ref (sa 56)] [] sz) (va_Qi (fun r _ => r = 1) (zB D vwCl (TY cy) (S := Unit) (fun u => []) (va_A [] sz)) (va_A [] sz)) 0 0 (va_A [] sz) := by
  refine z_start (Qc := fun A => va_Qi (fun r _ => r = 1) (zB D vwCl (TY cy) (S := Unit) (fun u => []) A) A) PN_RJ0 (Nat.le_of_ble_eq_true rfl) ?_
  intro p e s m below meth c A ls hx hb hr hml hts hown hlocks hin hA hP hK hD hS hEn hl
  have hown : s.vm.findClass RJ0 = some m.cls := hown
  have hEm := hEn
  have hEn := hEn.1
  have hl : lv_has ls 1 [(0, .ref (sa 56))] := hl
  have hS0 := hS
  refine va_gets (C := "java/lang/String") (n := "COMPACT_STRINGS") (d := "Z") (v := .int 1) hx hb hEn.2.2.2.2.2 hS hown (hts _ K1440) (fun _ h9 => h9) dJ0_isLatin1_aae02_0 ?_
  refine lv_if_eq (tgt := 17) hx hb dJ0_isLatin1_aae02_3 (by decide) (fun c_3 => absurd c_3 (by decide)) (fun _ => ?_)
  refine lv_aload_n hx hb dJ0_isLatin1_aae02_6 rfl (lv_at hl 0 rfl) ?_
  refine va_getX (N := 1) (i := 0) (v := fun _ => .int 0) (ad := fun _ => (sa 56)) (o := "java/lang/String") (n := "coder") (d := "B") hx hb (fun _ _ => (hEm.2.2.2.2 4 _ rfl).2.1) (by decide) hS hown (hts _ K1557) (fun _ h9 => h9) dJ0_isLatin1_aae02_7 ?_
  refine W.eq (g2 := F0 m 10 ls [.int 0]) rfl ?_
  refine lv_if_ne (tgt := 17) hx hb dJ0_isLatin1_aae02_10 (by decide) (fun c_10 => absurd (by decide) c_10) (fun _ => ?_)
  refine lv_iconst (v := 1) hx hb dJ0_isLatin1_aae02_13 (by decide) ?_
  refine lv_goto (tgt := 18) hx hb dJ0_isLatin1_aae02_14 (by decide) ?_
  exact z_reti () hx hb hr rfl hlocks hK (rfl) hP hD hS (Nat.le_of_ble_eq_true rfl) (Nat.le_of_ble_eq_true rfl) dJ0_isLatin1_aae02_18
set_option maxHeartbeats 4000000 in
set_option maxRecDepth 100000 in
theorem k_lens4 (l : Launch) (D : va_G) (cy : Nat → ClassId) (sa : Nat → Nat) (sv : Nat → Nat) (dc : Nat) (sz : Nat) : Met l yJ0_length_8abf5 (Cond.code yJ0_length_8abf5 cJ0_length_8abf5 1 (some .int) :: ALL) ({ frames := 1, cells := 0, slots := 0, locals := 20 }) (zPc D vwCl (TY cy) (EM sa sv dc) [.ref (sa 56)] [] sz) (va_Qi (fun r _ => r = 3) (zB D vwCl (TY cy) (S := Unit) (fun u => []) (va_A [] sz)) (va_A [] sz)) 0 0 (va_A [] sz) := by
  refine z_start (Qc := fun A => va_Qi (fun r _ => r = 3) (zB D vwCl (TY cy) (S := Unit) (fun u => []) A) A) PN_RJ0 (Nat.le_of_ble_eq_true rfl) ?_
  intro p e s m below meth c A ls hx hb hr hml hts hown hlocks hin hA hP hK hD hS hEn hl
  have hown : s.vm.findClass RJ0 = some m.cls := hown
  have hEm := hEn
  have hEn := hEn.1
  have hl : lv_has ls 1 [(0, .ref (sa 56))] := hl
  have hS0 := hS
  refine lv_aload_n hx hb dJ0_length_8abf5_0 rfl (lv_at hl 0 rfl) ?_
  refine va_getX (N := 1) (i := 0) (v := fun _ => .ref (sv 4)) (ad := fun _ => (sa 56)) (o := "java/lang/String") (n := "value") (d := "[B") hx hb (fun _ _ => (hEm.2.2.2.2 4 _ rfl).2.2.1) (by decide) hS hown (hts _ K1556) (fun _ h9 => h9) dJ0_length_8abf5_1 ?_
  refine W.eq (g2 := F0 m 4 ls [.ref (sv 4)]) rfl ?_
  refine va_tlen (v := 3) hx hb (hEm.2.2.2.2 4 _ rfl).2.2.2 hS rfl dJ0_length_8abf5_4 ?_
  refine lv_aload_n hx hb dJ0_length_8abf5_5 rfl (lv_at hl 0 rfl) ?_
  refine z_calli (va_runV (As := []) (rest := [.int 3]) ⟨hx, hb, hml, hown, hts⟩ (k_coders4 l D cy sa sv dc _) (cwV 0 hts GV_RJ0_335 rfl rfl rfl ⟨rfl, HD_yJ0_coder_7d493⟩ ⟨Nat.le_of_ble_eq_true rfl, Nat.le_of_ble_eq_true rfl⟩) ⟨z_blind EM_ok, recvS (hEm.2.2.2.2 4 _ rfl).1 hS, z_pre EM_ok hP hK hD hEm hS (z_free hD hS hA)⟩ rfl rfl hl.1 rfl (lv_room (Nat.le_of_ble_eq_true rfl)) dJ0_length_8abf5_6 ⟨Nat.le_of_ble_eq_true rfl, Nat.le_of_ble_eq_true rfl⟩) hD hS hA (fun r_6 u6 H locs hw_6 hP hD hS => ?_)
  have hP : va_P D vwCl [] H := hP
  have hD : va_D A [] := hD
  obtain rfl := hw_6
  refine lv_ishr hx hb dJ0_length_8abf5_9 ?_
  refine lv_topi (fun v_1 hv_1 => ?_)
  obtain rfl : v_1 = 3 := hv_1.trans (by decide)
  exact z_reti () hx hb hr rfl hlocks hK (rfl) hP hD hS (Nat.le_of_ble_eq_true rfl) (Nat.le_of_ble_eq_true rfl) dJ0_length_8abf5_10
set_option maxHeartbeats 4000000 in
set_option maxRecDepth 100000 in
theorem k_canE (l : Launch) (D : va_G) (cy : Nat → ClassId) (sa : Nat → Nat) (sv : Nat → Nat) (dc : Nat) (sz : Nat) (ch : Int32) : Met l yJ1_canEncode_9a6ad (Cond.code yJ1_canEncode_9a6ad cJ1_canEncode_9a6ad 1 (some .boolean) :: ALL) ({ frames := 0, cells := 0, slots := 0, locals := 0 }) (zPc D vwCl (TY cy) (EM sa sv dc) [.int ch] [] sz) (va_Qi (fun r _ => r = cE ch) (zB D vwCl (TY cy) (S := Unit) (fun u => []) (va_A [] sz)) (va_A [] sz)) 0 0 (va_A [] sz) := by
  refine z_start (Qc := fun A => va_Qi (fun r _ => r = cE ch) (zB D vwCl (TY cy) (S := Unit) (fun u => []) A) A) PN_RJ1 (Nat.le_of_ble_eq_true rfl) ?_
  intro p e s m below meth c A ls hx hb hr hml hts hown hlocks hin hA hP hK hD hS hEn hl
  have hown : s.vm.findClass RJ1 = some m.cls := hown
  have hEm := hEn
  have hEn := hEn.1
  have hl : lv_has ls 1 [(0, .int ch)] := hl
  have hS0 := hS
  refine lv_iload_n hx hb dJ1_canEncode_9a6ad_0 rfl (lv_at hl 0 rfl) ?_
  refine lv_if_lt (tgt := 15) hx hb dJ1_canEncode_9a6ad_1 (by decide) (fun c_1 => ?_) (fun c_1 => ?_)
  · refine lv_iconst (v := 0) hx hb dJ1_canEncode_9a6ad_15 (by decide) ?_
    exact z_reti () hx hb hr rfl hlocks hK ((if_pos c_1).symm) hP hD hS (Nat.le_of_ble_eq_true rfl) (Nat.le_of_ble_eq_true rfl) dJ1_canEncode_9a6ad_16
  · refine lv_iload_n hx hb dJ1_canEncode_9a6ad_4 rfl (lv_at hl 0 rfl) ?_
    refine lv_sipush (v := 255) hx hb dJ1_canEncode_9a6ad_5 (by decide) ?_
    refine lv_icmp_gt (tgt := 15) hx hb dJ1_canEncode_9a6ad_8 (by decide) (fun c_8 => ?_) (fun c_8 => ?_)
    · refine lv_iconst (v := 0) hx hb dJ1_canEncode_9a6ad_15 (by decide) ?_
      exact z_reti () hx hb hr rfl hlocks hK (((if_neg c_1).trans (if_pos c_8)).symm) hP hD hS (Nat.le_of_ble_eq_true rfl) (Nat.le_of_ble_eq_true rfl) dJ1_canEncode_9a6ad_16
    · refine lv_iconst (v := 1) hx hb dJ1_canEncode_9a6ad_11 (by decide) ?_
      refine lv_goto (tgt := 16) hx hb dJ1_canEncode_9a6ad_12 (by decide) ?_
      exact z_reti () hx hb hr rfl hlocks hK (((if_neg c_1).trans (if_neg c_8)).symm) hP hD hS (Nat.le_of_ble_eq_true rfl) (Nat.le_of_ble_eq_true rfl) dJ1_canEncode_9a6ad_16
set_option maxHeartbeats 4000000 in
set_option maxRecDepth 100000 in
theorem k_ixgs1 (l : Launch) (D : va_G) (cy : Nat → ClassId) (sa : Nat → Nat) (sv : Nat → Nat) (dc : Nat) (sz : Nat) (ch : Int32) : Met l yJ1_indexOfChar_4cfef (Cond.code yJ1_indexOfChar_4cfef cJ1_indexOfChar_4cfef 6 (some .int) :: ALL) ({ frames := 0, cells := 0, slots := 0, locals := 0 }) (zPc D vwCl (TY cy) (EM sa sv dc) [.ref (sv 1), .int ch, .int 0, .int 16] [] sz) (va_Qi (fun r _ => r = ixg [110, 99, 109, 43, 45, 42, 108, 103, 115, 112, 106, 107, 101, 120, 114, 104] ch.toInt8.toInt32 0) (zB D vwCl (TY cy) (S := Unit) (fun u => []) (va_A [] sz)) (va_A [] sz)) 0 0 (va_A [] sz) := by
  refine z_start (Qc := fun A => va_Qi (fun r _ => r = ixg [110, 99, 109, 43, 45, 42, 108, 103, 115, 112, 106, 107, 101, 120, 114, 104] ch.toInt8.toInt32 0) (zB D vwCl (TY cy) (S := Unit) (fun u => []) A) A) PN_RJ1 (Nat.le_of_ble_eq_true rfl) ?_
  intro p e s m below meth c A ls hx hb hr hml hts hown hlocks hin hA hP hK hD hS hEn hl
  have hown : s.vm.findClass RJ1 = some m.cls := hown
  have hEm := hEn
  have hEn := hEn.1
  have hl : lv_has ls 6 [(0, .ref (sv 1)), (1, .int ch), (2, .int 0), (3, .int 16)] := hl
  have hS0 := hS
  refine lv_iload_n hx hb dJ1_indexOfChar_4cfef_0 rfl (lv_at hl 1 rfl) ?_
  refine lv_i2b hx hb dJ1_indexOfChar_4cfef_1 rfl ?_
  refine lv_istore (lv' := [(4, .int ch.toInt8.toInt32), (0, .ref (sv 1)), (1, .int ch), (2, .int 0), (3, .int 16)]) hx hb dJ1_indexOfChar_4cfef_2 hl (by decide) rfl (fun ls hl => ?_)
  refine lv_iload_n hx hb dJ1_indexOfChar_4cfef_4 rfl (lv_at hl 3 rfl) ?_
  refine lv_istore (lv' := [(5, .int 0), (4, .int ch.toInt8.toInt32), (0, .ref (sv 1)), (1, .int ch), (2, .int 0), (3, .int 16)]) hx hb dJ1_indexOfChar_4cfef_5 hl (by decide) rfl (fun ls hl => ?_)
  refine lv_iload hx hb dJ1_indexOfChar_4cfef_7 (lv_at hl 0 rfl) ?_
  refine lv_iload_n hx hb dJ1_indexOfChar_4cfef_9 rfl (lv_at hl 5 rfl) ?_
  refine lv_icmp_ge (tgt := 31) hx hb dJ1_indexOfChar_4cfef_10 (by decide) (fun c_10 => absurd c_10 (by decide)) (fun _ => ?_)
  refine lv_aload_n hx hb dJ1_indexOfChar_4cfef_13 rfl (lv_at hl 2 rfl) ?_
  refine lv_iload hx hb dJ1_indexOfChar_4cfef_14 (lv_at hl 0 rfl) ?_
  refine va_tb (v := .int 110) hx hb (hEm.2.2.2.2 1 _ rfl).2.2.2 hS (by unfold vp_in; decide) rfl dJ1_indexOfChar_4cfef_16 ?_
  refine lv_iload hx hb dJ1_indexOfChar_4cfef_17 (lv_at hl 1 rfl) ?_
  refine lv_icmp_ne (tgt := 25) hx hb dJ1_indexOfChar_4cfef_19 (by decide) (fun c_19 => ?_) (fun c_19 => ?_)
  · refine lv_iinc (v := 1) (lv' := [(5, .int 1), (4, .int ch.toInt8.toInt32), (0, .ref (sv 1)), (1, .int ch), (2, .int 0), (3, .int 16)]) hx hb dJ1_indexOfChar_4cfef_25 hl (k := 0) rfl (by decide) (by decide) rfl (fun ls hl => ?_)
    refine lv_goto (tgt := 7) hx hb dJ1_indexOfChar_4cfef_28 (by decide) ?_
    refine lv_iload hx hb dJ1_indexOfChar_4cfef_7 (lv_at hl 0 rfl) ?_
    refine lv_iload_n hx hb dJ1_indexOfChar_4cfef_9 rfl (lv_at hl 5 rfl) ?_
    refine lv_icmp_ge (tgt := 31) hx hb dJ1_indexOfChar_4cfef_10 (by decide) (fun c_10 => absurd c_10 (by decide)) (fun _ => ?_)
    refine lv_aload_n hx hb dJ1_indexOfChar_4cfef_13 rfl (lv_at hl 2 rfl) ?_
    refine lv_iload hx hb dJ1_indexOfChar_4cfef_14 (lv_at hl 0 rfl) ?_
    refine va_tb (v := .int 99) hx hb (hEm.2.2.2.2 1 _ rfl).2.2.2 hS (by unfold vp_in; decide) rfl dJ1_indexOfChar_4cfef_16 ?_
    refine lv_iload hx hb dJ1_indexOfChar_4cfef_17 (lv_at hl 1 rfl) ?_
    refine lv_icmp_ne (tgt := 25) hx hb dJ1_indexOfChar_4cfef_19 (by decide) (fun c_19 => ?_) (fun c_19 => ?_)
    · refine lv_iinc (v := 2) (lv' := [(5, .int 2), (4, .int ch.toInt8.toInt32), (0, .ref (sv 1)), (1, .int ch), (2, .int 0), (3, .int 16)]) hx hb dJ1_indexOfChar_4cfef_25 hl (k := 0) rfl (by decide) (by decide) rfl (fun ls hl => ?_)
      refine lv_goto (tgt := 7) hx hb dJ1_indexOfChar_4cfef_28 (by decide) ?_
      refine lv_iload hx hb dJ1_indexOfChar_4cfef_7 (lv_at hl 0 rfl) ?_
      refine lv_iload_n hx hb dJ1_indexOfChar_4cfef_9 rfl (lv_at hl 5 rfl) ?_
      refine lv_icmp_ge (tgt := 31) hx hb dJ1_indexOfChar_4cfef_10 (by decide) (fun c_10 => absurd c_10 (by decide)) (fun _ => ?_)
      refine lv_aload_n hx hb dJ1_indexOfChar_4cfef_13 rfl (lv_at hl 2 rfl) ?_
      refine lv_iload hx hb dJ1_indexOfChar_4cfef_14 (lv_at hl 0 rfl) ?_
      refine va_tb (v := .int 109) hx hb (hEm.2.2.2.2 1 _ rfl).2.2.2 hS (by unfold vp_in; decide) rfl dJ1_indexOfChar_4cfef_16 ?_
      refine lv_iload hx hb dJ1_indexOfChar_4cfef_17 (lv_at hl 1 rfl) ?_
      refine lv_icmp_ne (tgt := 25) hx hb dJ1_indexOfChar_4cfef_19 (by decide) (fun c_19 => ?_) (fun c_19 => ?_)
      · refine lv_iinc (v := 3) (lv' := [(5, .int 3), (4, .int ch.toInt8.toInt32), (0, .ref (sv 1)), (1, .int ch), (2, .int 0), (3, .int 16)]) hx hb dJ1_indexOfChar_4cfef_25 hl (k := 0) rfl (by decide) (by decide) rfl (fun ls hl => ?_)
        refine lv_goto (tgt := 7) hx hb dJ1_indexOfChar_4cfef_28 (by decide) ?_
        refine lv_iload hx hb dJ1_indexOfChar_4cfef_7 (lv_at hl 0 rfl) ?_
        refine lv_iload_n hx hb dJ1_indexOfChar_4cfef_9 rfl (lv_at hl 5 rfl) ?_
        refine lv_icmp_ge (tgt := 31) hx hb dJ1_indexOfChar_4cfef_10 (by decide) (fun c_10 => absurd c_10 (by decide)) (fun _ => ?_)
        refine lv_aload_n hx hb dJ1_indexOfChar_4cfef_13 rfl (lv_at hl 2 rfl) ?_
        refine lv_iload hx hb dJ1_indexOfChar_4cfef_14 (lv_at hl 0 rfl) ?_
        refine va_tb (v := .int 43) hx hb (hEm.2.2.2.2 1 _ rfl).2.2.2 hS (by unfold vp_in; decide) rfl dJ1_indexOfChar_4cfef_16 ?_
        refine lv_iload hx hb dJ1_indexOfChar_4cfef_17 (lv_at hl 1 rfl) ?_
        refine lv_icmp_ne (tgt := 25) hx hb dJ1_indexOfChar_4cfef_19 (by decide) (fun c_19 => ?_) (fun c_19 => ?_)
        · refine lv_iinc (v := 4) (lv' := [(5, .int 4), (4, .int ch.toInt8.toInt32), (0, .ref (sv 1)), (1, .int ch), (2, .int 0), (3, .int 16)]) hx hb dJ1_indexOfChar_4cfef_25 hl (k := 0) rfl (by decide) (by decide) rfl (fun ls hl => ?_)
          refine lv_goto (tgt := 7) hx hb dJ1_indexOfChar_4cfef_28 (by decide) ?_
          refine lv_iload hx hb dJ1_indexOfChar_4cfef_7 (lv_at hl 0 rfl) ?_
          refine lv_iload_n hx hb dJ1_indexOfChar_4cfef_9 rfl (lv_at hl 5 rfl) ?_
          refine lv_icmp_ge (tgt := 31) hx hb dJ1_indexOfChar_4cfef_10 (by decide) (fun c_10 => absurd c_10 (by decide)) (fun _ => ?_)
          refine lv_aload_n hx hb dJ1_indexOfChar_4cfef_13 rfl (lv_at hl 2 rfl) ?_
          refine lv_iload hx hb dJ1_indexOfChar_4cfef_14 (lv_at hl 0 rfl) ?_
          refine va_tb (v := .int 45) hx hb (hEm.2.2.2.2 1 _ rfl).2.2.2 hS (by unfold vp_in; decide) rfl dJ1_indexOfChar_4cfef_16 ?_
          refine lv_iload hx hb dJ1_indexOfChar_4cfef_17 (lv_at hl 1 rfl) ?_
          refine lv_icmp_ne (tgt := 25) hx hb dJ1_indexOfChar_4cfef_19 (by decide) (fun c_19 => ?_) (fun c_19 => ?_)
          · refine lv_iinc (v := 5) (lv' := [(5, .int 5), (4, .int ch.toInt8.toInt32), (0, .ref (sv 1)), (1, .int ch), (2, .int 0), (3, .int 16)]) hx hb dJ1_indexOfChar_4cfef_25 hl (k := 0) rfl (by decide) (by decide) rfl (fun ls hl => ?_)
            refine lv_goto (tgt := 7) hx hb dJ1_indexOfChar_4cfef_28 (by decide) ?_
            refine lv_iload hx hb dJ1_indexOfChar_4cfef_7 (lv_at hl 0 rfl) ?_
            refine lv_iload_n hx hb dJ1_indexOfChar_4cfef_9 rfl (lv_at hl 5 rfl) ?_
            refine lv_icmp_ge (tgt := 31) hx hb dJ1_indexOfChar_4cfef_10 (by decide) (fun c_10 => absurd c_10 (by decide)) (fun _ => ?_)
            refine lv_aload_n hx hb dJ1_indexOfChar_4cfef_13 rfl (lv_at hl 2 rfl) ?_
            refine lv_iload hx hb dJ1_indexOfChar_4cfef_14 (lv_at hl 0 rfl) ?_
            refine va_tb (v := .int 42) hx hb (hEm.2.2.2.2 1 _ rfl).2.2.2 hS (by unfold vp_in; decide) rfl dJ1_indexOfChar_4cfef_16 ?_
            refine lv_iload hx hb dJ1_indexOfChar_4cfef_17 (lv_at hl 1 rfl) ?_
            refine lv_icmp_ne (tgt := 25) hx hb dJ1_indexOfChar_4cfef_19 (by decide) (fun c_19 => ?_) (fun c_19 => ?_)
            · refine lv_iinc (v := 6) (lv' := [(5, .int 6), (4, .int ch.toInt8.toInt32), (0, .ref (sv 1)), (1, .int ch), (2, .int 0), (3, .int 16)]) hx hb dJ1_indexOfChar_4cfef_25 hl (k := 0) rfl (by decide) (by decide) rfl (fun ls hl => ?_)
              refine lv_goto (tgt := 7) hx hb dJ1_indexOfChar_4cfef_28 (by decide) ?_
              refine lv_iload hx hb dJ1_indexOfChar_4cfef_7 (lv_at hl 0 rfl) ?_
              refine lv_iload_n hx hb dJ1_indexOfChar_4cfef_9 rfl (lv_at hl 5 rfl) ?_
              refine lv_icmp_ge (tgt := 31) hx hb dJ1_indexOfChar_4cfef_10 (by decide) (fun c_10 => absurd c_10 (by decide)) (fun _ => ?_)
              refine lv_aload_n hx hb dJ1_indexOfChar_4cfef_13 rfl (lv_at hl 2 rfl) ?_
              refine lv_iload hx hb dJ1_indexOfChar_4cfef_14 (lv_at hl 0 rfl) ?_
              refine va_tb (v := .int 108) hx hb (hEm.2.2.2.2 1 _ rfl).2.2.2 hS (by unfold vp_in; decide) rfl dJ1_indexOfChar_4cfef_16 ?_
              refine lv_iload hx hb dJ1_indexOfChar_4cfef_17 (lv_at hl 1 rfl) ?_
              refine lv_icmp_ne (tgt := 25) hx hb dJ1_indexOfChar_4cfef_19 (by decide) (fun c_19 => ?_) (fun c_19 => ?_)
              · refine lv_iinc (v := 7) (lv' := [(5, .int 7), (4, .int ch.toInt8.toInt32), (0, .ref (sv 1)), (1, .int ch), (2, .int 0), (3, .int 16)]) hx hb dJ1_indexOfChar_4cfef_25 hl (k := 0) rfl (by decide) (by decide) rfl (fun ls hl => ?_)
                refine lv_goto (tgt := 7) hx hb dJ1_indexOfChar_4cfef_28 (by decide) ?_
                refine lv_iload hx hb dJ1_indexOfChar_4cfef_7 (lv_at hl 0 rfl) ?_
                refine lv_iload_n hx hb dJ1_indexOfChar_4cfef_9 rfl (lv_at hl 5 rfl) ?_
                refine lv_icmp_ge (tgt := 31) hx hb dJ1_indexOfChar_4cfef_10 (by decide) (fun c_10 => absurd c_10 (by decide)) (fun _ => ?_)
                refine lv_aload_n hx hb dJ1_indexOfChar_4cfef_13 rfl (lv_at hl 2 rfl) ?_
                refine lv_iload hx hb dJ1_indexOfChar_4cfef_14 (lv_at hl 0 rfl) ?_
                refine va_tb (v := .int 103) hx hb (hEm.2.2.2.2 1 _ rfl).2.2.2 hS (by unfold vp_in; decide) rfl dJ1_indexOfChar_4cfef_16 ?_
                refine lv_iload hx hb dJ1_indexOfChar_4cfef_17 (lv_at hl 1 rfl) ?_
                refine lv_icmp_ne (tgt := 25) hx hb dJ1_indexOfChar_4cfef_19 (by decide) (fun c_19 => ?_) (fun c_19 => ?_)
                · refine lv_iinc (v := 8) (lv' := [(5, .int 8), (4, .int ch.toInt8.toInt32), (0, .ref (sv 1)), (1, .int ch), (2, .int 0), (3, .int 16)]) hx hb dJ1_indexOfChar_4cfef_25 hl (k := 0) rfl (by decide) (by decide) rfl (fun ls hl => ?_)
                  refine lv_goto (tgt := 7) hx hb dJ1_indexOfChar_4cfef_28 (by decide) ?_
                  refine lv_iload hx hb dJ1_indexOfChar_4cfef_7 (lv_at hl 0 rfl) ?_
                  refine lv_iload_n hx hb dJ1_indexOfChar_4cfef_9 rfl (lv_at hl 5 rfl) ?_
                  refine lv_icmp_ge (tgt := 31) hx hb dJ1_indexOfChar_4cfef_10 (by decide) (fun c_10 => absurd c_10 (by decide)) (fun _ => ?_)
                  refine lv_aload_n hx hb dJ1_indexOfChar_4cfef_13 rfl (lv_at hl 2 rfl) ?_
                  refine lv_iload hx hb dJ1_indexOfChar_4cfef_14 (lv_at hl 0 rfl) ?_
                  refine va_tb (v := .int 115) hx hb (hEm.2.2.2.2 1 _ rfl).2.2.2 hS (by unfold vp_in; decide) rfl dJ1_indexOfChar_4cfef_16 ?_
                  refine lv_iload hx hb dJ1_indexOfChar_4cfef_17 (lv_at hl 1 rfl) ?_
                  refine lv_icmp_ne (tgt := 25) hx hb dJ1_indexOfChar_4cfef_19 (by decide) (fun c_19 => ?_) (fun c_19 => ?_)
                  · refine lv_iinc (v := 9) (lv' := [(5, .int 9), (4, .int ch.toInt8.toInt32), (0, .ref (sv 1)), (1, .int ch), (2, .int 0), (3, .int 16)]) hx hb dJ1_indexOfChar_4cfef_25 hl (k := 0) rfl (by decide) (by decide) rfl (fun ls hl => ?_)
                    refine lv_goto (tgt := 7) hx hb dJ1_indexOfChar_4cfef_28 (by decide) ?_
                    refine lv_iload hx hb dJ1_indexOfChar_4cfef_7 (lv_at hl 0 rfl) ?_
                    refine lv_iload_n hx hb dJ1_indexOfChar_4cfef_9 rfl (lv_at hl 5 rfl) ?_
                    refine lv_icmp_ge (tgt := 31) hx hb dJ1_indexOfChar_4cfef_10 (by decide) (fun c_10 => absurd c_10 (by decide)) (fun _ => ?_)
                    refine lv_aload_n hx hb dJ1_indexOfChar_4cfef_13 rfl (lv_at hl 2 rfl) ?_
                    refine lv_iload hx hb dJ1_indexOfChar_4cfef_14 (lv_at hl 0 rfl) ?_
                    refine va_tb (v := .int 112) hx hb (hEm.2.2.2.2 1 _ rfl).2.2.2 hS (by unfold vp_in; decide) rfl dJ1_indexOfChar_4cfef_16 ?_
                    refine lv_iload hx hb dJ1_indexOfChar_4cfef_17 (lv_at hl 1 rfl) ?_
                    refine lv_icmp_ne (tgt := 25) hx hb dJ1_indexOfChar_4cfef_19 (by decide) (fun c_19 => ?_) (fun c_19 => ?_)
                    · refine lv_iinc (v := 10) (lv' := [(5, .int 10), (4, .int ch.toInt8.toInt32), (0, .ref (sv 1)), (1, .int ch), (2, .int 0), (3, .int 16)]) hx hb dJ1_indexOfChar_4cfef_25 hl (k := 0) rfl (by decide) (by decide) rfl (fun ls hl => ?_)
                      refine lv_goto (tgt := 7) hx hb dJ1_indexOfChar_4cfef_28 (by decide) ?_
                      refine lv_iload hx hb dJ1_indexOfChar_4cfef_7 (lv_at hl 0 rfl) ?_
                      refine lv_iload_n hx hb dJ1_indexOfChar_4cfef_9 rfl (lv_at hl 5 rfl) ?_
                      refine lv_icmp_ge (tgt := 31) hx hb dJ1_indexOfChar_4cfef_10 (by decide) (fun c_10 => absurd c_10 (by decide)) (fun _ => ?_)
                      refine lv_aload_n hx hb dJ1_indexOfChar_4cfef_13 rfl (lv_at hl 2 rfl) ?_
                      refine lv_iload hx hb dJ1_indexOfChar_4cfef_14 (lv_at hl 0 rfl) ?_
                      refine va_tb (v := .int 106) hx hb (hEm.2.2.2.2 1 _ rfl).2.2.2 hS (by unfold vp_in; decide) rfl dJ1_indexOfChar_4cfef_16 ?_
                      refine lv_iload hx hb dJ1_indexOfChar_4cfef_17 (lv_at hl 1 rfl) ?_
                      refine lv_icmp_ne (tgt := 25) hx hb dJ1_indexOfChar_4cfef_19 (by decide) (fun c_19 => ?_) (fun c_19 => ?_)
                      · refine lv_iinc (v := 11) (lv' := [(5, .int 11), (4, .int ch.toInt8.toInt32), (0, .ref (sv 1)), (1, .int ch), (2, .int 0), (3, .int 16)]) hx hb dJ1_indexOfChar_4cfef_25 hl (k := 0) rfl (by decide) (by decide) rfl (fun ls hl => ?_)
                        refine lv_goto (tgt := 7) hx hb dJ1_indexOfChar_4cfef_28 (by decide) ?_
                        refine lv_iload hx hb dJ1_indexOfChar_4cfef_7 (lv_at hl 0 rfl) ?_
                        refine lv_iload_n hx hb dJ1_indexOfChar_4cfef_9 rfl (lv_at hl 5 rfl) ?_
                        refine lv_icmp_ge (tgt := 31) hx hb dJ1_indexOfChar_4cfef_10 (by decide) (fun c_10 => absurd c_10 (by decide)) (fun _ => ?_)
                        refine lv_aload_n hx hb dJ1_indexOfChar_4cfef_13 rfl (lv_at hl 2 rfl) ?_
                        refine lv_iload hx hb dJ1_indexOfChar_4cfef_14 (lv_at hl 0 rfl) ?_
                        refine va_tb (v := .int 107) hx hb (hEm.2.2.2.2 1 _ rfl).2.2.2 hS (by unfold vp_in; decide) rfl dJ1_indexOfChar_4cfef_16 ?_
                        refine lv_iload hx hb dJ1_indexOfChar_4cfef_17 (lv_at hl 1 rfl) ?_
                        refine lv_icmp_ne (tgt := 25) hx hb dJ1_indexOfChar_4cfef_19 (by decide) (fun c_19 => ?_) (fun c_19 => ?_)
                        · refine lv_iinc (v := 12) (lv' := [(5, .int 12), (4, .int ch.toInt8.toInt32), (0, .ref (sv 1)), (1, .int ch), (2, .int 0), (3, .int 16)]) hx hb dJ1_indexOfChar_4cfef_25 hl (k := 0) rfl (by decide) (by decide) rfl (fun ls hl => ?_)
                          refine lv_goto (tgt := 7) hx hb dJ1_indexOfChar_4cfef_28 (by decide) ?_
                          refine lv_iload hx hb dJ1_indexOfChar_4cfef_7 (lv_at hl 0 rfl) ?_
                          refine lv_iload_n hx hb dJ1_indexOfChar_4cfef_9 rfl (lv_at hl 5 rfl) ?_
                          refine lv_icmp_ge (tgt := 31) hx hb dJ1_indexOfChar_4cfef_10 (by decide) (fun c_10 => absurd c_10 (by decide)) (fun _ => ?_)
                          refine lv_aload_n hx hb dJ1_indexOfChar_4cfef_13 rfl (lv_at hl 2 rfl) ?_
                          refine lv_iload hx hb dJ1_indexOfChar_4cfef_14 (lv_at hl 0 rfl) ?_
                          refine va_tb (v := .int 101) hx hb (hEm.2.2.2.2 1 _ rfl).2.2.2 hS (by unfold vp_in; decide) rfl dJ1_indexOfChar_4cfef_16 ?_
                          refine lv_iload hx hb dJ1_indexOfChar_4cfef_17 (lv_at hl 1 rfl) ?_
                          refine lv_icmp_ne (tgt := 25) hx hb dJ1_indexOfChar_4cfef_19 (by decide) (fun c_19 => ?_) (fun c_19 => ?_)
                          · refine lv_iinc (v := 13) (lv' := [(5, .int 13), (4, .int ch.toInt8.toInt32), (0, .ref (sv 1)), (1, .int ch), (2, .int 0), (3, .int 16)]) hx hb dJ1_indexOfChar_4cfef_25 hl (k := 0) rfl (by decide) (by decide) rfl (fun ls hl => ?_)
                            refine lv_goto (tgt := 7) hx hb dJ1_indexOfChar_4cfef_28 (by decide) ?_
                            refine lv_iload hx hb dJ1_indexOfChar_4cfef_7 (lv_at hl 0 rfl) ?_
                            refine lv_iload_n hx hb dJ1_indexOfChar_4cfef_9 rfl (lv_at hl 5 rfl) ?_
                            refine lv_icmp_ge (tgt := 31) hx hb dJ1_indexOfChar_4cfef_10 (by decide) (fun c_10 => absurd c_10 (by decide)) (fun _ => ?_)
                            refine lv_aload_n hx hb dJ1_indexOfChar_4cfef_13 rfl (lv_at hl 2 rfl) ?_
                            refine lv_iload hx hb dJ1_indexOfChar_4cfef_14 (lv_at hl 0 rfl) ?_
                            refine va_tb (v := .int 120) hx hb (hEm.2.2.2.2 1 _ rfl).2.2.2 hS (by unfold vp_in; decide) rfl dJ1_indexOfChar_4cfef_16 ?_
                            refine lv_iload hx hb dJ1_indexOfChar_4cfef_17 (lv_at hl 1 rfl) ?_
                            refine lv_icmp_ne (tgt := 25) hx hb dJ1_indexOfChar_4cfef_19 (by decide) (fun c_19 => ?_) (fun c_19 => ?_)
                            · refine lv_iinc (v := 14) (lv' := [(5, .int 14), (4, .int ch.toInt8.toInt32), (0, .ref (sv 1)), (1, .int ch), (2, .int 0), (3, .int 16)]) hx hb dJ1_indexOfChar_4cfef_25 hl (k := 0) rfl (by decide) (by decide) rfl (fun ls hl => ?_)
                              refine lv_goto (tgt := 7) hx hb dJ1_indexOfChar_4cfef_28 (by decide) ?_
                              refine lv_iload hx hb dJ1_indexOfChar_4cfef_7 (lv_at hl 0 rfl) ?_
                              refine lv_iload_n hx hb dJ1_indexOfChar_4cfef_9 rfl (lv_at hl 5 rfl) ?_
                              refine lv_icmp_ge (tgt := 31) hx hb dJ1_indexOfChar_4cfef_10 (by decide) (fun c_10 => absurd c_10 (by decide)) (fun _ => ?_)
                              refine lv_aload_n hx hb dJ1_indexOfChar_4cfef_13 rfl (lv_at hl 2 rfl) ?_
                              refine lv_iload hx hb dJ1_indexOfChar_4cfef_14 (lv_at hl 0 rfl) ?_
                              refine va_tb (v := .int 114) hx hb (hEm.2.2.2.2 1 _ rfl).2.2.2 hS (by unfold vp_in; decide) rfl dJ1_indexOfChar_4cfef_16 ?_
                              refine lv_iload hx hb dJ1_indexOfChar_4cfef_17 (lv_at hl 1 rfl) ?_
                              refine lv_icmp_ne (tgt := 25) hx hb dJ1_indexOfChar_4cfef_19 (by decide) (fun c_19 => ?_) (fun c_19 => ?_)
                              · refine lv_iinc (v := 15) (lv' := [(5, .int 15), (4, .int ch.toInt8.toInt32), (0, .ref (sv 1)), (1, .int ch), (2, .int 0), (3, .int 16)]) hx hb dJ1_indexOfChar_4cfef_25 hl (k := 0) rfl (by decide) (by decide) rfl (fun ls hl => ?_)
                                refine lv_goto (tgt := 7) hx hb dJ1_indexOfChar_4cfef_28 (by decide) ?_
                                refine lv_iload hx hb dJ1_indexOfChar_4cfef_7 (lv_at hl 0 rfl) ?_
                                refine lv_iload_n hx hb dJ1_indexOfChar_4cfef_9 rfl (lv_at hl 5 rfl) ?_
                                refine lv_icmp_ge (tgt := 31) hx hb dJ1_indexOfChar_4cfef_10 (by decide) (fun c_10 => absurd c_10 (by decide)) (fun _ => ?_)
                                refine lv_aload_n hx hb dJ1_indexOfChar_4cfef_13 rfl (lv_at hl 2 rfl) ?_
                                refine lv_iload hx hb dJ1_indexOfChar_4cfef_14 (lv_at hl 0 rfl) ?_
                                refine va_tb (v := .int 104) hx hb (hEm.2.2.2.2 1 _ rfl).2.2.2 hS (by unfold vp_in; decide) rfl dJ1_indexOfChar_4cfef_16 ?_
                                refine lv_iload hx hb dJ1_indexOfChar_4cfef_17 (lv_at hl 1 rfl) ?_
                                refine lv_icmp_ne (tgt := 25) hx hb dJ1_indexOfChar_4cfef_19 (by decide) (fun c_19 => ?_) (fun c_19 => ?_)
                                · refine lv_iinc (v := 16) (lv' := [(5, .int 16), (4, .int ch.toInt8.toInt32), (0, .ref (sv 1)), (1, .int ch), (2, .int 0), (3, .int 16)]) hx hb dJ1_indexOfChar_4cfef_25 hl (k := 0) rfl (by decide) (by decide) rfl (fun ls hl => ?_)
                                  refine lv_goto (tgt := 7) hx hb dJ1_indexOfChar_4cfef_28 (by decide) ?_
                                  refine lv_iload hx hb dJ1_indexOfChar_4cfef_7 (lv_at hl 0 rfl) ?_
                                  refine lv_iload_n hx hb dJ1_indexOfChar_4cfef_9 rfl (lv_at hl 5 rfl) ?_
                                  refine lv_icmp_ge (tgt := 31) hx hb dJ1_indexOfChar_4cfef_10 (by decide) (fun _ => ?_) (fun c_10 => absurd (by decide) c_10)
                                  refine lv_iconst (v := (-1)) hx hb dJ1_indexOfChar_4cfef_31 (by decide) ?_
                                  exact z_reti () hx hb hr rfl hlocks hK ((by simp [ixg, *])) hP hD hS (Nat.le_of_ble_eq_true rfl) (Nat.le_of_ble_eq_true rfl) dJ1_indexOfChar_4cfef_32
                                · refine lv_iload hx hb dJ1_indexOfChar_4cfef_22 (lv_at hl 0 rfl) ?_
                                  exact z_reti () hx hb hr rfl hlocks hK ((by simp [ixg, *])) hP hD hS (Nat.le_of_ble_eq_true rfl) (Nat.le_of_ble_eq_true rfl) dJ1_indexOfChar_4cfef_24
                              · refine lv_iload hx hb dJ1_indexOfChar_4cfef_22 (lv_at hl 0 rfl) ?_
                                exact z_reti () hx hb hr rfl hlocks hK ((by simp [ixg, *])) hP hD hS (Nat.le_of_ble_eq_true rfl) (Nat.le_of_ble_eq_true rfl) dJ1_indexOfChar_4cfef_24
                            · refine lv_iload hx hb dJ1_indexOfChar_4cfef_22 (lv_at hl 0 rfl) ?_
                              exact z_reti () hx hb hr rfl hlocks hK ((by simp [ixg, *])) hP hD hS (Nat.le_of_ble_eq_true rfl) (Nat.le_of_ble_eq_true rfl) dJ1_indexOfChar_4cfef_24
                          · refine lv_iload hx hb dJ1_indexOfChar_4cfef_22 (lv_at hl 0 rfl) ?_
                            exact z_reti () hx hb hr rfl hlocks hK ((by simp [ixg, *])) hP hD hS (Nat.le_of_ble_eq_true rfl) (Nat.le_of_ble_eq_true rfl) dJ1_indexOfChar_4cfef_24
                        · refine lv_iload hx hb dJ1_indexOfChar_4cfef_22 (lv_at hl 0 rfl) ?_
                          exact z_reti () hx hb hr rfl hlocks hK ((by simp [ixg, *])) hP hD hS (Nat.le_of_ble_eq_true rfl) (Nat.le_of_ble_eq_true rfl) dJ1_indexOfChar_4cfef_24
                      · refine lv_iload hx hb dJ1_indexOfChar_4cfef_22 (lv_at hl 0 rfl) ?_
                        exact z_reti () hx hb hr rfl hlocks hK ((by simp [ixg, *])) hP hD hS (Nat.le_of_ble_eq_true rfl) (Nat.le_of_ble_eq_true rfl) dJ1_indexOfChar_4cfef_24
                    · refine lv_iload hx hb dJ1_indexOfChar_4cfef_22 (lv_at hl 0 rfl) ?_
                      exact z_reti () hx hb hr rfl hlocks hK ((by simp [ixg, *])) hP hD hS (Nat.le_of_ble_eq_true rfl) (Nat.le_of_ble_eq_true rfl) dJ1_indexOfChar_4cfef_24
                  · refine lv_iload hx hb dJ1_indexOfChar_4cfef_22 (lv_at hl 0 rfl) ?_
                    exact z_reti () hx hb hr rfl hlocks hK ((by simp [ixg, *])) hP hD hS (Nat.le_of_ble_eq_true rfl) (Nat.le_of_ble_eq_true rfl) dJ1_indexOfChar_4cfef_24
                · refine lv_iload hx hb dJ1_indexOfChar_4cfef_22 (lv_at hl 0 rfl) ?_
                  exact z_reti () hx hb hr rfl hlocks hK ((by simp [ixg, *])) hP hD hS (Nat.le_of_ble_eq_true rfl) (Nat.le_of_ble_eq_true rfl) dJ1_indexOfChar_4cfef_24
              · refine lv_iload hx hb dJ1_indexOfChar_4cfef_22 (lv_at hl 0 rfl) ?_
                exact z_reti () hx hb hr rfl hlocks hK ((by simp [ixg, *])) hP hD hS (Nat.le_of_ble_eq_true rfl) (Nat.le_of_ble_eq_true rfl) dJ1_indexOfChar_4cfef_24
            · refine lv_iload hx hb dJ1_indexOfChar_4cfef_22 (lv_at hl 0 rfl) ?_
              exact z_reti () hx hb hr rfl hlocks hK ((by simp [ixg, *])) hP hD hS (Nat.le_of_ble_eq_true rfl) (Nat.le_of_ble_eq_true rfl) dJ1_indexOfChar_4cfef_24
          · refine lv_iload hx hb dJ1_indexOfChar_4cfef_22 (lv_at hl 0 rfl) ?_
            exact z_reti () hx hb hr rfl hlocks hK ((by simp [ixg, *])) hP hD hS (Nat.le_of_ble_eq_true rfl) (Nat.le_of_ble_eq_true rfl) dJ1_indexOfChar_4cfef_24
        · refine lv_iload hx hb dJ1_indexOfChar_4cfef_22 (lv_at hl 0 rfl) ?_
          exact z_reti () hx hb hr rfl hlocks hK ((by simp [ixg, *])) hP hD hS (Nat.le_of_ble_eq_true rfl) (Nat.le_of_ble_eq_true rfl) dJ1_indexOfChar_4cfef_24
      · refine lv_iload hx hb dJ1_indexOfChar_4cfef_22 (lv_at hl 0 rfl) ?_
        exact z_reti () hx hb hr rfl hlocks hK ((by simp [ixg, *])) hP hD hS (Nat.le_of_ble_eq_true rfl) (Nat.le_of_ble_eq_true rfl) dJ1_indexOfChar_4cfef_24
    · refine lv_iload hx hb dJ1_indexOfChar_4cfef_22 (lv_at hl 0 rfl) ?_
      exact z_reti () hx hb hr rfl hlocks hK ((by simp [ixg, *])) hP hD hS (Nat.le_of_ble_eq_true rfl) (Nat.le_of_ble_eq_true rfl) dJ1_indexOfChar_4cfef_24
  · refine lv_iload hx hb dJ1_indexOfChar_4cfef_22 (lv_at hl 0 rfl) ?_
    exact z_reti () hx hb hr rfl hlocks hK ((by simp [ixg, *])) hP hD hS (Nat.le_of_ble_eq_true rfl) (Nat.le_of_ble_eq_true rfl) dJ1_indexOfChar_4cfef_24
set_option maxHeartbeats 4000000 in
set_option maxRecDepth 100000 in
theorem k_ixgs2 (l : Launch) (D : va_G) (cy : Nat → ClassId) (sa : Nat → Nat) (sv : Nat → Nat) (dc : Nat) (sz : Nat) (ch : Int32) : Met l yJ1_indexOfChar_4cfef (Cond.code yJ1_indexOfChar_4cfef cJ1_indexOfChar_4cfef 6 (some .int) :: ALL) ({ frames := 0, cells := 0, slots := 0, locals := 0 }) (zPc D vwCl (TY cy) (EM sa sv dc) [.ref (sv 2), .int ch, .int 0, .int 10] [] sz) (va_Qi (fun r _ => r = ixg [99, 109, 43, 45, 42, 108, 103, 115, 112, 106] ch.toInt8.toInt32 0) (zB D vwCl (TY cy) (S := Unit) (fun u => []) (va_A [] sz)) (va_A [] sz)) 0 0 (va_A [] sz) := by
  refine z_start (Qc := fun A => va_Qi (fun r _ => r = ixg [99, 109, 43, 45, 42, 108, 103, 115, 112, 106] ch.toInt8.toInt32 0) (zB D vwCl (TY cy) (S := Unit) (fun u => []) A) A) PN_RJ1 (Nat.le_of_ble_eq_true rfl) ?_
  intro p e s m below meth c A ls hx hb hr hml hts hown hlocks hin hA hP hK hD hS hEn hl
  have hown : s.vm.findClass RJ1 = some m.cls := hown
  have hEm := hEn
  have hEn := hEn.1
  have hl : lv_has ls 6 [(0, .ref (sv 2)), (1, .int ch), (2, .int 0), (3, .int 10)] := hl
  have hS0 := hS
  refine lv_iload_n hx hb dJ1_indexOfChar_4cfef_0 rfl (lv_at hl 1 rfl) ?_
  refine lv_i2b hx hb dJ1_indexOfChar_4cfef_1 rfl ?_
  refine lv_istore (lv' := [(4, .int ch.toInt8.toInt32), (0, .ref (sv 2)), (1, .int ch), (2, .int 0), (3, .int 10)]) hx hb dJ1_indexOfChar_4cfef_2 hl (by decide) rfl (fun ls hl => ?_)
  refine lv_iload_n hx hb dJ1_indexOfChar_4cfef_4 rfl (lv_at hl 3 rfl) ?_
  refine lv_istore (lv' := [(5, .int 0), (4, .int ch.toInt8.toInt32), (0, .ref (sv 2)), (1, .int ch), (2, .int 0), (3, .int 10)]) hx hb dJ1_indexOfChar_4cfef_5 hl (by decide) rfl (fun ls hl => ?_)
  refine lv_iload hx hb dJ1_indexOfChar_4cfef_7 (lv_at hl 0 rfl) ?_
  refine lv_iload_n hx hb dJ1_indexOfChar_4cfef_9 rfl (lv_at hl 5 rfl) ?_
  refine lv_icmp_ge (tgt := 31) hx hb dJ1_indexOfChar_4cfef_10 (by decide) (fun c_10 => absurd c_10 (by decide)) (fun _ => ?_)
  refine lv_aload_n hx hb dJ1_indexOfChar_4cfef_13 rfl (lv_at hl 2 rfl) ?_
  refine lv_iload hx hb dJ1_indexOfChar_4cfef_14 (lv_at hl 0 rfl) ?_
  refine va_tb (v := .int 99) hx hb (hEm.2.2.2.2 2 _ rfl).2.2.2 hS (by unfold vp_in; decide) rfl dJ1_indexOfChar_4cfef_16 ?_
  refine lv_iload hx hb dJ1_indexOfChar_4cfef_17 (lv_at hl 1 rfl) ?_
  refine lv_icmp_ne (tgt := 25) hx hb dJ1_indexOfChar_4cfef_19 (by decide) (fun c_19 => ?_) (fun c_19 => ?_)
  · refine lv_iinc (v := 1) (lv' := [(5, .int 1), (4, .int ch.toInt8.toInt32), (0, .ref (sv 2)), (1, .int ch), (2, .int 0), (3, .int 10)]) hx hb dJ1_indexOfChar_4cfef_25 hl (k := 0) rfl (by decide) (by decide) rfl (fun ls hl => ?_)
    refine lv_goto (tgt := 7) hx hb dJ1_indexOfChar_4cfef_28 (by decide) ?_
    refine lv_iload hx hb dJ1_indexOfChar_4cfef_7 (lv_at hl 0 rfl) ?_
    refine lv_iload_n hx hb dJ1_indexOfChar_4cfef_9 rfl (lv_at hl 5 rfl) ?_
    refine lv_icmp_ge (tgt := 31) hx hb dJ1_indexOfChar_4cfef_10 (by decide) (fun c_10 => absurd c_10 (by decide)) (fun _ => ?_)
    refine lv_aload_n hx hb dJ1_indexOfChar_4cfef_13 rfl (lv_at hl 2 rfl) ?_
    refine lv_iload hx hb dJ1_indexOfChar_4cfef_14 (lv_at hl 0 rfl) ?_
    refine va_tb (v := .int 109) hx hb (hEm.2.2.2.2 2 _ rfl).2.2.2 hS (by unfold vp_in; decide) rfl dJ1_indexOfChar_4cfef_16 ?_
    refine lv_iload hx hb dJ1_indexOfChar_4cfef_17 (lv_at hl 1 rfl) ?_
    refine lv_icmp_ne (tgt := 25) hx hb dJ1_indexOfChar_4cfef_19 (by decide) (fun c_19 => ?_) (fun c_19 => ?_)
    · refine lv_iinc (v := 2) (lv' := [(5, .int 2), (4, .int ch.toInt8.toInt32), (0, .ref (sv 2)), (1, .int ch), (2, .int 0), (3, .int 10)]) hx hb dJ1_indexOfChar_4cfef_25 hl (k := 0) rfl (by decide) (by decide) rfl (fun ls hl => ?_)
      refine lv_goto (tgt := 7) hx hb dJ1_indexOfChar_4cfef_28 (by decide) ?_
      refine lv_iload hx hb dJ1_indexOfChar_4cfef_7 (lv_at hl 0 rfl) ?_
      refine lv_iload_n hx hb dJ1_indexOfChar_4cfef_9 rfl (lv_at hl 5 rfl) ?_
      refine lv_icmp_ge (tgt := 31) hx hb dJ1_indexOfChar_4cfef_10 (by decide) (fun c_10 => absurd c_10 (by decide)) (fun _ => ?_)
      refine lv_aload_n hx hb dJ1_indexOfChar_4cfef_13 rfl (lv_at hl 2 rfl) ?_
      refine lv_iload hx hb dJ1_indexOfChar_4cfef_14 (lv_at hl 0 rfl) ?_
      refine va_tb (v := .int 43) hx hb (hEm.2.2.2.2 2 _ rfl).2.2.2 hS (by unfold vp_in; decide) rfl dJ1_indexOfChar_4cfef_16 ?_
      refine lv_iload hx hb dJ1_indexOfChar_4cfef_17 (lv_at hl 1 rfl) ?_
      refine lv_icmp_ne (tgt := 25) hx hb dJ1_indexOfChar_4cfef_19 (by decide) (fun c_19 => ?_) (fun c_19 => ?_)
      · refine lv_iinc (v := 3) (lv' := [(5, .int 3), (4, .int ch.toInt8.toInt32), (0, .ref (sv 2)), (1, .int ch), (2, .int 0), (3, .int 10)]) hx hb dJ1_indexOfChar_4cfef_25 hl (k := 0) rfl (by decide) (by decide) rfl (fun ls hl => ?_)
        refine lv_goto (tgt := 7) hx hb dJ1_indexOfChar_4cfef_28 (by decide) ?_
        refine lv_iload hx hb dJ1_indexOfChar_4cfef_7 (lv_at hl 0 rfl) ?_
        refine lv_iload_n hx hb dJ1_indexOfChar_4cfef_9 rfl (lv_at hl 5 rfl) ?_
        refine lv_icmp_ge (tgt := 31) hx hb dJ1_indexOfChar_4cfef_10 (by decide) (fun c_10 => absurd c_10 (by decide)) (fun _ => ?_)
        refine lv_aload_n hx hb dJ1_indexOfChar_4cfef_13 rfl (lv_at hl 2 rfl) ?_
        refine lv_iload hx hb dJ1_indexOfChar_4cfef_14 (lv_at hl 0 rfl) ?_
        refine va_tb (v := .int 45) hx hb (hEm.2.2.2.2 2 _ rfl).2.2.2 hS (by unfold vp_in; decide) rfl dJ1_indexOfChar_4cfef_16 ?_
        refine lv_iload hx hb dJ1_indexOfChar_4cfef_17 (lv_at hl 1 rfl) ?_
        refine lv_icmp_ne (tgt := 25) hx hb dJ1_indexOfChar_4cfef_19 (by decide) (fun c_19 => ?_) (fun c_19 => ?_)
        · refine lv_iinc (v := 4) (lv' := [(5, .int 4), (4, .int ch.toInt8.toInt32), (0, .ref (sv 2)), (1, .int ch), (2, .int 0), (3, .int 10)]) hx hb dJ1_indexOfChar_4cfef_25 hl (k := 0) rfl (by decide) (by decide) rfl (fun ls hl => ?_)
          refine lv_goto (tgt := 7) hx hb dJ1_indexOfChar_4cfef_28 (by decide) ?_
          refine lv_iload hx hb dJ1_indexOfChar_4cfef_7 (lv_at hl 0 rfl) ?_
          refine lv_iload_n hx hb dJ1_indexOfChar_4cfef_9 rfl (lv_at hl 5 rfl) ?_
          refine lv_icmp_ge (tgt := 31) hx hb dJ1_indexOfChar_4cfef_10 (by decide) (fun c_10 => absurd c_10 (by decide)) (fun _ => ?_)
          refine lv_aload_n hx hb dJ1_indexOfChar_4cfef_13 rfl (lv_at hl 2 rfl) ?_
          refine lv_iload hx hb dJ1_indexOfChar_4cfef_14 (lv_at hl 0 rfl) ?_
          refine va_tb (v := .int 42) hx hb (hEm.2.2.2.2 2 _ rfl).2.2.2 hS (by unfold vp_in; decide) rfl dJ1_indexOfChar_4cfef_16 ?_
          refine lv_iload hx hb dJ1_indexOfChar_4cfef_17 (lv_at hl 1 rfl) ?_
          refine lv_icmp_ne (tgt := 25) hx hb dJ1_indexOfChar_4cfef_19 (by decide) (fun c_19 => ?_) (fun c_19 => ?_)
          · refine lv_iinc (v := 5) (lv' := [(5, .int 5), (4, .int ch.toInt8.toInt32), (0, .ref (sv 2)), (1, .int ch), (2, .int 0), (3, .int 10)]) hx hb dJ1_indexOfChar_4cfef_25 hl (k := 0) rfl (by decide) (by decide) rfl (fun ls hl => ?_)
            refine lv_goto (tgt := 7) hx hb dJ1_indexOfChar_4cfef_28 (by decide) ?_
            refine lv_iload hx hb dJ1_indexOfChar_4cfef_7 (lv_at hl 0 rfl) ?_
            refine lv_iload_n hx hb dJ1_indexOfChar_4cfef_9 rfl (lv_at hl 5 rfl) ?_
            refine lv_icmp_ge (tgt := 31) hx hb dJ1_indexOfChar_4cfef_10 (by decide) (fun c_10 => absurd c_10 (by decide)) (fun _ => ?_)
            refine lv_aload_n hx hb dJ1_indexOfChar_4cfef_13 rfl (lv_at hl 2 rfl) ?_
            refine lv_iload hx hb dJ1_indexOfChar_4cfef_14 (lv_at hl 0 rfl) ?_
            refine va_tb (v := .int 108) hx hb (hEm.2.2.2.2 2 _ rfl).2.2.2 hS (by unfold vp_in; decide) rfl dJ1_indexOfChar_4cfef_16 ?_
            refine lv_iload hx hb dJ1_indexOfChar_4cfef_17 (lv_at hl 1 rfl) ?_
            refine lv_icmp_ne (tgt := 25) hx hb dJ1_indexOfChar_4cfef_19 (by decide) (fun c_19 => ?_) (fun c_19 => ?_)
            · refine lv_iinc (v := 6) (lv' := [(5, .int 6), (4, .int ch.toInt8.toInt32), (0, .ref (sv 2)), (1, .int ch), (2, .int 0), (3, .int 10)]) hx hb dJ1_indexOfChar_4cfef_25 hl (k := 0) rfl (by decide) (by decide) rfl (fun ls hl => ?_)
              refine lv_goto (tgt := 7) hx hb dJ1_indexOfChar_4cfef_28 (by decide) ?_
              refine lv_iload hx hb dJ1_indexOfChar_4cfef_7 (lv_at hl 0 rfl) ?_
              refine lv_iload_n hx hb dJ1_indexOfChar_4cfef_9 rfl (lv_at hl 5 rfl) ?_
              refine lv_icmp_ge (tgt := 31) hx hb dJ1_indexOfChar_4cfef_10 (by decide) (fun c_10 => absurd c_10 (by decide)) (fun _ => ?_)
              refine lv_aload_n hx hb dJ1_indexOfChar_4cfef_13 rfl (lv_at hl 2 rfl) ?_
              refine lv_iload hx hb dJ1_indexOfChar_4cfef_14 (lv_at hl 0 rfl) ?_
              refine va_tb (v := .int 103) hx hb (hEm.2.2.2.2 2 _ rfl).2.2.2 hS (by unfold vp_in; decide) rfl dJ1_indexOfChar_4cfef_16 ?_
              refine lv_iload hx hb dJ1_indexOfChar_4cfef_17 (lv_at hl 1 rfl) ?_
              refine lv_icmp_ne (tgt := 25) hx hb dJ1_indexOfChar_4cfef_19 (by decide) (fun c_19 => ?_) (fun c_19 => ?_)
              · refine lv_iinc (v := 7) (lv' := [(5, .int 7), (4, .int ch.toInt8.toInt32), (0, .ref (sv 2)), (1, .int ch), (2, .int 0), (3, .int 10)]) hx hb dJ1_indexOfChar_4cfef_25 hl (k := 0) rfl (by decide) (by decide) rfl (fun ls hl => ?_)
                refine lv_goto (tgt := 7) hx hb dJ1_indexOfChar_4cfef_28 (by decide) ?_
                refine lv_iload hx hb dJ1_indexOfChar_4cfef_7 (lv_at hl 0 rfl) ?_
                refine lv_iload_n hx hb dJ1_indexOfChar_4cfef_9 rfl (lv_at hl 5 rfl) ?_
                refine lv_icmp_ge (tgt := 31) hx hb dJ1_indexOfChar_4cfef_10 (by decide) (fun c_10 => absurd c_10 (by decide)) (fun _ => ?_)
                refine lv_aload_n hx hb dJ1_indexOfChar_4cfef_13 rfl (lv_at hl 2 rfl) ?_
                refine lv_iload hx hb dJ1_indexOfChar_4cfef_14 (lv_at hl 0 rfl) ?_
                refine va_tb (v := .int 115) hx hb (hEm.2.2.2.2 2 _ rfl).2.2.2 hS (by unfold vp_in; decide) rfl dJ1_indexOfChar_4cfef_16 ?_
                refine lv_iload hx hb dJ1_indexOfChar_4cfef_17 (lv_at hl 1 rfl) ?_
                refine lv_icmp_ne (tgt := 25) hx hb dJ1_indexOfChar_4cfef_19 (by decide) (fun c_19 => ?_) (fun c_19 => ?_)
                · refine lv_iinc (v := 8) (lv' := [(5, .int 8), (4, .int ch.toInt8.toInt32), (0, .ref (sv 2)), (1, .int ch), (2, .int 0), (3, .int 10)]) hx hb dJ1_indexOfChar_4cfef_25 hl (k := 0) rfl (by decide) (by decide) rfl (fun ls hl => ?_)
                  refine lv_goto (tgt := 7) hx hb dJ1_indexOfChar_4cfef_28 (by decide) ?_
                  refine lv_iload hx hb dJ1_indexOfChar_4cfef_7 (lv_at hl 0 rfl) ?_
                  refine lv_iload_n hx hb dJ1_indexOfChar_4cfef_9 rfl (lv_at hl 5 rfl) ?_
                  refine lv_icmp_ge (tgt := 31) hx hb dJ1_indexOfChar_4cfef_10 (by decide) (fun c_10 => absurd c_10 (by decide)) (fun _ => ?_)
                  refine lv_aload_n hx hb dJ1_indexOfChar_4cfef_13 rfl (lv_at hl 2 rfl) ?_
                  refine lv_iload hx hb dJ1_indexOfChar_4cfef_14 (lv_at hl 0 rfl) ?_
                  refine va_tb (v := .int 112) hx hb (hEm.2.2.2.2 2 _ rfl).2.2.2 hS (by unfold vp_in; decide) rfl dJ1_indexOfChar_4cfef_16 ?_
                  refine lv_iload hx hb dJ1_indexOfChar_4cfef_17 (lv_at hl 1 rfl) ?_
                  refine lv_icmp_ne (tgt := 25) hx hb dJ1_indexOfChar_4cfef_19 (by decide) (fun c_19 => ?_) (fun c_19 => ?_)
                  · refine lv_iinc (v := 9) (lv' := [(5, .int 9), (4, .int ch.toInt8.toInt32), (0, .ref (sv 2)), (1, .int ch), (2, .int 0), (3, .int 10)]) hx hb dJ1_indexOfChar_4cfef_25 hl (k := 0) rfl (by decide) (by decide) rfl (fun ls hl => ?_)
                    refine lv_goto (tgt := 7) hx hb dJ1_indexOfChar_4cfef_28 (by decide) ?_
                    refine lv_iload hx hb dJ1_indexOfChar_4cfef_7 (lv_at hl 0 rfl) ?_
                    refine lv_iload_n hx hb dJ1_indexOfChar_4cfef_9 rfl (lv_at hl 5 rfl) ?_
                    refine lv_icmp_ge (tgt := 31) hx hb dJ1_indexOfChar_4cfef_10 (by decide) (fun c_10 => absurd c_10 (by decide)) (fun _ => ?_)
                    refine lv_aload_n hx hb dJ1_indexOfChar_4cfef_13 rfl (lv_at hl 2 rfl) ?_
                    refine lv_iload hx hb dJ1_indexOfChar_4cfef_14 (lv_at hl 0 rfl) ?_
                    refine va_tb (v := .int 106) hx hb (hEm.2.2.2.2 2 _ rfl).2.2.2 hS (by unfold vp_in; decide) rfl dJ1_indexOfChar_4cfef_16 ?_
                    refine lv_iload hx hb dJ1_indexOfChar_4cfef_17 (lv_at hl 1 rfl) ?_
                    refine lv_icmp_ne (tgt := 25) hx hb dJ1_indexOfChar_4cfef_19 (by decide) (fun c_19 => ?_) (fun c_19 => ?_)
                    · refine lv_iinc (v := 10) (lv' := [(5, .int 10), (4, .int ch.toInt8.toInt32), (0, .ref (sv 2)), (1, .int ch), (2, .int 0), (3, .int 10)]) hx hb dJ1_indexOfChar_4cfef_25 hl (k := 0) rfl (by decide) (by decide) rfl (fun ls hl => ?_)
                      refine lv_goto (tgt := 7) hx hb dJ1_indexOfChar_4cfef_28 (by decide) ?_
                      refine lv_iload hx hb dJ1_indexOfChar_4cfef_7 (lv_at hl 0 rfl) ?_
                      refine lv_iload_n hx hb dJ1_indexOfChar_4cfef_9 rfl (lv_at hl 5 rfl) ?_
                      refine lv_icmp_ge (tgt := 31) hx hb dJ1_indexOfChar_4cfef_10 (by decide) (fun _ => ?_) (fun c_10 => absurd (by decide) c_10)
                      refine lv_iconst (v := (-1)) hx hb dJ1_indexOfChar_4cfef_31 (by decide) ?_
                      exact z_reti () hx hb hr rfl hlocks hK ((by simp [ixg, *])) hP hD hS (Nat.le_of_ble_eq_true rfl) (Nat.le_of_ble_eq_true rfl) dJ1_indexOfChar_4cfef_32
                    · refine lv_iload hx hb dJ1_indexOfChar_4cfef_22 (lv_at hl 0 rfl) ?_
                      exact z_reti () hx hb hr rfl hlocks hK ((by simp [ixg, *])) hP hD hS (Nat.le_of_ble_eq_true rfl) (Nat.le_of_ble_eq_true rfl) dJ1_indexOfChar_4cfef_24
                  · refine lv_iload hx hb dJ1_indexOfChar_4cfef_22 (lv_at hl 0 rfl) ?_
                    exact z_reti () hx hb hr rfl hlocks hK ((by simp [ixg, *])) hP hD hS (Nat.le_of_ble_eq_true rfl) (Nat.le_of_ble_eq_true rfl) dJ1_indexOfChar_4cfef_24
                · refine lv_iload hx hb dJ1_indexOfChar_4cfef_22 (lv_at hl 0 rfl) ?_
                  exact z_reti () hx hb hr rfl hlocks hK ((by simp [ixg, *])) hP hD hS (Nat.le_of_ble_eq_true rfl) (Nat.le_of_ble_eq_true rfl) dJ1_indexOfChar_4cfef_24
              · refine lv_iload hx hb dJ1_indexOfChar_4cfef_22 (lv_at hl 0 rfl) ?_
                exact z_reti () hx hb hr rfl hlocks hK ((by simp [ixg, *])) hP hD hS (Nat.le_of_ble_eq_true rfl) (Nat.le_of_ble_eq_true rfl) dJ1_indexOfChar_4cfef_24
            · refine lv_iload hx hb dJ1_indexOfChar_4cfef_22 (lv_at hl 0 rfl) ?_
              exact z_reti () hx hb hr rfl hlocks hK ((by simp [ixg, *])) hP hD hS (Nat.le_of_ble_eq_true rfl) (Nat.le_of_ble_eq_true rfl) dJ1_indexOfChar_4cfef_24
          · refine lv_iload hx hb dJ1_indexOfChar_4cfef_22 (lv_at hl 0 rfl) ?_
            exact z_reti () hx hb hr rfl hlocks hK ((by simp [ixg, *])) hP hD hS (Nat.le_of_ble_eq_true rfl) (Nat.le_of_ble_eq_true rfl) dJ1_indexOfChar_4cfef_24
        · refine lv_iload hx hb dJ1_indexOfChar_4cfef_22 (lv_at hl 0 rfl) ?_
          exact z_reti () hx hb hr rfl hlocks hK ((by simp [ixg, *])) hP hD hS (Nat.le_of_ble_eq_true rfl) (Nat.le_of_ble_eq_true rfl) dJ1_indexOfChar_4cfef_24
      · refine lv_iload hx hb dJ1_indexOfChar_4cfef_22 (lv_at hl 0 rfl) ?_
        exact z_reti () hx hb hr rfl hlocks hK ((by simp [ixg, *])) hP hD hS (Nat.le_of_ble_eq_true rfl) (Nat.le_of_ble_eq_true rfl) dJ1_indexOfChar_4cfef_24
    · refine lv_iload hx hb dJ1_indexOfChar_4cfef_22 (lv_at hl 0 rfl) ?_
      exact z_reti () hx hb hr rfl hlocks hK ((by simp [ixg, *])) hP hD hS (Nat.le_of_ble_eq_true rfl) (Nat.le_of_ble_eq_true rfl) dJ1_indexOfChar_4cfef_24
  · refine lv_iload hx hb dJ1_indexOfChar_4cfef_22 (lv_at hl 0 rfl) ?_
    exact z_reti () hx hb hr rfl hlocks hK ((by simp [ixg, *])) hP hD hS (Nat.le_of_ble_eq_true rfl) (Nat.le_of_ble_eq_true rfl) dJ1_indexOfChar_4cfef_24
set_option maxHeartbeats 4000000 in
set_option maxRecDepth 100000 in
theorem k_ixgs3 (l : Launch) (D : va_G) (cy : Nat → ClassId) (sa : Nat → Nat) (sv : Nat → Nat) (dc : Nat) (sz : Nat) (ch : Int32) : Met l yJ1_indexOfChar_4cfef (Cond.code yJ1_indexOfChar_4cfef cJ1_indexOfChar_4cfef 6 (some .int) :: ALL) ({ frames := 0, cells := 0, slots := 0, locals := 0 }) (zPc D vwCl (TY cy) (EM sa sv dc) [.ref (sv 3), .int ch, .int 0, .int 6] [] sz) (va_Qi (fun r _ => r = ixg [109, 43, 45, 42, 108, 115] ch.toInt8.toInt32 0) (zB D vwCl (TY cy) (S := Unit) (fun u => []) (va_A [] sz)) (va_A [] sz)) 0 0 (va_A [] sz) := by
  refine z_start (Qc := fun A => va_Qi (fun r _ => r = ixg [109, 43, 45, 42, 108, 115] ch.toInt8.toInt32 0) (zB D vwCl (TY cy) (S := Unit) (fun u => []) A) A) PN_RJ1 (Nat.le_of_ble_eq_true rfl) ?_
  intro p e s m below meth c A ls hx hb hr hml hts hown hlocks hin hA hP hK hD hS hEn hl
  have hown : s.vm.findClass RJ1 = some m.cls := hown
  have hEm := hEn
  have hEn := hEn.1
  have hl : lv_has ls 6 [(0, .ref (sv 3)), (1, .int ch), (2, .int 0), (3, .int 6)] := hl
  have hS0 := hS
  refine lv_iload_n hx hb dJ1_indexOfChar_4cfef_0 rfl (lv_at hl 1 rfl) ?_
  refine lv_i2b hx hb dJ1_indexOfChar_4cfef_1 rfl ?_
  refine lv_istore (lv' := [(4, .int ch.toInt8.toInt32), (0, .ref (sv 3)), (1, .int ch), (2, .int 0), (3, .int 6)]) hx hb dJ1_indexOfChar_4cfef_2 hl (by decide) rfl (fun ls hl => ?_)
  refine lv_iload_n hx hb dJ1_indexOfChar_4cfef_4 rfl (lv_at hl 3 rfl) ?_
  refine lv_istore (lv' := [(5, .int 0), (4, .int ch.toInt8.toInt32), (0, .ref (sv 3)), (1, .int ch), (2, .int 0), (3, .int 6)]) hx hb dJ1_indexOfChar_4cfef_5 hl (by decide) rfl (fun ls hl => ?_)
  refine lv_iload hx hb dJ1_indexOfChar_4cfef_7 (lv_at hl 0 rfl) ?_
  refine lv_iload_n hx hb dJ1_indexOfChar_4cfef_9 rfl (lv_at hl 5 rfl) ?_
  refine lv_icmp_ge (tgt := 31) hx hb dJ1_indexOfChar_4cfef_10 (by decide) (fun c_10 => absurd c_10 (by decide)) (fun _ => ?_)
  refine lv_aload_n hx hb dJ1_indexOfChar_4cfef_13 rfl (lv_at hl 2 rfl) ?_
  refine lv_iload hx hb dJ1_indexOfChar_4cfef_14 (lv_at hl 0 rfl) ?_
  refine va_tb (v := .int 109) hx hb (hEm.2.2.2.2 3 _ rfl).2.2.2 hS (by unfold vp_in; decide) rfl dJ1_indexOfChar_4cfef_16 ?_
  refine lv_iload hx hb dJ1_indexOfChar_4cfef_17 (lv_at hl 1 rfl) ?_
  refine lv_icmp_ne (tgt := 25) hx hb dJ1_indexOfChar_4cfef_19 (by decide) (fun c_19 => ?_) (fun c_19 => ?_)
  · refine lv_iinc (v := 1) (lv' := [(5, .int 1), (4, .int ch.toInt8.toInt32), (0, .ref (sv 3)), (1, .int ch), (2, .int 0), (3, .int 6)]) hx hb dJ1_indexOfChar_4cfef_25 hl (k := 0) rfl (by decide) (by decide) rfl (fun ls hl => ?_)
    refine lv_goto (tgt := 7) hx hb dJ1_indexOfChar_4cfef_28 (by decide) ?_
    refine lv_iload hx hb dJ1_indexOfChar_4cfef_7 (lv_at hl 0 rfl) ?_
    refine lv_iload_n hx hb dJ1_indexOfChar_4cfef_9 rfl (lv_at hl 5 rfl) ?_
    refine lv_icmp_ge (tgt := 31) hx hb dJ1_indexOfChar_4cfef_10 (by decide) (fun c_10 => absurd c_10 (by decide)) (fun _ => ?_)
    refine lv_aload_n hx hb dJ1_indexOfChar_4cfef_13 rfl (lv_at hl 2 rfl) ?_
    refine lv_iload hx hb dJ1_indexOfChar_4cfef_14 (lv_at hl 0 rfl) ?_
    refine va_tb (v := .int 43) hx hb (hEm.2.2.2.2 3 _ rfl).2.2.2 hS (by unfold vp_in; decide) rfl dJ1_indexOfChar_4cfef_16 ?_
    refine lv_iload hx hb dJ1_indexOfChar_4cfef_17 (lv_at hl 1 rfl) ?_
    refine lv_icmp_ne (tgt := 25) hx hb dJ1_indexOfChar_4cfef_19 (by decide) (fun c_19 => ?_) (fun c_19 => ?_)
    · refine lv_iinc (v := 2) (lv' := [(5, .int 2), (4, .int ch.toInt8.toInt32), (0, .ref (sv 3)), (1, .int ch), (2, .int 0), (3, .int 6)]) hx hb dJ1_indexOfChar_4cfef_25 hl (k := 0) rfl (by decide) (by decide) rfl (fun ls hl => ?_)
      refine lv_goto (tgt := 7) hx hb dJ1_indexOfChar_4cfef_28 (by decide) ?_
      refine lv_iload hx hb dJ1_indexOfChar_4cfef_7 (lv_at hl 0 rfl) ?_
      refine lv_iload_n hx hb dJ1_indexOfChar_4cfef_9 rfl (lv_at hl 5 rfl) ?_
      refine lv_icmp_ge (tgt := 31) hx hb dJ1_indexOfChar_4cfef_10 (by decide) (fun c_10 => absurd c_10 (by decide)) (fun _ => ?_)
      refine lv_aload_n hx hb dJ1_indexOfChar_4cfef_13 rfl (lv_at hl 2 rfl) ?_
      refine lv_iload hx hb dJ1_indexOfChar_4cfef_14 (lv_at hl 0 rfl) ?_
      refine va_tb (v := .int 45) hx hb (hEm.2.2.2.2 3 _ rfl).2.2.2 hS (by unfold vp_in; decide) rfl dJ1_indexOfChar_4cfef_16 ?_
      refine lv_iload hx hb dJ1_indexOfChar_4cfef_17 (lv_at hl 1 rfl) ?_
      refine lv_icmp_ne (tgt := 25) hx hb dJ1_indexOfChar_4cfef_19 (by decide) (fun c_19 => ?_) (fun c_19 => ?_)
      · refine lv_iinc (v := 3) (lv' := [(5, .int 3), (4, .int ch.toInt8.toInt32), (0, .ref (sv 3)), (1, .int ch), (2, .int 0), (3, .int 6)]) hx hb dJ1_indexOfChar_4cfef_25 hl (k := 0) rfl (by decide) (by decide) rfl (fun ls hl => ?_)
        refine lv_goto (tgt := 7) hx hb dJ1_indexOfChar_4cfef_28 (by decide) ?_
        refine lv_iload hx hb dJ1_indexOfChar_4cfef_7 (lv_at hl 0 rfl) ?_
        refine lv_iload_n hx hb dJ1_indexOfChar_4cfef_9 rfl (lv_at hl 5 rfl) ?_
        refine lv_icmp_ge (tgt := 31) hx hb dJ1_indexOfChar_4cfef_10 (by decide) (fun c_10 => absurd c_10 (by decide)) (fun _ => ?_)
        refine lv_aload_n hx hb dJ1_indexOfChar_4cfef_13 rfl (lv_at hl 2 rfl) ?_
        refine lv_iload hx hb dJ1_indexOfChar_4cfef_14 (lv_at hl 0 rfl) ?_
        refine va_tb (v := .int 42) hx hb (hEm.2.2.2.2 3 _ rfl).2.2.2 hS (by unfold vp_in; decide) rfl dJ1_indexOfChar_4cfef_16 ?_
        refine lv_iload hx hb dJ1_indexOfChar_4cfef_17 (lv_at hl 1 rfl) ?_
        refine lv_icmp_ne (tgt := 25) hx hb dJ1_indexOfChar_4cfef_19 (by decide) (fun c_19 => ?_) (fun c_19 => ?_)
        · refine lv_iinc (v := 4) (lv' := [(5, .int 4), (4, .int ch.toInt8.toInt32), (0, .ref (sv 3)), (1, .int ch), (2, .int 0), (3, .int 6)]) hx hb dJ1_indexOfChar_4cfef_25 hl (k := 0) rfl (by decide) (by decide) rfl (fun ls hl => ?_)
          refine lv_goto (tgt := 7) hx hb dJ1_indexOfChar_4cfef_28 (by decide) ?_
          refine lv_iload hx hb dJ1_indexOfChar_4cfef_7 (lv_at hl 0 rfl) ?_
          refine lv_iload_n hx hb dJ1_indexOfChar_4cfef_9 rfl (lv_at hl 5 rfl) ?_
          refine lv_icmp_ge (tgt := 31) hx hb dJ1_indexOfChar_4cfef_10 (by decide) (fun c_10 => absurd c_10 (by decide)) (fun _ => ?_)
          refine lv_aload_n hx hb dJ1_indexOfChar_4cfef_13 rfl (lv_at hl 2 rfl) ?_
          refine lv_iload hx hb dJ1_indexOfChar_4cfef_14 (lv_at hl 0 rfl) ?_
          refine va_tb (v := .int 108) hx hb (hEm.2.2.2.2 3 _ rfl).2.2.2 hS (by unfold vp_in; decide) rfl dJ1_indexOfChar_4cfef_16 ?_
          refine lv_iload hx hb dJ1_indexOfChar_4cfef_17 (lv_at hl 1 rfl) ?_
          refine lv_icmp_ne (tgt := 25) hx hb dJ1_indexOfChar_4cfef_19 (by decide) (fun c_19 => ?_) (fun c_19 => ?_)
          · refine lv_iinc (v := 5) (lv' := [(5, .int 5), (4, .int ch.toInt8.toInt32), (0, .ref (sv 3)), (1, .int ch), (2, .int 0), (3, .int 6)]) hx hb dJ1_indexOfChar_4cfef_25 hl (k := 0) rfl (by decide) (by decide) rfl (fun ls hl => ?_)
            refine lv_goto (tgt := 7) hx hb dJ1_indexOfChar_4cfef_28 (by decide) ?_
            refine lv_iload hx hb dJ1_indexOfChar_4cfef_7 (lv_at hl 0 rfl) ?_
            refine lv_iload_n hx hb dJ1_indexOfChar_4cfef_9 rfl (lv_at hl 5 rfl) ?_
            refine lv_icmp_ge (tgt := 31) hx hb dJ1_indexOfChar_4cfef_10 (by decide) (fun c_10 => absurd c_10 (by decide)) (fun _ => ?_)
            refine lv_aload_n hx hb dJ1_indexOfChar_4cfef_13 rfl (lv_at hl 2 rfl) ?_
            refine lv_iload hx hb dJ1_indexOfChar_4cfef_14 (lv_at hl 0 rfl) ?_
            refine va_tb (v := .int 115) hx hb (hEm.2.2.2.2 3 _ rfl).2.2.2 hS (by unfold vp_in; decide) rfl dJ1_indexOfChar_4cfef_16 ?_
            refine lv_iload hx hb dJ1_indexOfChar_4cfef_17 (lv_at hl 1 rfl) ?_
            refine lv_icmp_ne (tgt := 25) hx hb dJ1_indexOfChar_4cfef_19 (by decide) (fun c_19 => ?_) (fun c_19 => ?_)
            · refine lv_iinc (v := 6) (lv' := [(5, .int 6), (4, .int ch.toInt8.toInt32), (0, .ref (sv 3)), (1, .int ch), (2, .int 0), (3, .int 6)]) hx hb dJ1_indexOfChar_4cfef_25 hl (k := 0) rfl (by decide) (by decide) rfl (fun ls hl => ?_)
              refine lv_goto (tgt := 7) hx hb dJ1_indexOfChar_4cfef_28 (by decide) ?_
              refine lv_iload hx hb dJ1_indexOfChar_4cfef_7 (lv_at hl 0 rfl) ?_
              refine lv_iload_n hx hb dJ1_indexOfChar_4cfef_9 rfl (lv_at hl 5 rfl) ?_
              refine lv_icmp_ge (tgt := 31) hx hb dJ1_indexOfChar_4cfef_10 (by decide) (fun _ => ?_) (fun c_10 => absurd (by decide) c_10)
              refine lv_iconst (v := (-1)) hx hb dJ1_indexOfChar_4cfef_31 (by decide) ?_
              exact z_reti () hx hb hr rfl hlocks hK ((by simp [ixg, *])) hP hD hS (Nat.le_of_ble_eq_true rfl) (Nat.le_of_ble_eq_true rfl) dJ1_indexOfChar_4cfef_32
            · refine lv_iload hx hb dJ1_indexOfChar_4cfef_22 (lv_at hl 0 rfl) ?_
              exact z_reti () hx hb hr rfl hlocks hK ((by simp [ixg, *])) hP hD hS (Nat.le_of_ble_eq_true rfl) (Nat.le_of_ble_eq_true rfl) dJ1_indexOfChar_4cfef_24
          · refine lv_iload hx hb dJ1_indexOfChar_4cfef_22 (lv_at hl 0 rfl) ?_
            exact z_reti () hx hb hr rfl hlocks hK ((by simp [ixg, *])) hP hD hS (Nat.le_of_ble_eq_true rfl) (Nat.le_of_ble_eq_true rfl) dJ1_indexOfChar_4cfef_24
        · refine lv_iload hx hb dJ1_indexOfChar_4cfef_22 (lv_at hl 0 rfl) ?_
          exact z_reti () hx hb hr rfl hlocks hK ((by simp [ixg, *])) hP hD hS (Nat.le_of_ble_eq_true rfl) (Nat.le_of_ble_eq_true rfl) dJ1_indexOfChar_4cfef_24
      · refine lv_iload hx hb dJ1_indexOfChar_4cfef_22 (lv_at hl 0 rfl) ?_
        exact z_reti () hx hb hr rfl hlocks hK ((by simp [ixg, *])) hP hD hS (Nat.le_of_ble_eq_true rfl) (Nat.le_of_ble_eq_true rfl) dJ1_indexOfChar_4cfef_24
    · refine lv_iload hx hb dJ1_indexOfChar_4cfef_22 (lv_at hl 0 rfl) ?_
      exact z_reti () hx hb hr rfl hlocks hK ((by simp [ixg, *])) hP hD hS (Nat.le_of_ble_eq_true rfl) (Nat.le_of_ble_eq_true rfl) dJ1_indexOfChar_4cfef_24
  · refine lv_iload hx hb dJ1_indexOfChar_4cfef_22 (lv_at hl 0 rfl) ?_
    exact z_reti () hx hb hr rfl hlocks hK ((by simp [ixg, *])) hP hD hS (Nat.le_of_ble_eq_true rfl) (Nat.le_of_ble_eq_true rfl) dJ1_indexOfChar_4cfef_24
set_option maxHeartbeats 4000000 in
set_option maxRecDepth 100000 in
theorem k_ixgs4 (l : Launch) (D : va_G) (cy : Nat → ClassId) (sa : Nat → Nat) (sv : Nat → Nat) (dc : Nat) (sz : Nat) (ch : Int32) : Met l yJ1_indexOfChar_4cfef (Cond.code yJ1_indexOfChar_4cfef cJ1_indexOfChar_4cfef 6 (some .int) :: ALL) ({ frames := 0, cells := 0, slots := 0, locals := 0 }) (zPc D vwCl (TY cy) (EM sa sv dc) [.ref (sv 4), .int ch, .int 0, .int 3] [] sz) (va_Qi (fun r _ => r = ixg [105, 98, 99] ch.toInt8.toInt32 0) (zB D vwCl (TY cy) (S := Unit) (fun u => []) (va_A [] sz)) (va_A [] sz)) 0 0 (va_A [] sz) := by
  refine z_start (Qc := fun A => va_Qi (fun r _ => r = ixg [105, 98, 99] ch.toInt8.toInt32 0) (zB D vwCl (TY cy) (S := Unit) (fun u => []) A) A) PN_RJ1 (Nat.le_of_ble_eq_true rfl) ?_
  intro p e s m below meth c A ls hx hb hr hml hts hown hlocks hin hA hP hK hD hS hEn hl
  have hown : s.vm.findClass RJ1 = some m.cls := hown
  have hEm := hEn
  have hEn := hEn.1
  have hl : lv_has ls 6 [(0, .ref (sv 4)), (1, .int ch), (2, .int 0), (3, .int 3)] := hl
  have hS0 := hS
  refine lv_iload_n hx hb dJ1_indexOfChar_4cfef_0 rfl (lv_at hl 1 rfl) ?_
  refine lv_i2b hx hb dJ1_indexOfChar_4cfef_1 rfl ?_
  refine lv_istore (lv' := [(4, .int ch.toInt8.toInt32), (0, .ref (sv 4)), (1, .int ch), (2, .int 0), (3, .int 3)]) hx hb dJ1_indexOfChar_4cfef_2 hl (by decide) rfl (fun ls hl => ?_)
  refine lv_iload_n hx hb dJ1_indexOfChar_4cfef_4 rfl (lv_at hl 3 rfl) ?_
  refine lv_istore (lv' := [(5, .int 0), (4, .int ch.toInt8.toInt32), (0, .ref (sv 4)), (1, .int ch), (2, .int 0), (3, .int 3)]) hx hb dJ1_indexOfChar_4cfef_5 hl (by decide) rfl (fun ls hl => ?_)
  refine lv_iload hx hb dJ1_indexOfChar_4cfef_7 (lv_at hl 0 rfl) ?_
  refine lv_iload_n hx hb dJ1_indexOfChar_4cfef_9 rfl (lv_at hl 5 rfl) ?_
  refine lv_icmp_ge (tgt := 31) hx hb dJ1_indexOfChar_4cfef_10 (by decide) (fun c_10 => absurd c_10 (by decide)) (fun _ => ?_)
  refine lv_aload_n hx hb dJ1_indexOfChar_4cfef_13 rfl (lv_at hl 2 rfl) ?_
  refine lv_iload hx hb dJ1_indexOfChar_4cfef_14 (lv_at hl 0 rfl) ?_
  refine va_tb (v := .int 105) hx hb (hEm.2.2.2.2 4 _ rfl).2.2.2 hS (by unfold vp_in; decide) rfl dJ1_indexOfChar_4cfef_16 ?_
  refine lv_iload hx hb dJ1_indexOfChar_4cfef_17 (lv_at hl 1 rfl) ?_
  refine lv_icmp_ne (tgt := 25) hx hb dJ1_indexOfChar_4cfef_19 (by decide) (fun c_19 => ?_) (fun c_19 => ?_)
  · refine lv_iinc (v := 1) (lv' := [(5, .int 1), (4, .int ch.toInt8.toInt32), (0, .ref (sv 4)), (1, .int ch), (2, .int 0), (3, .int 3)]) hx hb dJ1_indexOfChar_4cfef_25 hl (k := 0) rfl (by decide) (by decide) rfl (fun ls hl => ?_)
    refine lv_goto (tgt := 7) hx hb dJ1_indexOfChar_4cfef_28 (by decide) ?_
    refine lv_iload hx hb dJ1_indexOfChar_4cfef_7 (lv_at hl 0 rfl) ?_
    refine lv_iload_n hx hb dJ1_indexOfChar_4cfef_9 rfl (lv_at hl 5 rfl) ?_
    refine lv_icmp_ge (tgt := 31) hx hb dJ1_indexOfChar_4cfef_10 (by decide) (fun c_10 => absurd c_10 (by decide)) (fun _ => ?_)
    refine lv_aload_n hx hb dJ1_indexOfChar_4cfef_13 rfl (lv_at hl 2 rfl) ?_
    refine lv_iload hx hb dJ1_indexOfChar_4cfef_14 (lv_at hl 0 rfl) ?_
    refine va_tb (v := .int 98) hx hb (hEm.2.2.2.2 4 _ rfl).2.2.2 hS (by unfold vp_in; decide) rfl dJ1_indexOfChar_4cfef_16 ?_
    refine lv_iload hx hb dJ1_indexOfChar_4cfef_17 (lv_at hl 1 rfl) ?_
    refine lv_icmp_ne (tgt := 25) hx hb dJ1_indexOfChar_4cfef_19 (by decide) (fun c_19 => ?_) (fun c_19 => ?_)
    · refine lv_iinc (v := 2) (lv' := [(5, .int 2), (4, .int ch.toInt8.toInt32), (0, .ref (sv 4)), (1, .int ch), (2, .int 0), (3, .int 3)]) hx hb dJ1_indexOfChar_4cfef_25 hl (k := 0) rfl (by decide) (by decide) rfl (fun ls hl => ?_)
      refine lv_goto (tgt := 7) hx hb dJ1_indexOfChar_4cfef_28 (by decide) ?_
      refine lv_iload hx hb dJ1_indexOfChar_4cfef_7 (lv_at hl 0 rfl) ?_
      refine lv_iload_n hx hb dJ1_indexOfChar_4cfef_9 rfl (lv_at hl 5 rfl) ?_
      refine lv_icmp_ge (tgt := 31) hx hb dJ1_indexOfChar_4cfef_10 (by decide) (fun c_10 => absurd c_10 (by decide)) (fun _ => ?_)
      refine lv_aload_n hx hb dJ1_indexOfChar_4cfef_13 rfl (lv_at hl 2 rfl) ?_
      refine lv_iload hx hb dJ1_indexOfChar_4cfef_14 (lv_at hl 0 rfl) ?_
      refine va_tb (v := .int 99) hx hb (hEm.2.2.2.2 4 _ rfl).2.2.2 hS (by unfold vp_in; decide) rfl dJ1_indexOfChar_4cfef_16 ?_
      refine lv_iload hx hb dJ1_indexOfChar_4cfef_17 (lv_at hl 1 rfl) ?_
      refine lv_icmp_ne (tgt := 25) hx hb dJ1_indexOfChar_4cfef_19 (by decide) (fun c_19 => ?_) (fun c_19 => ?_)
      · refine lv_iinc (v := 3) (lv' := [(5, .int 3), (4, .int ch.toInt8.toInt32), (0, .ref (sv 4)), (1, .int ch), (2, .int 0), (3, .int 3)]) hx hb dJ1_indexOfChar_4cfef_25 hl (k := 0) rfl (by decide) (by decide) rfl (fun ls hl => ?_)
        refine lv_goto (tgt := 7) hx hb dJ1_indexOfChar_4cfef_28 (by decide) ?_
        refine lv_iload hx hb dJ1_indexOfChar_4cfef_7 (lv_at hl 0 rfl) ?_
        refine lv_iload_n hx hb dJ1_indexOfChar_4cfef_9 rfl (lv_at hl 5 rfl) ?_
        refine lv_icmp_ge (tgt := 31) hx hb dJ1_indexOfChar_4cfef_10 (by decide) (fun _ => ?_) (fun c_10 => absurd (by decide) c_10)
        refine lv_iconst (v := (-1)) hx hb dJ1_indexOfChar_4cfef_31 (by decide) ?_
        exact z_reti () hx hb hr rfl hlocks hK ((by simp [ixg, *])) hP hD hS (Nat.le_of_ble_eq_true rfl) (Nat.le_of_ble_eq_true rfl) dJ1_indexOfChar_4cfef_32
      · refine lv_iload hx hb dJ1_indexOfChar_4cfef_22 (lv_at hl 0 rfl) ?_
        exact z_reti () hx hb hr rfl hlocks hK ((by simp [ixg, *])) hP hD hS (Nat.le_of_ble_eq_true rfl) (Nat.le_of_ble_eq_true rfl) dJ1_indexOfChar_4cfef_24
    · refine lv_iload hx hb dJ1_indexOfChar_4cfef_22 (lv_at hl 0 rfl) ?_
      exact z_reti () hx hb hr rfl hlocks hK ((by simp [ixg, *])) hP hD hS (Nat.le_of_ble_eq_true rfl) (Nat.le_of_ble_eq_true rfl) dJ1_indexOfChar_4cfef_24
  · refine lv_iload hx hb dJ1_indexOfChar_4cfef_22 (lv_at hl 0 rfl) ?_
    exact z_reti () hx hb hr rfl hlocks hK ((by simp [ixg, *])) hP hD hS (Nat.le_of_ble_eq_true rfl) (Nat.le_of_ble_eq_true rfl) dJ1_indexOfChar_4cfef_24
set_option maxHeartbeats 4000000 in
set_option maxRecDepth 100000 in
theorem k_ixLs1 (l : Launch) (D : va_G) (cy : Nat → ClassId) (sa : Nat → Nat) (sv : Nat → Nat) (dc : Nat) (sz : Nat) (ch : Int32) : Met l yJ1_indexOf_4cfef (Cond.code yJ1_indexOf_4cfef cJ1_indexOf_4cfef 4 (some .int) :: ALL) ({ frames := 2, cells := 0, slots := 0, locals := 25 }) (zPc D vwCl (TY cy) (EM sa sv dc) [.ref (sv 1), .int ch, .int 0, .int 16] [] sz) (va_Qi (fun r _ => r = ixf [110, 99, 109, 43, 45, 42, 108, 103, 115, 112, 106, 107, 101, 120, 114, 104] ch) (zB D vwCl (TY cy) (S := Unit) (fun u => []) (va_A [] sz)) (va_A [] sz)) 0 0 (va_A [] sz) := by
  refine z_start (Qc := fun A => va_Qi (fun r _ => r = ixf [110, 99, 109, 43, 45, 42, 108, 103, 115, 112, 106, 107, 101, 120, 114, 104] ch) (zB D vwCl (TY cy) (S := Unit) (fun u => []) A) A) PN_RJ1 (Nat.le_of_ble_eq_true rfl) ?_
  intro p e s m below meth c A ls hx hb hr hml hts hown hlocks hin hA hP hK hD hS hEn hl
  have hown : s.vm.findClass RJ1 = some m.cls := hown
  have hEm := hEn
  have hEn := hEn.1
  have hl : lv_has ls 4 [(0, .ref (sv 1)), (1, .int ch), (2, .int 0), (3, .int 16)] := hl
  have hS0 := hS
  refine lv_iload_n hx hb dJ1_indexOf_4cfef_0 rfl (lv_at hl 1 rfl) ?_
  refine z_calli (va_runS (As := [.int ch]) (rest := []) ⟨hx, hb, hml, hown, hts⟩ (k_canE l D cy sa sv dc _ ch) (va_cwS 1 hts GS_RJ1_88 rfl rfl rfl HD_yJ1_canEncode_9a6ad ⟨Nat.le_of_ble_eq_true rfl, Nat.le_of_ble_eq_true rfl⟩) ⟨z_blind EM_ok, z_pre EM_ok hP hK hD hEm hS (z_free hD hS hA)⟩ rfl rfl hl.1 rfl (lv_room (Nat.le_of_ble_eq_true rfl)) dJ1_indexOf_4cfef_1 ⟨Nat.le_of_ble_eq_true rfl, Nat.le_of_ble_eq_true rfl⟩) hD hS hA (fun r_1 u1 H locs hw_1 hP hD hS => ?_)
  have hP : va_P D vwCl [] H := hP
  have hD : va_D A [] := hD
  obtain rfl := hw_1
  refine lv_if_ne (tgt := 9) hx hb dJ1_indexOf_4cfef_4 (by decide) (fun c_4 => ?_) (fun c_4 => ?_)
  · refine lv_iload_n hx hb dJ1_indexOf_4cfef_9 rfl (lv_at hl 2 rfl) ?_
    refine lv_iconst (v := 0) hx hb dJ1_indexOf_4cfef_10 (by decide) ?_
    refine va_mmax hx hb (hml.trans hl.1.symm) hown (hts _ K2172) (hts _ K144) (hts _ K80) (hts _ K145) (Nat.le_of_ble_eq_true rfl) (Nat.le_of_ble_eq_true rfl) (Nat.le_of_ble_eq_true rfl) (Nat.le_of_ble_eq_true rfl) dJ1_indexOf_4cfef_11 ?_
    refine lv_topi (fun v_1 hv_1 => ?_)
    obtain rfl : v_1 = 0 := hv_1.trans (by decide)
    refine lv_istore_n (lv' := [(2, .int 0), (0, .ref (sv 1)), (1, .int ch), (3, .int 16)]) hx hb dJ1_indexOf_4cfef_14 rfl hl (by decide) rfl (fun ls hl => ?_)
    refine lv_iload_n hx hb dJ1_indexOf_4cfef_15 rfl (lv_at hl 3 rfl) ?_
    refine lv_aload_n hx hb dJ1_indexOf_4cfef_16 rfl (lv_at hl 1 rfl) ?_
    refine va_tlen (v := 16) hx hb (hEm.2.2.2.2 1 _ rfl).2.2.2 hS rfl dJ1_indexOf_4cfef_17 ?_
    refine va_mmin hx hb (hml.trans hl.1.symm) hown (hts _ K2173) (hts _ K1398) (hts _ K80) (hts _ K1399) (Nat.le_of_ble_eq_true rfl) (Nat.le_of_ble_eq_true rfl) (Nat.le_of_ble_eq_true rfl) (Nat.le_of_ble_eq_true rfl) dJ1_indexOf_4cfef_18 ?_
    refine lv_topi (fun v_2 hv_2 => ?_)
    obtain rfl : v_2 = 16 := hv_2.trans (by decide)
    refine lv_istore_n (lv' := [(3, .int 16), (2, .int 0), (0, .ref (sv 1)), (1, .int ch)]) hx hb dJ1_indexOf_4cfef_21 rfl hl (by decide) rfl (fun ls hl => ?_)
    refine lv_iload_n hx hb dJ1_indexOf_4cfef_22 rfl (lv_at hl 1 rfl) ?_
    refine lv_iload_n hx hb dJ1_indexOf_4cfef_23 rfl (lv_at hl 0 rfl) ?_
    refine lv_icmp_lt (tgt := 29) hx hb dJ1_indexOf_4cfef_24 (by decide) (fun _ => ?_) (fun c_24 => absurd (by decide) c_24)
    refine lv_aload_n hx hb dJ1_indexOf_4cfef_29 rfl (lv_at hl 2 rfl) ?_
    refine lv_iload_n hx hb dJ1_indexOf_4cfef_30 rfl (lv_at hl 3 rfl) ?_
    refine lv_iload_n hx hb dJ1_indexOf_4cfef_31 rfl (lv_at hl 1 rfl) ?_
    refine lv_iload_n hx hb dJ1_indexOf_4cfef_32 rfl (lv_at hl 0 rfl) ?_
    refine z_calli (va_runS (As := [.ref (sv 1), .int ch, .int 0, .int 16]) (rest := []) ⟨hx, hb, hml, hown, hts⟩ (k_ixgs1 l D cy sa sv dc _ ch) (va_cwS 4 hts GS_RJ1_95 rfl rfl rfl HD_yJ1_indexOfChar_4cfef ⟨Nat.le_of_ble_eq_true rfl, Nat.le_of_ble_eq_true rfl⟩) ⟨z_blind EM_ok, z_pre EM_ok hP hK hD hEm hS (z_free hD hS hA)⟩ rfl rfl hl.1 rfl (lv_room (Nat.le_of_ble_eq_true rfl)) dJ1_indexOf_4cfef_33 ⟨Nat.le_of_ble_eq_true rfl, Nat.le_of_ble_eq_true rfl⟩) hD hS hA (fun r_33 u33 H locs hw_33 hP hD hS => ?_)
    have hP : va_P D vwCl [] H := hP
    have hD : va_D A [] := hD
    obtain rfl := hw_33
    exact z_reti () hx hb hr rfl hlocks hK ((ixf_T c_4)) hP hD hS (Nat.le_of_ble_eq_true rfl) (Nat.le_of_ble_eq_true rfl) dJ1_indexOf_4cfef_36
  · refine lv_iconst (v := (-1)) hx hb dJ1_indexOf_4cfef_7 (by decide) ?_
    exact z_reti () hx hb hr rfl hlocks hK ((ixf_F c_4)) hP hD hS (Nat.le_of_ble_eq_true rfl) (Nat.le_of_ble_eq_true rfl) dJ1_indexOf_4cfef_8
set_option maxHeartbeats 4000000 in
set_option maxRecDepth 100000 in
theorem k_ixLs2 (l : Launch) (D : va_G) (cy : Nat → ClassId) (sa : Nat → Nat) (sv : Nat → Nat) (dc : Nat) (sz : Nat) (ch : Int32) : Met l yJ1_indexOf_4cfef (Cond.code yJ1_indexOf_4cfef cJ1_indexOf_4cfef 4 (some .int) :: ALL) ({ frames := 2, cells := 0, slots := 0, locals := 25 }) (zPc D vwCl (TY cy) (EM sa sv dc) [.ref (sv 2), .int ch, .int 0, .int 10] [] sz) (va_Qi (fun r _ => r = ixf [99, 109, 43, 45, 42, 108, 103, 115, 112, 106] ch) (zB D vwCl (TY cy) (S := Unit) (fun u => []) (va_A [] sz)) (va_A [] sz)) 0 0 (va_A [] sz) := by
  refine z_start (Qc := fun A => va_Qi (fun r _ => r = ixf [99, 109, 43, 45, 42, 108, 103, 115, 112, 106] ch) (zB D vwCl (TY cy) (S := Unit) (fun u => []) A) A) PN_RJ1 (Nat.le_of_ble_eq_true rfl) ?_
  intro p e s m below meth c A ls hx hb hr hml hts hown hlocks hin hA hP hK hD hS hEn hl
  have hown : s.vm.findClass RJ1 = some m.cls := hown
  have hEm := hEn
  have hEn := hEn.1
  have hl : lv_has ls 4 [(0, .ref (sv 2)), (1, .int ch), (2, .int 0), (3, .int 10)] := hl
  have hS0 := hS
  refine lv_iload_n hx hb dJ1_indexOf_4cfef_0 rfl (lv_at hl 1 rfl) ?_
  refine z_calli (va_runS (As := [.int ch]) (rest := []) ⟨hx, hb, hml, hown, hts⟩ (k_canE l D cy sa sv dc _ ch) (va_cwS 1 hts GS_RJ1_88 rfl rfl rfl HD_yJ1_canEncode_9a6ad ⟨Nat.le_of_ble_eq_true rfl, Nat.le_of_ble_eq_true rfl⟩) ⟨z_blind EM_ok, z_pre EM_ok hP hK hD hEm hS (z_free hD hS hA)⟩ rfl rfl hl.1 rfl (lv_room (Nat.le_of_ble_eq_true rfl)) dJ1_indexOf_4cfef_1 ⟨Nat.le_of_ble_eq_true rfl, Nat.le_of_ble_eq_true rfl⟩) hD hS hA (fun r_1 u1 H locs hw_1 hP hD hS => ?_)
  have hP : va_P D vwCl [] H := hP
  have hD : va_D A [] := hD
  obtain rfl := hw_1
  refine lv_if_ne (tgt := 9) hx hb dJ1_indexOf_4cfef_4 (by decide) (fun c_4 => ?_) (fun c_4 => ?_)
  · refine lv_iload_n hx hb dJ1_indexOf_4cfef_9 rfl (lv_at hl 2 rfl) ?_
    refine lv_iconst (v := 0) hx hb dJ1_indexOf_4cfef_10 (by decide) ?_
    refine va_mmax hx hb (hml.trans hl.1.symm) hown (hts _ K2172) (hts _ K144) (hts _ K80) (hts _ K145) (Nat.le_of_ble_eq_true rfl) (Nat.le_of_ble_eq_true rfl) (Nat.le_of_ble_eq_true rfl) (Nat.le_of_ble_eq_true rfl) dJ1_indexOf_4cfef_11 ?_
    refine lv_topi (fun v_1 hv_1 => ?_)
    obtain rfl : v_1 = 0 := hv_1.trans (by decide)
    refine lv_istore_n (lv' := [(2, .int 0), (0, .ref (sv 2)), (1, .int ch), (3, .int 10)]) hx hb dJ1_indexOf_4cfef_14 rfl hl (by decide) rfl (fun ls hl => ?_)
    refine lv_iload_n hx hb dJ1_indexOf_4cfef_15 rfl (lv_at hl 3 rfl) ?_
    refine lv_aload_n hx hb dJ1_indexOf_4cfef_16 rfl (lv_at hl 1 rfl) ?_
    refine va_tlen (v := 10) hx hb (hEm.2.2.2.2 2 _ rfl).2.2.2 hS rfl dJ1_indexOf_4cfef_17 ?_
    refine va_mmin hx hb (hml.trans hl.1.symm) hown (hts _ K2173) (hts _ K1398) (hts _ K80) (hts _ K1399) (Nat.le_of_ble_eq_true rfl) (Nat.le_of_ble_eq_true rfl) (Nat.le_of_ble_eq_true rfl) (Nat.le_of_ble_eq_true rfl) dJ1_indexOf_4cfef_18 ?_
    refine lv_topi (fun v_2 hv_2 => ?_)
    obtain rfl : v_2 = 10 := hv_2.trans (by decide)
    refine lv_istore_n (lv' := [(3, .int 10), (2, .int 0), (0, .ref (sv 2)), (1, .int ch)]) hx hb dJ1_indexOf_4cfef_21 rfl hl (by decide) rfl (fun ls hl => ?_)
    refine lv_iload_n hx hb dJ1_indexOf_4cfef_22 rfl (lv_at hl 1 rfl) ?_
    refine lv_iload_n hx hb dJ1_indexOf_4cfef_23 rfl (lv_at hl 0 rfl) ?_
    refine lv_icmp_lt (tgt := 29) hx hb dJ1_indexOf_4cfef_24 (by decide) (fun _ => ?_) (fun c_24 => absurd (by decide) c_24)
    refine lv_aload_n hx hb dJ1_indexOf_4cfef_29 rfl (lv_at hl 2 rfl) ?_
    refine lv_iload_n hx hb dJ1_indexOf_4cfef_30 rfl (lv_at hl 3 rfl) ?_
    refine lv_iload_n hx hb dJ1_indexOf_4cfef_31 rfl (lv_at hl 1 rfl) ?_
    refine lv_iload_n hx hb dJ1_indexOf_4cfef_32 rfl (lv_at hl 0 rfl) ?_
    refine z_calli (va_runS (As := [.ref (sv 2), .int ch, .int 0, .int 10]) (rest := []) ⟨hx, hb, hml, hown, hts⟩ (k_ixgs2 l D cy sa sv dc _ ch) (va_cwS 4 hts GS_RJ1_95 rfl rfl rfl HD_yJ1_indexOfChar_4cfef ⟨Nat.le_of_ble_eq_true rfl, Nat.le_of_ble_eq_true rfl⟩) ⟨z_blind EM_ok, z_pre EM_ok hP hK hD hEm hS (z_free hD hS hA)⟩ rfl rfl hl.1 rfl (lv_room (Nat.le_of_ble_eq_true rfl)) dJ1_indexOf_4cfef_33 ⟨Nat.le_of_ble_eq_true rfl, Nat.le_of_ble_eq_true rfl⟩) hD hS hA (fun r_33 u33 H locs hw_33 hP hD hS => ?_)
    have hP : va_P D vwCl [] H := hP
    have hD : va_D A [] := hD
    obtain rfl := hw_33
    exact z_reti () hx hb hr rfl hlocks hK ((ixf_T c_4)) hP hD hS (Nat.le_of_ble_eq_true rfl) (Nat.le_of_ble_eq_true rfl) dJ1_indexOf_4cfef_36
  · refine lv_iconst (v := (-1)) hx hb dJ1_indexOf_4cfef_7 (by decide) ?_
    exact z_reti () hx hb hr rfl hlocks hK ((ixf_F c_4)) hP hD hS (Nat.le_of_ble_eq_true rfl) (Nat.le_of_ble_eq_true rfl) dJ1_indexOf_4cfef_8
set_option maxHeartbeats 4000000 in
set_option maxRecDepth 100000 in
theorem k_ixLs3 (l : Launch) (D : va_G) (cy : Nat → ClassId) (sa : Nat → Nat) (sv : Nat → Nat) (dc : Nat) (sz : Nat) (ch : Int32) : Met l yJ1_indexOf_4cfef (Cond.code yJ1_indexOf_4cfef cJ1_indexOf_4cfef 4 (some .int) :: ALL) ({ frames := 2, cells := 0, slots := 0, locals := 25 }) (zPc D vwCl (TY cy) (EM sa sv dc) [.ref (sv 3), .int ch, .int 0, .int 6] [] sz) (va_Qi (fun r _ => r = ixf [109, 43, 45, 42, 108, 115] ch) (zB D vwCl (TY cy) (S := Unit) (fun u => []) (va_A [] sz)) (va_A [] sz)) 0 0 (va_A [] sz) := by
  refine z_start (Qc := fun A => va_Qi (fun r _ => r = ixf [109, 43, 45, 42, 108, 115] ch) (zB D vwCl (TY cy) (S := Unit) (fun u => []) A) A) PN_RJ1 (Nat.le_of_ble_eq_true rfl) ?_
  intro p e s m below meth c A ls hx hb hr hml hts hown hlocks hin hA hP hK hD hS hEn hl
  have hown : s.vm.findClass RJ1 = some m.cls := hown
  have hEm := hEn
  have hEn := hEn.1
  have hl : lv_has ls 4 [(0, .ref (sv 3)), (1, .int ch), (2, .int 0), (3, .int 6)] := hl
  have hS0 := hS
  refine lv_iload_n hx hb dJ1_indexOf_4cfef_0 rfl (lv_at hl 1 rfl) ?_
  refine z_calli (va_runS (As := [.int ch]) (rest := []) ⟨hx, hb, hml, hown, hts⟩ (k_canE l D cy sa sv dc _ ch) (va_cwS 1 hts GS_RJ1_88 rfl rfl rfl HD_yJ1_canEncode_9a6ad ⟨Nat.le_of_ble_eq_true rfl, Nat.le_of_ble_eq_true rfl⟩) ⟨z_blind EM_ok, z_pre EM_ok hP hK hD hEm hS (z_free hD hS hA)⟩ rfl rfl hl.1 rfl (lv_room (Nat.le_of_ble_eq_true rfl)) dJ1_indexOf_4cfef_1 ⟨Nat.le_of_ble_eq_true rfl, Nat.le_of_ble_eq_true rfl⟩) hD hS hA (fun r_1 u1 H locs hw_1 hP hD hS => ?_)
  have hP : va_P D vwCl [] H := hP
  have hD : va_D A [] := hD
  obtain rfl := hw_1
  refine lv_if_ne (tgt := 9) hx hb dJ1_indexOf_4cfef_4 (by decide) (fun c_4 => ?_) (fun c_4 => ?_)
  · refine lv_iload_n hx hb dJ1_indexOf_4cfef_9 rfl (lv_at hl 2 rfl) ?_
    refine lv_iconst (v := 0) hx hb dJ1_indexOf_4cfef_10 (by decide) ?_
    refine va_mmax hx hb (hml.trans hl.1.symm) hown (hts _ K2172) (hts _ K144) (hts _ K80) (hts _ K145) (Nat.le_of_ble_eq_true rfl) (Nat.le_of_ble_eq_true rfl) (Nat.le_of_ble_eq_true rfl) (Nat.le_of_ble_eq_true rfl) dJ1_indexOf_4cfef_11 ?_
    refine lv_topi (fun v_1 hv_1 => ?_)
    obtain rfl : v_1 = 0 := hv_1.trans (by decide)
    refine lv_istore_n (lv' := [(2, .int 0), (0, .ref (sv 3)), (1, .int ch), (3, .int 6)]) hx hb dJ1_indexOf_4cfef_14 rfl hl (by decide) rfl (fun ls hl => ?_)
    refine lv_iload_n hx hb dJ1_indexOf_4cfef_15 rfl (lv_at hl 3 rfl) ?_
    refine lv_aload_n hx hb dJ1_indexOf_4cfef_16 rfl (lv_at hl 1 rfl) ?_
    refine va_tlen (v := 6) hx hb (hEm.2.2.2.2 3 _ rfl).2.2.2 hS rfl dJ1_indexOf_4cfef_17 ?_
    refine va_mmin hx hb (hml.trans hl.1.symm) hown (hts _ K2173) (hts _ K1398) (hts _ K80) (hts _ K1399) (Nat.le_of_ble_eq_true rfl) (Nat.le_of_ble_eq_true rfl) (Nat.le_of_ble_eq_true rfl) (Nat.le_of_ble_eq_true rfl) dJ1_indexOf_4cfef_18 ?_
    refine lv_topi (fun v_2 hv_2 => ?_)
    obtain rfl : v_2 = 6 := hv_2.trans (by decide)
    refine lv_istore_n (lv' := [(3, .int 6), (2, .int 0), (0, .ref (sv 3)), (1, .int ch)]) hx hb dJ1_indexOf_4cfef_21 rfl hl (by decide) rfl (fun ls hl => ?_)
    refine lv_iload_n hx hb dJ1_indexOf_4cfef_22 rfl (lv_at hl 1 rfl) ?_
    refine lv_iload_n hx hb dJ1_indexOf_4cfef_23 rfl (lv_at hl 0 rfl) ?_
    refine lv_icmp_lt (tgt := 29) hx hb dJ1_indexOf_4cfef_24 (by decide) (fun _ => ?_) (fun c_24 => absurd (by decide) c_24)
    refine lv_aload_n hx hb dJ1_indexOf_4cfef_29 rfl (lv_at hl 2 rfl) ?_
    refine lv_iload_n hx hb dJ1_indexOf_4cfef_30 rfl (lv_at hl 3 rfl) ?_
    refine lv_iload_n hx hb dJ1_indexOf_4cfef_31 rfl (lv_at hl 1 rfl) ?_
    refine lv_iload_n hx hb dJ1_indexOf_4cfef_32 rfl (lv_at hl 0 rfl) ?_
    refine z_calli (va_runS (As := [.ref (sv 3), .int ch, .int 0, .int 6]) (rest := []) ⟨hx, hb, hml, hown, hts⟩ (k_ixgs3 l D cy sa sv dc _ ch) (va_cwS 4 hts GS_RJ1_95 rfl rfl rfl HD_yJ1_indexOfChar_4cfef ⟨Nat.le_of_ble_eq_true rfl, Nat.le_of_ble_eq_true rfl⟩) ⟨z_blind EM_ok, z_pre EM_ok hP hK hD hEm hS (z_free hD hS hA)⟩ rfl rfl hl.1 rfl (lv_room (Nat.le_of_ble_eq_true rfl)) dJ1_indexOf_4cfef_33 ⟨Nat.le_of_ble_eq_true rfl, Nat.le_of_ble_eq_true rfl⟩) hD hS hA (fun r_33 u33 H locs hw_33 hP hD hS => ?_)
    have hP : va_P D vwCl [] H := hP
    have hD : va_D A [] := hD
    obtain rfl := hw_33
    exact z_reti () hx hb hr rfl hlocks hK ((ixf_T c_4)) hP hD hS (Nat.le_of_ble_eq_true rfl) (Nat.le_of_ble_eq_true rfl) dJ1_indexOf_4cfef_36
  · refine lv_iconst (v := (-1)) hx hb dJ1_indexOf_4cfef_7 (by decide) ?_
    exact z_reti () hx hb hr rfl hlocks hK ((ixf_F c_4)) hP hD hS (Nat.le_of_ble_eq_true rfl) (Nat.le_of_ble_eq_true rfl) dJ1_indexOf_4cfef_8
set_option maxHeartbeats 4000000 in
set_option maxRecDepth 100000 in
theorem k_ixLs4 (l : Launch) (D : va_G) (cy : Nat → ClassId) (sa : Nat → Nat) (sv : Nat → Nat) (dc : Nat) (sz : Nat) (ch : Int32) : Met l yJ1_indexOf_4cfef (Cond.code yJ1_indexOf_4cfef cJ1_indexOf_4cfef 4 (some .int) :: ALL) ({ frames := 2, cells := 0, slots := 0, locals := 25 }) (zPc D vwCl (TY cy) (EM sa sv dc) [.ref (sv 4), .int ch, .int 0, .int 3] [] sz) (va_Qi (fun r _ => r = ixf [105, 98, 99] ch) (zB D vwCl (TY cy) (S := Unit) (fun u => []) (va_A [] sz)) (va_A [] sz)) 0 0 (va_A [] sz) := by
  refine z_start (Qc := fun A => va_Qi (fun r _ => r = ixf [105, 98, 99] ch) (zB D vwCl (TY cy) (S := Unit) (fun u => []) A) A) PN_RJ1 (Nat.le_of_ble_eq_true rfl) ?_
  intro p e s m below meth c A ls hx hb hr hml hts hown hlocks hin hA hP hK hD hS hEn hl
  have hown : s.vm.findClass RJ1 = some m.cls := hown
  have hEm := hEn
  have hEn := hEn.1
  have hl : lv_has ls 4 [(0, .ref (sv 4)), (1, .int ch), (2, .int 0), (3, .int 3)] := hl
  have hS0 := hS
  refine lv_iload_n hx hb dJ1_indexOf_4cfef_0 rfl (lv_at hl 1 rfl) ?_
  refine z_calli (va_runS (As := [.int ch]) (rest := []) ⟨hx, hb, hml, hown, hts⟩ (k_canE l D cy sa sv dc _ ch) (va_cwS 1 hts GS_RJ1_88 rfl rfl rfl HD_yJ1_canEncode_9a6ad ⟨Nat.le_of_ble_eq_true rfl, Nat.le_of_ble_eq_true rfl⟩) ⟨z_blind EM_ok, z_pre EM_ok hP hK hD hEm hS (z_free hD hS hA)⟩ rfl rfl hl.1 rfl (lv_room (Nat.le_of_ble_eq_true rfl)) dJ1_indexOf_4cfef_1 ⟨Nat.le_of_ble_eq_true rfl, Nat.le_of_ble_eq_true rfl⟩) hD hS hA (fun r_1 u1 H locs hw_1 hP hD hS => ?_)
  have hP : va_P D vwCl [] H := hP
  have hD : va_D A [] := hD
  obtain rfl := hw_1
  refine lv_if_ne (tgt := 9) hx hb dJ1_indexOf_4cfef_4 (by decide) (fun c_4 => ?_) (fun c_4 => ?_)
  · refine lv_iload_n hx hb dJ1_indexOf_4cfef_9 rfl (lv_at hl 2 rfl) ?_
    refine lv_iconst (v := 0) hx hb dJ1_indexOf_4cfef_10 (by decide) ?_
    refine va_mmax hx hb (hml.trans hl.1.symm) hown (hts _ K2172) (hts _ K144) (hts _ K80) (hts _ K145) (Nat.le_of_ble_eq_true rfl) (Nat.le_of_ble_eq_true rfl) (Nat.le_of_ble_eq_true rfl) (Nat.le_of_ble_eq_true rfl) dJ1_indexOf_4cfef_11 ?_
    refine lv_topi (fun v_1 hv_1 => ?_)
    obtain rfl : v_1 = 0 := hv_1.trans (by decide)
    refine lv_istore_n (lv' := [(2, .int 0), (0, .ref (sv 4)), (1, .int ch), (3, .int 3)]) hx hb dJ1_indexOf_4cfef_14 rfl hl (by decide) rfl (fun ls hl => ?_)
    refine lv_iload_n hx hb dJ1_indexOf_4cfef_15 rfl (lv_at hl 3 rfl) ?_
    refine lv_aload_n hx hb dJ1_indexOf_4cfef_16 rfl (lv_at hl 1 rfl) ?_
    refine va_tlen (v := 3) hx hb (hEm.2.2.2.2 4 _ rfl).2.2.2 hS rfl dJ1_indexOf_4cfef_17 ?_
    refine va_mmin hx hb (hml.trans hl.1.symm) hown (hts _ K2173) (hts _ K1398) (hts _ K80) (hts _ K1399) (Nat.le_of_ble_eq_true rfl) (Nat.le_of_ble_eq_true rfl) (Nat.le_of_ble_eq_true rfl) (Nat.le_of_ble_eq_true rfl) dJ1_indexOf_4cfef_18 ?_
    refine lv_topi (fun v_2 hv_2 => ?_)
    obtain rfl : v_2 = 3 := hv_2.trans (by decide)
    refine lv_istore_n (lv' := [(3, .int 3), (2, .int 0), (0, .ref (sv 4)), (1, .int ch)]) hx hb dJ1_indexOf_4cfef_21 rfl hl (by decide) rfl (fun ls hl => ?_)
    refine lv_iload_n hx hb dJ1_indexOf_4cfef_22 rfl (lv_at hl 1 rfl) ?_
    refine lv_iload_n hx hb dJ1_indexOf_4cfef_23 rfl (lv_at hl 0 rfl) ?_
    refine lv_icmp_lt (tgt := 29) hx hb dJ1_indexOf_4cfef_24 (by decide) (fun _ => ?_) (fun c_24 => absurd (by decide) c_24)
    refine lv_aload_n hx hb dJ1_indexOf_4cfef_29 rfl (lv_at hl 2 rfl) ?_
    refine lv_iload_n hx hb dJ1_indexOf_4cfef_30 rfl (lv_at hl 3 rfl) ?_
    refine lv_iload_n hx hb dJ1_indexOf_4cfef_31 rfl (lv_at hl 1 rfl) ?_
    refine lv_iload_n hx hb dJ1_indexOf_4cfef_32 rfl (lv_at hl 0 rfl) ?_
    refine z_calli (va_runS (As := [.ref (sv 4), .int ch, .int 0, .int 3]) (rest := []) ⟨hx, hb, hml, hown, hts⟩ (k_ixgs4 l D cy sa sv dc _ ch) (va_cwS 4 hts GS_RJ1_95 rfl rfl rfl HD_yJ1_indexOfChar_4cfef ⟨Nat.le_of_ble_eq_true rfl, Nat.le_of_ble_eq_true rfl⟩) ⟨z_blind EM_ok, z_pre EM_ok hP hK hD hEm hS (z_free hD hS hA)⟩ rfl rfl hl.1 rfl (lv_room (Nat.le_of_ble_eq_true rfl)) dJ1_indexOf_4cfef_33 ⟨Nat.le_of_ble_eq_true rfl, Nat.le_of_ble_eq_true rfl⟩) hD hS hA (fun r_33 u33 H locs hw_33 hP hD hS => ?_)
    have hP : va_P D vwCl [] H := hP
    have hD : va_D A [] := hD
    obtain rfl := hw_33
    exact z_reti () hx hb hr rfl hlocks hK ((ixf_T c_4)) hP hD hS (Nat.le_of_ble_eq_true rfl) (Nat.le_of_ble_eq_true rfl) dJ1_indexOf_4cfef_36
  · refine lv_iconst (v := (-1)) hx hb dJ1_indexOf_4cfef_7 (by decide) ?_
    exact z_reti () hx hb hr rfl hlocks hK ((ixf_F c_4)) hP hD hS (Nat.le_of_ble_eq_true rfl) (Nat.le_of_ble_eq_true rfl) dJ1_indexOf_4cfef_8
set_option maxHeartbeats 4000000 in
set_option maxRecDepth 100000 in
theorem k_ix2s1 (l : Launch) (D : va_G) (cy : Nat → ClassId) (sa : Nat → Nat) (sv : Nat → Nat) (dc : Nat) (sz : Nat) (ch : Int32) : Met l yJ0_indexOf_7cf53 (Cond.code yJ0_indexOf_7cf53 cJ0_indexOf_7cf53 3 (some .int) :: ALL) ({ frames := 3, cells := 0, slots := 0, locals := 48 }) (zPc D vwCl (TY cy) (EM sa sv dc) [.ref (sa 52), .int ch, .int 0] [] sz) (va_Qi (fun r _ => r = ixf [110, 99, 109, 43, 45, 42, 108, 103, 115, 112, 106, 107, 101, 120, 114, 104] ch) (zB D vwCl (TY cy) (S := Unit) (fun u => []) (va_A [] sz)) (va_A [] sz)) 0 0 (va_A [] sz) := by
  refine z_start (Qc := fun A => va_Qi (fun r _ => r = ixf [110, 99, 109, 43, 45, 42, 108, 103, 115, 112, 106, 107, 101, 120, 114, 104] ch) (zB D vwCl (TY cy) (S := Unit) (fun u => []) A) A) PN_RJ0 (Nat.le_of_ble_eq_true rfl) ?_
  intro p e s m below meth c A ls hx hb hr hml hts hown hlocks hin hA hP hK hD hS hEn hl
  have hown : s.vm.findClass RJ0 = some m.cls := hown
  have hEm := hEn
  have hEn := hEn.1
  have hl : lv_has ls 3 [(0, .ref (sa 52)), (1, .int ch), (2, .int 0)] := hl
  have hS0 := hS
  refine lv_aload_n hx hb dJ0_indexOf_7cf53_0 rfl (lv_at hl 0 rfl) ?_
  refine z_calli (va_runV (As := []) (rest := []) ⟨hx, hb, hml, hown, hts⟩ (k_isL1s1 l D cy sa sv dc _) (cwV 0 hts GV_RJ0_492 rfl rfl rfl ⟨rfl, HD_yJ0_isLatin1_aae02⟩ ⟨Nat.le_of_ble_eq_true rfl, Nat.le_of_ble_eq_true rfl⟩) ⟨z_blind EM_ok, recvS (hEm.2.2.2.2 1 _ rfl).1 hS, z_pre EM_ok hP hK hD hEm hS (z_free hD hS hA)⟩ rfl rfl hl.1 rfl (lv_room (Nat.le_of_ble_eq_true rfl)) dJ0_indexOf_7cf53_1 ⟨Nat.le_of_ble_eq_true rfl, Nat.le_of_ble_eq_true rfl⟩) hD hS hA (fun r_1 u1 H locs hw_1 hP hD hS => ?_)
  have hP : va_P D vwCl [] H := hP
  have hD : va_D A [] := hD
  obtain rfl := hw_1
  refine lv_if_eq (tgt := 23) hx hb dJ0_indexOf_7cf53_4 (by decide) (fun c_4 => absurd c_4 (by decide)) (fun _ => ?_)
  refine lv_aload_n hx hb dJ0_indexOf_7cf53_7 rfl (lv_at hl 0 rfl) ?_
  refine va_getX (N := 1) (i := 0) (v := fun _ => .ref (sv 1)) (ad := fun _ => (sa 52)) (o := "java/lang/String") (n := "value") (d := "[B") hx hb (fun _ _ => (hEm.2.2.2.2 1 _ rfl).2.2.1) (by decide) hS hown (hts _ K1556) (fun _ h9 => h9) dJ0_indexOf_7cf53_8 ?_
  refine W.eq (g2 := F0 m 11 ls [.ref (sv 1)]) rfl ?_
  refine lv_iload_n hx hb dJ0_indexOf_7cf53_11 rfl (lv_at hl 1 rfl) ?_
  refine lv_iload_n hx hb dJ0_indexOf_7cf53_12 rfl (lv_at hl 2 rfl) ?_
  refine lv_aload_n hx hb dJ0_indexOf_7cf53_13 rfl (lv_at hl 0 rfl) ?_
  refine z_calli (va_runV (As := []) (rest := [.int 0, .int ch, .ref (sv 1)]) ⟨hx, hb, hml, hown, hts⟩ (k_lens1 l D cy sa sv dc _) (cwV 0 hts GV_RJ0_505 rfl rfl rfl ⟨rfl, HD_yJ0_length_8abf5⟩ ⟨Nat.le_of_ble_eq_true rfl, Nat.le_of_ble_eq_true rfl⟩) ⟨z_blind EM_ok, recvS (hEm.2.2.2.2 1 _ rfl).1 hS, z_pre EM_ok hP hK hD hEm hS (z_free hD hS hA)⟩ rfl rfl hl.1 rfl (lv_room (Nat.le_of_ble_eq_true rfl)) dJ0_indexOf_7cf53_14 ⟨Nat.le_of_ble_eq_true rfl, Nat.le_of_ble_eq_true rfl⟩) hD hS hA (fun r_14 u14 H locs hw_14 hP hD hS => ?_)
  have hP : va_P D vwCl [] H := hP
  have hD : va_D A [] := hD
  obtain rfl := hw_14
  refine z_calli (va_runS (As := [.ref (sv 1), .int ch, .int 0, .int 16]) (rest := []) ⟨hx, hb, hml, hown, hts⟩ (k_ixLs1 l D cy sa sv dc _ ch) (va_cwS 4 hts GS_RJ0_637 rfl rfl rfl HD_yJ1_indexOf_4cfef ⟨Nat.le_of_ble_eq_true rfl, Nat.le_of_ble_eq_true rfl⟩) ⟨z_blind EM_ok, z_pre EM_ok hP hK hD hEm hS (z_free hD hS hA)⟩ rfl rfl hl.1 rfl (lv_room (Nat.le_of_ble_eq_true rfl)) dJ0_indexOf_7cf53_17 ⟨Nat.le_of_ble_eq_true rfl, Nat.le_of_ble_eq_true rfl⟩) hD hS hA (fun r_17 u17 H locs hw_17 hP hD hS => ?_)
  have hP : va_P D vwCl [] H := hP
  have hD : va_D A [] := hD
  obtain rfl := hw_17
  refine lv_goto (tgt := 36) hx hb dJ0_indexOf_7cf53_20 (by decide) ?_
  exact z_reti () hx hb hr rfl hlocks hK (rfl) hP hD hS (Nat.le_of_ble_eq_true rfl) (Nat.le_of_ble_eq_true rfl) dJ0_indexOf_7cf53_36
set_option maxHeartbeats 4000000 in
set_option maxRecDepth 100000 in
theorem k_ix2s2 (l : Launch) (D : va_G) (cy : Nat → ClassId) (sa : Nat → Nat) (sv : Nat → Nat) (dc : Nat) (sz : Nat) (ch : Int32) : Met l yJ0_indexOf_7cf53 (Cond.code yJ0_indexOf_7cf53 cJ0_indexOf_7cf53 3 (some .int) :: ALL) ({ frames := 3, cells := 0, slots := 0, locals := 48 }) (zPc D vwCl (TY cy) (EM sa sv dc) [.ref (sa 53), .int ch, .int 0] [] sz) (va_Qi (fun r _ => r = ixf [99, 109, 43, 45, 42, 108, 103, 115, 112, 106] ch) (zB D vwCl (TY cy) (S := Unit) (fun u => []) (va_A [] sz)) (va_A [] sz)) 0 0 (va_A [] sz) := by
  refine z_start (Qc := fun A => va_Qi (fun r _ => r = ixf [99, 109, 43, 45, 42, 108, 103, 115, 112, 106] ch) (zB D vwCl (TY cy) (S := Unit) (fun u => []) A) A) PN_RJ0 (Nat.le_of_ble_eq_true rfl) ?_
  intro p e s m below meth c A ls hx hb hr hml hts hown hlocks hin hA hP hK hD hS hEn hl
  have hown : s.vm.findClass RJ0 = some m.cls := hown
  have hEm := hEn
  have hEn := hEn.1
  have hl : lv_has ls 3 [(0, .ref (sa 53)), (1, .int ch), (2, .int 0)] := hl
  have hS0 := hS
  refine lv_aload_n hx hb dJ0_indexOf_7cf53_0 rfl (lv_at hl 0 rfl) ?_
  refine z_calli (va_runV (As := []) (rest := []) ⟨hx, hb, hml, hown, hts⟩ (k_isL1s2 l D cy sa sv dc _) (cwV 0 hts GV_RJ0_492 rfl rfl rfl ⟨rfl, HD_yJ0_isLatin1_aae02⟩ ⟨Nat.le_of_ble_eq_true rfl, Nat.le_of_ble_eq_true rfl⟩) ⟨z_blind EM_ok, recvS (hEm.2.2.2.2 2 _ rfl).1 hS, z_pre EM_ok hP hK hD hEm hS (z_free hD hS hA)⟩ rfl rfl hl.1 rfl (lv_room (Nat.le_of_ble_eq_true rfl)) dJ0_indexOf_7cf53_1 ⟨Nat.le_of_ble_eq_true rfl, Nat.le_of_ble_eq_true rfl⟩) hD hS hA (fun r_1 u1 H locs hw_1 hP hD hS => ?_)
  have hP : va_P D vwCl [] H := hP
  have hD : va_D A [] := hD
  obtain rfl := hw_1
  refine lv_if_eq (tgt := 23) hx hb dJ0_indexOf_7cf53_4 (by decide) (fun c_4 => absurd c_4 (by decide)) (fun _ => ?_)
  refine lv_aload_n hx hb dJ0_indexOf_7cf53_7 rfl (lv_at hl 0 rfl) ?_
  refine va_getX (N := 1) (i := 0) (v := fun _ => .ref (sv 2)) (ad := fun _ => (sa 53)) (o := "java/lang/String") (n := "value") (d := "[B") hx hb (fun _ _ => (hEm.2.2.2.2 2 _ rfl).2.2.1) (by decide) hS hown (hts _ K1556) (fun _ h9 => h9) dJ0_indexOf_7cf53_8 ?_
  refine W.eq (g2 := F0 m 11 ls [.ref (sv 2)]) rfl ?_
  refine lv_iload_n hx hb dJ0_indexOf_7cf53_11 rfl (lv_at hl 1 rfl) ?_
  refine lv_iload_n hx hb dJ0_indexOf_7cf53_12 rfl (lv_at hl 2 rfl) ?_
  refine lv_aload_n hx hb dJ0_indexOf_7cf53_13 rfl (lv_at hl 0 rfl) ?_
  refine z_calli (va_runV (As := []) (rest := [.int 0, .int ch, .ref (sv 2)]) ⟨hx, hb, hml, hown, hts⟩ (k_lens2 l D cy sa sv dc _) (cwV 0 hts GV_RJ0_505 rfl rfl rfl ⟨rfl, HD_yJ0_length_8abf5⟩ ⟨Nat.le_of_ble_eq_true rfl, Nat.le_of_ble_eq_true rfl⟩) ⟨z_blind EM_ok, recvS (hEm.2.2.2.2 2 _ rfl).1 hS, z_pre EM_ok hP hK hD hEm hS (z_free hD hS hA)⟩ rfl rfl hl.1 rfl (lv_room (Nat.le_of_ble_eq_true rfl)) dJ0_indexOf_7cf53_14 ⟨Nat.le_of_ble_eq_true rfl, Nat.le_of_ble_eq_true rfl⟩) hD hS hA (fun r_14 u14 H locs hw_14 hP hD hS => ?_)
  have hP : va_P D vwCl [] H := hP
  have hD : va_D A [] := hD
  obtain rfl := hw_14
  refine z_calli (va_runS (As := [.ref (sv 2), .int ch, .int 0, .int 10]) (rest := []) ⟨hx, hb, hml, hown, hts⟩ (k_ixLs2 l D cy sa sv dc _ ch) (va_cwS 4 hts GS_RJ0_637 rfl rfl rfl HD_yJ1_indexOf_4cfef ⟨Nat.le_of_ble_eq_true rfl, Nat.le_of_ble_eq_true rfl⟩) ⟨z_blind EM_ok, z_pre EM_ok hP hK hD hEm hS (z_free hD hS hA)⟩ rfl rfl hl.1 rfl (lv_room (Nat.le_of_ble_eq_true rfl)) dJ0_indexOf_7cf53_17 ⟨Nat.le_of_ble_eq_true rfl, Nat.le_of_ble_eq_true rfl⟩) hD hS hA (fun r_17 u17 H locs hw_17 hP hD hS => ?_)
  have hP : va_P D vwCl [] H := hP
  have hD : va_D A [] := hD
  obtain rfl := hw_17
  refine lv_goto (tgt := 36) hx hb dJ0_indexOf_7cf53_20 (by decide) ?_
  exact z_reti () hx hb hr rfl hlocks hK (rfl) hP hD hS (Nat.le_of_ble_eq_true rfl) (Nat.le_of_ble_eq_true rfl) dJ0_indexOf_7cf53_36
set_option maxHeartbeats 4000000 in
set_option maxRecDepth 100000 in
theorem k_ix2s3 (l : Launch) (D : va_G) (cy : Nat → ClassId) (sa : Nat → Nat) (sv : Nat → Nat) (dc : Nat) (sz : Nat) (ch : Int32) : Met l yJ0_indexOf_7cf53 (Cond.code yJ0_indexOf_7cf53 cJ0_indexOf_7cf53 3 (some .int) :: ALL) ({ frames := 3, cells := 0, slots := 0, locals := 48 }) (zPc D vwCl (TY cy) (EM sa sv dc) [.ref (sa 54), .int ch, .int 0] [] sz) (va_Qi (fun r _ => r = ixf [109, 43, 45, 42, 108, 115] ch) (zB D vwCl (TY cy) (S := Unit) (fun u => []) (va_A [] sz)) (va_A [] sz)) 0 0 (va_A [] sz) := by
  refine z_start (Qc := fun A => va_Qi (fun r _ => r = ixf [109, 43, 45, 42, 108, 115] ch) (zB D vwCl (TY cy) (S := Unit) (fun u => []) A) A) PN_RJ0 (Nat.le_of_ble_eq_true rfl) ?_
  intro p e s m below meth c A ls hx hb hr hml hts hown hlocks hin hA hP hK hD hS hEn hl
  have hown : s.vm.findClass RJ0 = some m.cls := hown
  have hEm := hEn
  have hEn := hEn.1
  have hl : lv_has ls 3 [(0, .ref (sa 54)), (1, .int ch), (2, .int 0)] := hl
  have hS0 := hS
  refine lv_aload_n hx hb dJ0_indexOf_7cf53_0 rfl (lv_at hl 0 rfl) ?_
  refine z_calli (va_runV (As := []) (rest := []) ⟨hx, hb, hml, hown, hts⟩ (k_isL1s3 l D cy sa sv dc _) (cwV 0 hts GV_RJ0_492 rfl rfl rfl ⟨rfl, HD_yJ0_isLatin1_aae02⟩ ⟨Nat.le_of_ble_eq_true rfl, Nat.le_of_ble_eq_true rfl⟩) ⟨z_blind EM_ok, recvS (hEm.2.2.2.2 3 _ rfl).1 hS, z_pre EM_ok hP hK hD hEm hS (z_free hD hS hA)⟩ rfl rfl hl.1 rfl (lv_room (Nat.le_of_ble_eq_true rfl)) dJ0_indexOf_7cf53_1 ⟨Nat.le_of_ble_eq_true rfl, Nat.le_of_ble_eq_true rfl⟩) hD hS hA (fun r_1 u1 H locs hw_1 hP hD hS => ?_)
  have hP : va_P D vwCl [] H := hP
  have hD : va_D A [] := hD
  obtain rfl := hw_1
  refine lv_if_eq (tgt := 23) hx hb dJ0_indexOf_7cf53_4 (by decide) (fun c_4 => absurd c_4 (by decide)) (fun _ => ?_)
  refine lv_aload_n hx hb dJ0_indexOf_7cf53_7 rfl (lv_at hl 0 rfl) ?_
  refine va_getX (N := 1) (i := 0) (v := fun _ => .ref (sv 3)) (ad := fun _ => (sa 54)) (o := "java/lang/String") (n := "value") (d := "[B") hx hb (fun _ _ => (hEm.2.2.2.2 3 _ rfl).2.2.1) (by decide) hS hown (hts _ K1556) (fun _ h9 => h9) dJ0_indexOf_7cf53_8 ?_
  refine W.eq (g2 := F0 m 11 ls [.ref (sv 3)]) rfl ?_
  refine lv_iload_n hx hb dJ0_indexOf_7cf53_11 rfl (lv_at hl 1 rfl) ?_
  refine lv_iload_n hx hb dJ0_indexOf_7cf53_12 rfl (lv_at hl 2 rfl) ?_
  refine lv_aload_n hx hb dJ0_indexOf_7cf53_13 rfl (lv_at hl 0 rfl) ?_
  refine z_calli (va_runV (As := []) (rest := [.int 0, .int ch, .ref (sv 3)]) ⟨hx, hb, hml, hown, hts⟩ (k_lens3 l D cy sa sv dc _) (cwV 0 hts GV_RJ0_505 rfl rfl rfl ⟨rfl, HD_yJ0_length_8abf5⟩ ⟨Nat.le_of_ble_eq_true rfl, Nat.le_of_ble_eq_true rfl⟩) ⟨z_blind EM_ok, recvS (hEm.2.2.2.2 3 _ rfl).1 hS, z_pre EM_ok hP hK hD hEm hS (z_free hD hS hA)⟩ rfl rfl hl.1 rfl (lv_room (Nat.le_of_ble_eq_true rfl)) dJ0_indexOf_7cf53_14 ⟨Nat.le_of_ble_eq_true rfl, Nat.le_of_ble_eq_true rfl⟩) hD hS hA (fun r_14 u14 H locs hw_14 hP hD hS => ?_)
  have hP : va_P D vwCl [] H := hP
  have hD : va_D A [] := hD
  obtain rfl := hw_14
  refine z_calli (va_runS (As := [.ref (sv 3), .int ch, .int 0, .int 6]) (rest := []) ⟨hx, hb, hml, hown, hts⟩ (k_ixLs3 l D cy sa sv dc _ ch) (va_cwS 4 hts GS_RJ0_637 rfl rfl rfl HD_yJ1_indexOf_4cfef ⟨Nat.le_of_ble_eq_true rfl, Nat.le_of_ble_eq_true rfl⟩) ⟨z_blind EM_ok, z_pre EM_ok hP hK hD hEm hS (z_free hD hS hA)⟩ rfl rfl hl.1 rfl (lv_room (Nat.le_of_ble_eq_true rfl)) dJ0_indexOf_7cf53_17 ⟨Nat.le_of_ble_eq_true rfl, Nat.le_of_ble_eq_true rfl⟩) hD hS hA (fun r_17 u17 H locs hw_17 hP hD hS => ?_)
  have hP : va_P D vwCl [] H := hP
  have hD : va_D A [] := hD
  obtain rfl := hw_17
  refine lv_goto (tgt := 36) hx hb dJ0_indexOf_7cf53_20 (by decide) ?_
  exact z_reti () hx hb hr rfl hlocks hK (rfl) hP hD hS (Nat.le_of_ble_eq_true rfl) (Nat.le_of_ble_eq_true rfl) dJ0_indexOf_7cf53_36
set_option maxHeartbeats 4000000 in
set_option maxRecDepth 100000 in
theorem k_ix2s4 (l : Launch) (D : va_G) (cy : Nat → ClassId) (sa : Nat → Nat) (sv : Nat → Nat) (dc : Nat) (sz : Nat) (ch : Int32) : Met l yJ0_indexOf_7cf53 (Cond.code yJ0_indexOf_7cf53 cJ0_indexOf_7cf53 3 (some .int) :: ALL) ({ frames := 3, cells := 0, slots := 0, locals := 48 }) (zPc D vwCl (TY cy) (EM sa sv dc) [.ref (sa 56), .int ch, .int 0] [] sz) (va_Qi (fun r _ => r = ixf [105, 98, 99] ch) (zB D vwCl (TY cy) (S := Unit) (fun u => []) (va_A [] sz)) (va_A [] sz)) 0 0 (va_A [] sz) := by
  refine z_start (Qc := fun A => va_Qi (fun r _ => r = ixf [105, 98, 99] ch) (zB D vwCl (TY cy) (S := Unit) (fun u => []) A) A) PN_RJ0 (Nat.le_of_ble_eq_true rfl) ?_
  intro p e s m below meth c A ls hx hb hr hml hts hown hlocks hin hA hP hK hD hS hEn hl
  have hown : s.vm.findClass RJ0 = some m.cls := hown
  have hEm := hEn
  have hEn := hEn.1
  have hl : lv_has ls 3 [(0, .ref (sa 56)), (1, .int ch), (2, .int 0)] := hl
  have hS0 := hS
  refine lv_aload_n hx hb dJ0_indexOf_7cf53_0 rfl (lv_at hl 0 rfl) ?_
  refine z_calli (va_runV (As := []) (rest := []) ⟨hx, hb, hml, hown, hts⟩ (k_isL1s4 l D cy sa sv dc _) (cwV 0 hts GV_RJ0_492 rfl rfl rfl ⟨rfl, HD_yJ0_isLatin1_aae02⟩ ⟨Nat.le_of_ble_eq_true rfl, Nat.le_of_ble_eq_true rfl⟩) ⟨z_blind EM_ok, recvS (hEm.2.2.2.2 4 _ rfl).1 hS, z_pre EM_ok hP hK hD hEm hS (z_free hD hS hA)⟩ rfl rfl hl.1 rfl (lv_room (Nat.le_of_ble_eq_true rfl)) dJ0_indexOf_7cf53_1 ⟨Nat.le_of_ble_eq_true rfl, Nat.le_of_ble_eq_true rfl⟩) hD hS hA (fun r_1 u1 H locs hw_1 hP hD hS => ?_)
  have hP : va_P D vwCl [] H := hP
  have hD : va_D A [] := hD
  obtain rfl := hw_1
  refine lv_if_eq (tgt := 23) hx hb dJ0_indexOf_7cf53_4 (by decide) (fun c_4 => absurd c_4 (by decide)) (fun _ => ?_)
  refine lv_aload_n hx hb dJ0_indexOf_7cf53_7 rfl (lv_at hl 0 rfl) ?_
  refine va_getX (N := 1) (i := 0) (v := fun _ => .ref (sv 4)) (ad := fun _ => (sa 56)) (o := "java/lang/String") (n := "value") (d := "[B") hx hb (fun _ _ => (hEm.2.2.2.2 4 _ rfl).2.2.1) (by decide) hS hown (hts _ K1556) (fun _ h9 => h9) dJ0_indexOf_7cf53_8 ?_
  refine W.eq (g2 := F0 m 11 ls [.ref (sv 4)]) rfl ?_
  refine lv_iload_n hx hb dJ0_indexOf_7cf53_11 rfl (lv_at hl 1 rfl) ?_
  refine lv_iload_n hx hb dJ0_indexOf_7cf53_12 rfl (lv_at hl 2 rfl) ?_
  refine lv_aload_n hx hb dJ0_indexOf_7cf53_13 rfl (lv_at hl 0 rfl) ?_
  refine z_calli (va_runV (As := []) (rest := [.int 0, .int ch, .ref (sv 4)]) ⟨hx, hb, hml, hown, hts⟩ (k_lens4 l D cy sa sv dc _) (cwV 0 hts GV_RJ0_505 rfl rfl rfl ⟨rfl, HD_yJ0_length_8abf5⟩ ⟨Nat.le_of_ble_eq_true rfl, Nat.le_of_ble_eq_true rfl⟩) ⟨z_blind EM_ok, recvS (hEm.2.2.2.2 4 _ rfl).1 hS, z_pre EM_ok hP hK hD hEm hS (z_free hD hS hA)⟩ rfl rfl hl.1 rfl (lv_room (Nat.le_of_ble_eq_true rfl)) dJ0_indexOf_7cf53_14 ⟨Nat.le_of_ble_eq_true rfl, Nat.le_of_ble_eq_true rfl⟩) hD hS hA (fun r_14 u14 H locs hw_14 hP hD hS => ?_)
  have hP : va_P D vwCl [] H := hP
  have hD : va_D A [] := hD
  obtain rfl := hw_14
  refine z_calli (va_runS (As := [.ref (sv 4), .int ch, .int 0, .int 3]) (rest := []) ⟨hx, hb, hml, hown, hts⟩ (k_ixLs4 l D cy sa sv dc _ ch) (va_cwS 4 hts GS_RJ0_637 rfl rfl rfl HD_yJ1_indexOf_4cfef ⟨Nat.le_of_ble_eq_true rfl, Nat.le_of_ble_eq_true rfl⟩) ⟨z_blind EM_ok, z_pre EM_ok hP hK hD hEm hS (z_free hD hS hA)⟩ rfl rfl hl.1 rfl (lv_room (Nat.le_of_ble_eq_true rfl)) dJ0_indexOf_7cf53_17 ⟨Nat.le_of_ble_eq_true rfl, Nat.le_of_ble_eq_true rfl⟩) hD hS hA (fun r_17 u17 H locs hw_17 hP hD hS => ?_)
  have hP : va_P D vwCl [] H := hP
  have hD : va_D A [] := hD
  obtain rfl := hw_17
  refine lv_goto (tgt := 36) hx hb dJ0_indexOf_7cf53_20 (by decide) ?_
  exact z_reti () hx hb hr rfl hlocks hK (rfl) hP hD hS (Nat.le_of_ble_eq_true rfl) (Nat.le_of_ble_eq_true rfl) dJ0_indexOf_7cf53_36
set_option maxHeartbeats 4000000 in
set_option maxRecDepth 100000 in
theorem k_ixs1 (l : Launch) (D : va_G) (cy : Nat → ClassId) (sa : Nat → Nat) (sv : Nat → Nat) (dc : Nat) (sz : Nat) (ch : Int32) : Met l yJ0_indexOf_0f7a4 (Cond.code yJ0_indexOf_0f7a4 cJ0_indexOf_0f7a4 2 (some .int) :: ALL) ({ frames := 4, cells := 0, slots := 0, locals := 70 }) (zPc D vwCl (TY cy) (EM sa sv dc) [.ref (sa 52), .int ch] [] sz) (va_Qi (fun r _ => r = ixf [110, 99, 109, 43, 45, 42, 108, 103, 115, 112, 106, 107, 101, 120, 114, 104] ch) (zB D vwCl (TY cy) (S := Unit) (fun u => []) (va_A [] sz)) (va_A [] sz)) 0 0 (va_A [] sz) := by
  refine z_start (Qc := fun A => va_Qi (fun r _ => r = ixf [110, 99, 109, 43, 45, 42, 108, 103, 115, 112, 106, 107, 101, 120, 114, 104] ch) (zB D vwCl (TY cy) (S := Unit) (fun u => []) A) A) PN_RJ0 (Nat.le_of_ble_eq_true rfl) ?_
  intro p e s m below meth c A ls hx hb hr hml hts hown hlocks hin hA hP hK hD hS hEn hl
  have hown : s.vm.findClass RJ0 = some m.cls := hown
  have hEm := hEn
  have hEn := hEn.1
  have hl : lv_has ls 2 [(0, .ref (sa 52)), (1, .int ch)] := hl
  have hS0 := hS
  refine lv_aload_n hx hb dJ0_indexOf_0f7a4_0 rfl (lv_at hl 0 rfl) ?_
  refine lv_iload_n hx hb dJ0_indexOf_0f7a4_1 rfl (lv_at hl 1 rfl) ?_
  refine lv_iconst (v := 0) hx hb dJ0_indexOf_0f7a4_2 (by decide) ?_
  refine z_calli (va_runV (As := [.int ch, .int 0]) (rest := []) ⟨hx, hb, hml, hown, hts⟩ (k_ix2s1 l D cy sa sv dc _ ch) (cwV 2 hts GV_RJ0_633 rfl rfl rfl ⟨rfl, HD_yJ0_indexOf_7cf53⟩ ⟨Nat.le_of_ble_eq_true rfl, Nat.le_of_ble_eq_true rfl⟩) ⟨z_blind EM_ok, recvS (hEm.2.2.2.2 1 _ rfl).1 hS, z_pre EM_ok hP hK hD hEm hS (z_free hD hS hA)⟩ rfl rfl hl.1 rfl (lv_room (Nat.le_of_ble_eq_true rfl)) dJ0_indexOf_0f7a4_3 ⟨Nat.le_of_ble_eq_true rfl, Nat.le_of_ble_eq_true rfl⟩) hD hS hA (fun r_3 u3 H locs hw_3 hP hD hS => ?_)
  have hP : va_P D vwCl [] H := hP
  have hD : va_D A [] := hD
  obtain rfl := hw_3
  exact z_reti () hx hb hr rfl hlocks hK (rfl) hP hD hS (Nat.le_of_ble_eq_true rfl) (Nat.le_of_ble_eq_true rfl) dJ0_indexOf_0f7a4_6
set_option maxHeartbeats 4000000 in
set_option maxRecDepth 100000 in
theorem k_ixs2 (l : Launch) (D : va_G) (cy : Nat → ClassId) (sa : Nat → Nat) (sv : Nat → Nat) (dc : Nat) (sz : Nat) (ch : Int32) : Met l yJ0_indexOf_0f7a4 (Cond.code yJ0_indexOf_0f7a4 cJ0_indexOf_0f7a4 2 (some .int) :: ALL) ({ frames := 4, cells := 0, slots := 0, locals := 70 }) (zPc D vwCl (TY cy) (EM sa sv dc) [.ref (sa 53), .int ch] [] sz) (va_Qi (fun r _ => r = ixf [99, 109, 43, 45, 42, 108, 103, 115, 112, 106] ch) (zB D vwCl (TY cy) (S := Unit) (fun u => []) (va_A [] sz)) (va_A [] sz)) 0 0 (va_A [] sz) := by
  refine z_start (Qc := fun A => va_Qi (fun r _ => r = ixf [99, 109, 43, 45, 42, 108, 103, 115, 112, 106] ch) (zB D vwCl (TY cy) (S := Unit) (fun u => []) A) A) PN_RJ0 (Nat.le_of_ble_eq_true rfl) ?_
  intro p e s m below meth c A ls hx hb hr hml hts hown hlocks hin hA hP hK hD hS hEn hl
  have hown : s.vm.findClass RJ0 = some m.cls := hown
  have hEm := hEn
  have hEn := hEn.1
  have hl : lv_has ls 2 [(0, .ref (sa 53)), (1, .int ch)] := hl
  have hS0 := hS
  refine lv_aload_n hx hb dJ0_indexOf_0f7a4_0 rfl (lv_at hl 0 rfl) ?_
  refine lv_iload_n hx hb dJ0_indexOf_0f7a4_1 rfl (lv_at hl 1 rfl) ?_
  refine lv_iconst (v := 0) hx hb dJ0_indexOf_0f7a4_2 (by decide) ?_
  refine z_calli (va_runV (As := [.int ch, .int 0]) (rest := []) ⟨hx, hb, hml, hown, hts⟩ (k_ix2s2 l D cy sa sv dc _ ch) (cwV 2 hts GV_RJ0_633 rfl rfl rfl ⟨rfl, HD_yJ0_indexOf_7cf53⟩ ⟨Nat.le_of_ble_eq_true rfl, Nat.le_of_ble_eq_true rfl⟩) ⟨z_blind EM_ok, recvS (hEm.2.2.2.2 2 _ rfl).1 hS, z_pre EM_ok hP hK hD hEm hS (z_free hD hS hA)⟩ rfl rfl hl.1 rfl (lv_room (Nat.le_of_ble_eq_true rfl)) dJ0_indexOf_0f7a4_3 ⟨Nat.le_of_ble_eq_true rfl, Nat.le_of_ble_eq_true rfl⟩) hD hS hA (fun r_3 u3 H locs hw_3 hP hD hS => ?_)
  have hP : va_P D vwCl [] H := hP
  have hD : va_D A [] := hD
  obtain rfl := hw_3
  exact z_reti () hx hb hr rfl hlocks hK (rfl) hP hD hS (Nat.le_of_ble_eq_true rfl) (Nat.le_of_ble_eq_true rfl) dJ0_indexOf_0f7a4_6
set_option maxHeartbeats 4000000 in
set_option maxRecDepth 100000 in
theorem k_ixs3 (l : Launch) (D : va_G) (cy : Nat → ClassId) (sa : Nat → Nat) (sv : Nat → Nat) (dc : Nat) (sz : Nat) (ch : Int32) : Met l yJ0_indexOf_0f7a4 (Cond.code yJ0_indexOf_0f7a4 cJ0_indexOf_0f7a4 2 (some .int) :: ALL) ({ frames := 4, cells := 0, slots := 0, locals := 70 }) (zPc D vwCl (TY cy) (EM sa sv dc) [.ref (sa 54), .int ch] [] sz) (va_Qi (fun r _ => r = ixf [109, 43, 45, 42, 108, 115] ch) (zB D vwCl (TY cy) (S := Unit) (fun u => []) (va_A [] sz)) (va_A [] sz)) 0 0 (va_A [] sz) := by
  refine z_start (Qc := fun A => va_Qi (fun r _ => r = ixf [109, 43, 45, 42, 108, 115] ch) (zB D vwCl (TY cy) (S := Unit) (fun u => []) A) A) PN_RJ0 (Nat.le_of_ble_eq_true rfl) ?_
  intro p e s m below meth c A ls hx hb hr hml hts hown hlocks hin hA hP hK hD hS hEn hl
  have hown : s.vm.findClass RJ0 = some m.cls := hown
  have hEm := hEn
  have hEn := hEn.1
  have hl : lv_has ls 2 [(0, .ref (sa 54)), (1, .int ch)] := hl
  have hS0 := hS
  refine lv_aload_n hx hb dJ0_indexOf_0f7a4_0 rfl (lv_at hl 0 rfl) ?_
  refine lv_iload_n hx hb dJ0_indexOf_0f7a4_1 rfl (lv_at hl 1 rfl) ?_
  refine lv_iconst (v := 0) hx hb dJ0_indexOf_0f7a4_2 (by decide) ?_
  refine z_calli (va_runV (As := [.int ch, .int 0]) (rest := []) ⟨hx, hb, hml, hown, hts⟩ (k_ix2s3 l D cy sa sv dc _ ch) (cwV 2 hts GV_RJ0_633 rfl rfl rfl ⟨rfl, HD_yJ0_indexOf_7cf53⟩ ⟨Nat.le_of_ble_eq_true rfl, Nat.le_of_ble_eq_true rfl⟩) ⟨z_blind EM_ok, recvS (hEm.2.2.2.2 3 _ rfl).1 hS, z_pre EM_ok hP hK hD hEm hS (z_free hD hS hA)⟩ rfl rfl hl.1 rfl (lv_room (Nat.le_of_ble_eq_true rfl)) dJ0_indexOf_0f7a4_3 ⟨Nat.le_of_ble_eq_true rfl, Nat.le_of_ble_eq_true rfl⟩) hD hS hA (fun r_3 u3 H locs hw_3 hP hD hS => ?_)
  have hP : va_P D vwCl [] H := hP
  have hD : va_D A [] := hD
  obtain rfl := hw_3
  exact z_reti () hx hb hr rfl hlocks hK (rfl) hP hD hS (Nat.le_of_ble_eq_true rfl) (Nat.le_of_ble_eq_true rfl) dJ0_indexOf_0f7a4_6
set_option maxHeartbeats 4000000 in
set_option maxRecDepth 100000 in
theorem k_ixs4 (l : Launch) (D : va_G) (cy : Nat → ClassId) (sa : Nat → Nat) (sv : Nat → Nat) (dc : Nat) (sz : Nat) (ch : Int32) : Met l yJ0_indexOf_0f7a4 (Cond.code yJ0_indexOf_0f7a4 cJ0_indexOf_0f7a4 2 (some .int) :: ALL) ({ frames := 4, cells := 0, slots := 0, locals := 70 }) (zPc D vwCl (TY cy) (EM sa sv dc) [.ref (sa 56), .int ch] [] sz) (va_Qi (fun r _ => r = ixf [105, 98, 99] ch) (zB D vwCl (TY cy) (S := Unit) (fun u => []) (va_A [] sz)) (va_A [] sz)) 0 0 (va_A [] sz) := by
  refine z_start (Qc := fun A => va_Qi (fun r _ => r = ixf [105, 98, 99] ch) (zB D vwCl (TY cy) (S := Unit) (fun u => []) A) A) PN_RJ0 (Nat.le_of_ble_eq_true rfl) ?_
  intro p e s m below meth c A ls hx hb hr hml hts hown hlocks hin hA hP hK hD hS hEn hl
  have hown : s.vm.findClass RJ0 = some m.cls := hown
  have hEm := hEn
  have hEn := hEn.1
  have hl : lv_has ls 2 [(0, .ref (sa 56)), (1, .int ch)] := hl
  have hS0 := hS
  refine lv_aload_n hx hb dJ0_indexOf_0f7a4_0 rfl (lv_at hl 0 rfl) ?_
  refine lv_iload_n hx hb dJ0_indexOf_0f7a4_1 rfl (lv_at hl 1 rfl) ?_
  refine lv_iconst (v := 0) hx hb dJ0_indexOf_0f7a4_2 (by decide) ?_
  refine z_calli (va_runV (As := [.int ch, .int 0]) (rest := []) ⟨hx, hb, hml, hown, hts⟩ (k_ix2s4 l D cy sa sv dc _ ch) (cwV 2 hts GV_RJ0_633 rfl rfl rfl ⟨rfl, HD_yJ0_indexOf_7cf53⟩ ⟨Nat.le_of_ble_eq_true rfl, Nat.le_of_ble_eq_true rfl⟩) ⟨z_blind EM_ok, recvS (hEm.2.2.2.2 4 _ rfl).1 hS, z_pre EM_ok hP hK hD hEm hS (z_free hD hS hA)⟩ rfl rfl hl.1 rfl (lv_room (Nat.le_of_ble_eq_true rfl)) dJ0_indexOf_0f7a4_3 ⟨Nat.le_of_ble_eq_true rfl, Nat.le_of_ble_eq_true rfl⟩) hD hS hA (fun r_3 u3 H locs hw_3 hP hD hS => ?_)
  have hP : va_P D vwCl [] H := hP
  have hD : va_D A [] := hD
  obtain rfl := hw_3
  exact z_reti () hx hb hr rfl hlocks hK (rfl) hP hD hS (Nat.le_of_ble_eq_true rfl) (Nat.le_of_ble_eq_true rfl) dJ0_indexOf_0f7a4_6
