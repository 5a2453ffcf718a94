set_option maxHeartbeats 4000000 in
set_option maxRecDepth 100000 in
theorem k_coders0 (l : Launch) (D : va_G) (cy : Nat → ClassId) (sa : Nat → Nat) (sv : Nat → Nat) (dc : Nat) (sz : Nat) : Met l yJ0_coder_7d493 (Cond.code yJ0_coder_7d493 cJ0_coder_7d493 1 (some .byte) :: ALL) ({ frames := 0, cells := 0, slots := 0, locals := 0 }) (zPc D vwCl (TY cy) (EM sa sv dc) [.ref (sa 51)] [] sz) (va_Qi (fun r _ => r = 0) (zB D vwCl (TY cy) (S := Unit) (fun u => []) (va_A [] sz)) (va_A [] sz)) 0 0 (va_A [] sz) := by
  refine z_start (Qc := fun A => va_Qi (fun r _ => r = 0) (zB D vwCl (TY cy) (S := Unit) (fun u => []) A) A) PN_RJ0 (Nat.le_of_ble_eq_true rfl) ?_
  intro p e s m below meth c A ls hx hb hr hml hts hown hlocks hin hA hP hK hD hS hEn hl
  have hown : s.vm.findClass RJ0 = some m.cls := hown
  have hEm := hEn
  have hEn := hEn.1
  have hl : lv_has ls 1 [(0, .ref (sa 51))] := hl
  have hS0 := hS
  refine va_gets (C := "java/lang/String") (n := "COMPACT_STRINGS") (d := "Z") (v := .int 1) hx hb hEn.2.2.2.2.2 hS hown (hts _ K1440) (fun _ h9 => h9) dJ0_coder_7d493_0 ?_
  refine lv_if_eq (tgt := 13) hx hb dJ0_coder_7d493_3 (by decide) (fun c_3 => absurd c_3 (by decide)) (fun _ => ?_)
  refine lv_aload_n hx hb dJ0_coder_7d493_6 rfl (lv_at hl 0 rfl) ?_
  refine va_getX (N := 1) (i := 0) (v := fun _ => .int 0) (ad := fun _ => (sa 51)) (o := "java/lang/String") (n := "coder") (d := "B") hx hb (fun _ _ => (hEm.2.2.2.2 0 _ rfl).2.1) (by decide) hS hown (hts _ K1557) (fun _ h9 => h9) dJ0_coder_7d493_7 ?_
  refine W.eq (g2 := F0 m 10 ls [.int 0]) rfl ?_
  refine lv_goto (tgt := 14) hx hb dJ0_coder_7d493_10 (by decide) ?_
  exact z_reti () hx hb hr rfl hlocks hK (rfl) hP hD hS (Nat.le_of_ble_eq_true rfl) (Nat.le_of_ble_eq_true rfl) dJ0_coder_7d493_14
set_option maxHeartbeats 4000000 in
set_option maxRecDepth 100000 in
theorem k_isL1s0 (l : Launch) (D : va_G) (cy : Nat → ClassId) (sa : Nat → Nat) (sv : Nat → Nat) (dc : Nat) (sz : Nat) : Met l yJ0_isLatin1_aae02 (Cond.code yJ0_isLatin1_aae02 cJ0_isLatin1_aae02 1 (some .boolean) :: ALL) ({ frames := 0, cells := 0, slots := 0, locals := 0 }) (zPc D vwCl (TY cy) (EM sa sv dc) [.ref (sa 51)] [] sz) (va_Qi (fun r _ => r = 1) (zB D vwCl (TY cy) (S := Unit) (fun u => []) (va_A [] sz)) (va_A [] sz)) 0 0 (va_A [] sz) := by
  refine z_start (Qc := fun A => va_Qi (fun r _ => r = 1) (zB D vwCl (TY cy) (S := Unit) (fun u => []) A) A) PN_RJ0 (Nat.le_of_ble_eq_true rfl) ?_
  intro p e s m below meth c A ls hx hb hr hml hts hown hlocks hin hA hP hK hD hS hEn hl
  have hown : s.vm.findClass RJ0 = some m.cls := hown
  have hEm := hEn
  have hEn := hEn.1
  have hl : lv_has ls 1 [(0, .ref (sa 51))] := hl
  have hS0 := hS
  refine va_gets (C := "java/lang/String") (n := "COMPACT_STRINGS") (d := "Z") (v := .int 1) hx hb hEn.2.2.2.2.2 hS hown (hts _ K1440) (fun _ h9 => h9) dJ0_isLatin1_aae02_0 ?_
  refine lv_if_eq (tgt := 17) hx hb dJ0_isLatin1_aae02_3 (by decide) (fun c_3 => absurd c_3 (by decide)) (fun _ => ?_)
  refine lv_aload_n hx hb dJ0_isLatin1_aae02_6 rfl (lv_at hl 0 rfl) ?_
  refine va_getX (N := 1) (i := 0) (v := fun _ => .int 0) (ad := fun _ => (sa 51)) (o := "java/lang/String") (n := "coder") (d := "B") hx hb (fun _ _ => (hEm.2.2.2.2 0 _ rfl).2.1) (by decide) hS hown (hts _ K1557) (fun _ h9 => h9) dJ0_isLatin1_aae02_7 ?_
  refine W.eq (g2 := F0 m 10 ls [.int 0]) rfl ?_
  refine lv_if_ne (tgt := 17) hx hb dJ0_isLatin1_aae02_10 (by decide) (fun c_10 => absurd (by decide) c_10) (fun _ => ?_)
  refine lv_iconst (v := 1) hx hb dJ0_isLatin1_aae02_13 (by decide) ?_
  refine lv_goto (tgt := 18) hx hb dJ0_isLatin1_aae02_14 (by decide) ?_
  exact z_reti () hx hb hr rfl hlocks hK (rfl) hP hD hS (Nat.le_of_ble_eq_true rfl) (Nat.le_of_ble_eq_true rfl) dJ0_isLatin1_aae02_18
set_option maxHeartbeats 4000000 in
set_option maxRecDepth 100000 in
theorem k_lens0 (l : Launch) (D : va_G) (cy : Nat → ClassId) (sa : Nat → Nat) (sv : Nat → Nat) (dc : Nat) (sz : Nat) : Met l yJ0_length_8abf5 (Cond.code yJ0_length_8abf5 cJ0_length_8abf5 1 (some .int) :: ALL) ({ frames := 1, cells := 0, slots := 0, locals := 20 }) (zPc D vwCl (TY cy) (EM sa sv dc) [.ref (sa 51)] [] sz) (va_Qi (fun r _ => r = 0) (zB D vwCl (TY cy) (S := Unit) (fun u => []) (va_A [] sz)) (va_A [] sz)) 0 0 (va_A [] sz) := by
  refine z_start (Qc := fun A => va_Qi (fun r _ => r = 0) (zB D vwCl (TY cy) (S := Unit) (fun u => []) A) A) PN_RJ0 (Nat.le_of_ble_eq_true rfl) ?_
  intro p e s m below meth c A ls hx hb hr hml hts hown hlocks hin hA hP hK hD hS hEn hl
  have hown : s.vm.findClass RJ0 = some m.cls := hown
  have hEm := hEn
  have hEn := hEn.1
  have hl : lv_has ls 1 [(0, .ref (sa 51))] := hl
  have hS0 := hS
  refine lv_aload_n hx hb dJ0_length_8abf5_0 rfl (lv_at hl 0 rfl) ?_
  refine va_getX (N := 1) (i := 0) (v := fun _ => .ref (sv 0)) (ad := fun _ => (sa 51)) (o := "java/lang/String") (n := "value") (d := "[B") hx hb (fun _ _ => (hEm.2.2.2.2 0 _ rfl).2.2.1) (by decide) hS hown (hts _ K1556) (fun _ h9 => h9) dJ0_length_8abf5_1 ?_
  refine W.eq (g2 := F0 m 4 ls [.ref (sv 0)]) rfl ?_
  refine va_tlen (v := 0) hx hb (hEm.2.2.2.2 0 _ rfl).2.2.2 hS rfl dJ0_length_8abf5_4 ?_
  refine lv_aload_n hx hb dJ0_length_8abf5_5 rfl (lv_at hl 0 rfl) ?_
  refine z_calli (va_runV (As := []) (rest := [.int 0]) ⟨hx, hb, hml, hown, hts⟩ (k_coders0 l D cy sa sv dc _) (cwV 0 hts GV_RJ0_335 rfl rfl rfl ⟨rfl, HD_yJ0_coder_7d493⟩ ⟨Nat.le_of_ble_eq_true rfl, Nat.le_of_ble_eq_true rfl⟩) ⟨z_blind EM_ok, recvS (hEm.2.2.2.2 0 _ rfl).1 hS, z_pre EM_ok hP hK hD hEm hS (z_free hD hS hA)⟩ rfl rfl hl.1 rfl (lv_room (Nat.le_of_ble_eq_true rfl)) dJ0_length_8abf5_6 ⟨Nat.le_of_ble_eq_true rfl, Nat.le_of_ble_eq_true rfl⟩) hD hS hA (fun r_6 u6 H locs hw_6 hP hD hS => ?_)
  have hP : va_P D vwCl [] H := hP
  have hD : va_D A [] := hD
  obtain rfl := hw_6
  refine lv_ishr hx hb dJ0_length_8abf5_9 ?_
  refine lv_topi (fun v_1 hv_1 => ?_)
  obtain rfl : v_1 = 0 := hv_1.trans (by decide)
  exact z_reti () hx hb hr rfl hlocks hK (rfl) hP hD hS (Nat.le_of_ble_eq_true rfl) (Nat.le_of_ble_eq_true rfl) dJ0_length_8abf5_10
set_option maxHeartbeats 4000000 in
set_option maxRecDepth 100000 in
theorem k_coders1 (l : Launch) (D : va_G) (cy : Nat → ClassId) (sa : Nat → Nat) (sv : Nat → Nat) (dc : Nat) (sz : Nat) : Met l yJ0_coder_7d493 (Cond.code yJ0_coder_7d493 cJ0_coder_7d493 1 (some .byte) :: ALL) ({ frames := 0, cells := 0, slots := 0, locals := 0 }) (zPc D vwCl (TY cy) (EM sa sv dc) [.ref (sa 52)] [] sz) (va_Qi (fun r _ => r = 0) (zB D vwCl (TY cy) (S := Unit) (fun u => []) (va_A [] sz)) (va_A [] sz)) 0 0 (va_A [] sz) := by
  refine z_start (Qc := fun A => va_Qi (fun r _ => r = 0) (zB D vwCl (TY cy) (S := Unit) (fun u => []) A) A) PN_RJ0 (Nat.le_of_ble_eq_true rfl) ?_
  intro p e s m below meth c A ls hx hb hr hml hts hown hlocks hin hA hP hK hD hS hEn hl
  have hown : s.vm.findClass RJ0 = some m.cls := hown
  have hEm := hEn
  have hEn := hEn.1
  have hl : lv_has ls 1 [(0, .ref (sa 52))] := hl
  have hS0 := hS
  refine va_gets (C := "java/lang/String") (n := "COMPACT_STRINGS") (d := "Z") (v := .int 1) hx hb hEn.2.2.2.2.2 hS hown (hts _ K1440) (fun _ h9 => h9) dJ0_coder_7d493_0 ?_
  refine lv_if_eq (tgt := 13) hx hb dJ0_coder_7d493_3 (by decide) (fun c_3 => absurd c_3 (by decide)) (fun _ => ?_)
  refine lv_aload_n hx hb dJ0_coder_7d493_6 rfl (lv_at hl 0 rfl) ?_
  refine va_getX (N := 1) (i := 0) (v := fun _ => .int 0) (ad := fun _ => (sa 52)) (o := "java/lang/String") (n := "coder") (d := "B") hx hb (fun _ _ => (hEm.2.2.2.2 1 _ rfl).2.1) (by decide) hS hown (hts _ K1557) (fun _ h9 => h9) dJ0_coder_7d493_7 ?_
  refine W.eq (g2 := F0 m 10 ls [.int 0]) rfl ?_
  refine lv_goto (tgt := 14) hx hb dJ0_coder_7d493_10 (by decide) ?_
  exact z_reti () hx hb hr rfl hlocks hK (rfl) hP hD hS (Nat.le_of_ble_eq_true rfl) (Nat.le_of_ble_eq_true rfl) dJ0_coder_7d493_14
set_option maxHeartbeats 4000000 in
set_option maxRecDepth 100000 in
theorem k_isL1s1 (l : Launch) (D : va_G) (cy : Nat → ClassId) (sa : Nat → Nat) (sv : Nat → Nat) (dc : Nat) (sz : Nat) : Met l yJ0_isLatin1_aae02 (Cond.code yJ0_isLatin1_aae02 cJ0_isLatin1_aae02 1 (some .boolean) :: ALL) ({ frames := 0, cells := 0, slots := 0, locals := 0 }) (zPc D vwCl (TY cy) (EM sa sv dc) [.ref (sa 52)] [] sz) (va_Qi (fun r _ => r = 1) (zB D vwCl (TY cy) (S := Unit) (fun u => []) (va_A [] sz)) (va_A [] sz)) 0 0 (va_A [] sz) := by
  refine z_start (Qc := fun A => va_Qi (fun r _ => r = 1) (zB D vwCl (TY cy) (S := Unit) (fun u => []) A) A) PN_RJ0 (Nat.le_of_ble_eq_true rfl) ?_
  intro p e s m below meth c A ls hx hb hr hml hts hown hlocks hin hA hP hK hD hS hEn hl
  have hown : s.vm.findClass RJ0 = some m.cls := hown
  have hEm := hEn
  have hEn := hEn.1
  have hl : lv_has ls 1 [(0, .ref (sa 52))] := hl
  have hS0 := hS
  refine va_gets (C := "java/lang/String") (n := "COMPACT_STRINGS") (d := "Z") (v := .int 1) hx hb hEn.2.2.2.2.2 hS hown (hts _ K1440) (fun _ h9 => h9) dJ0_isLatin1_aae02_0 ?_
  refine lv_if_eq (tgt := 17) hx hb dJ0_isLatin1_aae02_3 (by decide) (fun c_3 => absurd c_3 (by decide)) (fun _ => ?_)
  refine lv_aload_n hx hb dJ0_isLatin1_aae02_6 rfl (lv_at hl 0 rfl) ?_
  refine va_getX (N := 1) (i := 0) (v := fun _ => .int 0) (ad := fun _ => (sa 52)) (o := "java/lang/String") (n := "coder") (d := "B") hx hb (fun _ _ => (hEm.2.2.2.2 1 _ rfl).2.1) (by decide) hS hown (hts _ K1557) (fun _ h9 => h9) dJ0_isLatin1_aae02_7 ?_
  refine W.eq (g2 := F0 m 10 ls [.int 0]) rfl ?_
  refine lv_if_ne (tgt := 17) hx hb dJ0_isLatin1_aae02_10 (by decide) (fun c_10 => absurd (by decide) c_10) (fun _ => ?_)
  refine lv_iconst (v := 1) hx hb dJ0_isLatin1_aae02_13 (by decide) ?_
  refine lv_goto (tgt := 18) hx hb dJ0_isLatin1_aae02_14 (by decide) ?_
  exact z_reti () hx hb hr rfl hlocks hK (rfl) hP hD hS (Nat.le_of_ble_eq_true rfl) (Nat.le_of_ble_eq_true rfl) dJ0_isLatin1_aae02_18
set_option maxHeartbeats 4000000 in
set_option maxRecDepth 100000 in
theorem k_lens1 (l : Launch) (D : va_G) (cy : Nat → ClassId) (sa : Nat → Nat) (sv : Nat → Nat) (dc : Nat) (sz : Nat) : Met l yJ0_length_8abf5 (Cond.code yJ0_length_8abf5 cJ0_length_8abf5 1 (some .int) :: ALL) ({ frames := 1, cells := 0, slots := 0, locals := 20 }) (zPc D vwCl (TY cy) (EM sa sv dc) [.ref (sa 52)] [] sz) (va_Qi (fun r _ => r = 16) (zB D vwCl (TY cy) (S := Unit) (fun u => []) (va_A [] sz)) (va_A [] sz)) 0 0 (va_A [] sz) := by
  refine z_start (Qc := fun A => va_Qi (fun r _ => r = 16) (zB D vwCl (TY cy) (S := Unit) (fun u => []) A) A) PN_RJ0 (Nat.le_of_ble_eq_true rfl) ?_
  intro p e s m below meth c A ls hx hb hr hml hts hown hlocks hin hA hP hK hD hS hEn hl
  have hown : s.vm.findClass RJ0 = some m.cls := hown
  have hEm := hEn
  have hEn := hEn.1
  have hl : lv_has ls 1 [(0, .ref (sa 52))] := hl
  have hS0 := hS
  refine lv_aload_n hx hb dJ0_length_8abf5_0 rfl (lv_at hl 0 rfl) ?_
  refine va_getX (N := 1) (i := 0) (v := fun _ => .ref (sv 1)) (ad := fun _ => (sa 52)) (o := "java/lang/String") (n := "value") (d := "[B") hx hb (fun _ _ => (hEm.2.2.2.2 1 _ rfl).2.2.1) (by decide) hS hown (hts _ K1556) (fun _ h9 => h9) dJ0_length_8abf5_1 ?_
  refine W.eq (g2 := F0 m 4 ls [.ref (sv 1)]) rfl ?_
  refine va_tlen (v := 16) hx hb (hEm.2.2.2.2 1 _ rfl).2.2.2 hS rfl dJ0_length_8abf5_4 ?_
  refine lv_aload_n hx hb dJ0_length_8abf5_5 rfl (lv_at hl 0 rfl) ?_
  refine z_calli (va_runV (As := []) (rest := [.int 16]) ⟨hx, hb, hml, hown, hts⟩ (k_coders1 l D cy sa sv dc _) (cwV 0 hts GV_RJ0_335 rfl rfl rfl ⟨rfl, HD_yJ0_coder_7d493⟩ ⟨Nat.le_of_ble_eq_true rfl, Nat.le_of_ble_eq_true rfl⟩) ⟨z_blind EM_ok, recvS (hEm.2.2.2.2 1 _ rfl).1 hS, z_pre EM_ok hP hK hD hEm hS (z_free hD hS hA)⟩ rfl rfl hl.1 rfl (lv_room (Nat.le_of_ble_eq_true rfl)) dJ0_length_8abf5_6 ⟨Nat.le_of_ble_eq_true rfl, Nat.le_of_ble_eq_true rfl⟩) hD hS hA (fun r_6 u6 H locs hw_6 hP hD hS => ?_)
  have hP : va_P D vwCl [] H := hP
  have hD : va_D A [] := hD
  obtain rfl := hw_6
  refine lv_ishr hx hb dJ0_length_8abf5_9 ?_
  refine lv_topi (fun v_1 hv_1 => ?_)
  obtain rfl : v_1 = 16 := hv_1.trans (by decide)
  exact z_reti () hx hb hr rfl hlocks hK (rfl) hP hD hS (Nat.le_of_ble_eq_true rfl) (Nat.le_of_ble_eq_true rfl) dJ0_length_8abf5_10
set_option maxHeartbeats 4000000 in
set_option maxRecDepth 100000 in
theorem k_coders2 (l : Launch) (D : va_G) (cy : Nat → ClassId) (sa : Nat → Nat) (sv : Nat → Nat) (dc : Nat) (sz : Nat) : Met l yJ0_coder_7d493 (Cond.code yJ0_coder_7d493 cJ0_coder_7d493 1 (some .byte) :: ALL) ({ frames := 0, cells := 0, slots := 0, locals := 0 }) (zPc D vwCl (TY cy) (EM sa sv dc) [.ref (sa 53)] [] sz) (va_Qi (fun r _ => r = 0) (zB D vwCl (TY cy) (S := Unit) (fun u => []) (va_A [] sz)) (va_A [] sz)) 0 0 (va_A [] sz) := by
  refine z_start (Qc := fun A => va_Qi (fun r _ => r = 0) (zB D vwCl (TY cy) (S := Unit) (fun u => []) A) A) PN_RJ0 (Nat.le_of_ble_eq_true rfl) ?_
  intro p e s m below meth c A ls hx hb hr hml hts hown hlocks hin hA hP hK hD hS hEn hl
  have hown : s.vm.findClass RJ0 = some m.cls := hown
  have hEm := hEn
  have hEn := hEn.1
  have hl : lv_has ls 1 [(0, .ref (sa 53))] := hl
  have hS0 := hS
  refine va_gets (C := "java/lang/String") (n := "COMPACT_STRINGS") (d := "Z") (v := .int 1) hx hb hEn.2.2.2.2.2 hS hown (hts _ K1440) (fun _ h9 => h9) dJ0_coder_7d493_0 ?_
  refine lv_if_eq (tgt := 13) hx hb dJ0_coder_7d493_3 (by decide) (fun c_3 => absurd c_3 (by decide)) (fun _ => ?_)
  refine lv_aload_n hx hb dJ0_coder_7d493_6 rfl (lv_at hl 0 rfl) ?_
  refine va_getX (N := 1) (i := 0) (v := fun _ => .int 0) (ad := fun _ => (sa 53)) (o := "java/lang/String") (n := "coder") (d := "B") hx hb (fun _ _ => (hEm.2.2.2.2 2 _ rfl).2.1) (by decide) hS hown (hts _ K1557) (fun _ h9 => h9) dJ0_coder_7d493_7 ?_
  refine W.eq (g2 := F0 m 10 ls [.int 0]) rfl ?_
  refine lv_goto (tgt := 14) hx hb dJ0_coder_7d493_10 (by decide) ?_
  exact z_reti () hx hb hr rfl hlocks hK (rfl) hP hD hS (Nat.le_of_ble_eq_true rfl) (Nat.le_of_ble_eq_true rfl) dJ0_coder_7d493_14
set_option maxHeartbeats 4000000 in
set_option maxRecDepth 100000 in
theorem k_isL1s2 (l : Launch) (D : va_G) (cy : Nat → ClassId) (sa : Nat → Nat) (sv : Nat → Nat) (dc : Nat) (sz : Nat) : Met l yJ0_isLatin1_aae02 (Cond.code yJ0_isLatin1_aae02 cJ0_isLatin1_aae02 1 (some .boolean) :: ALL) ({ frames := 0, cells := 0, slots := 0, locals := 0 }) (zPc D vwCl (TY cy) (EM sa sv dc) [.ref (sa 53)] [] sz) (va_Qi (fun r _ => r = 1) (zB D vwCl (TY cy) (S := Unit) (fun u => []) (va_A [] sz)) (va_A [] sz)) 0 0 (va_A [] sz) := by
  refine z_start (Qc := fun A => va_Qi (fun r _ => r = 1) (zB D vwCl (TY cy) (S := Unit) (fun u => []) A) A) PN_RJ0 (Nat.le_of_ble_eq_true rfl) ?_
  intro p e s m below meth c A ls hx hb hr hml hts hown hlocks hin hA hP hK hD hS hEn hl
  have hown : s.vm.findClass RJ0 = some m.cls := hown
  have hEm := hEn
  have hEn := hEn.1
  have hl : lv_has ls 1 [(0, .ref (sa 53))] := hl
  have hS0 := hS
  refine va_gets (C := "java/lang/String") (n := "COMPACT_STRINGS") (d := "Z") (v := .int 1) hx hb hEn.2.2.2.2.2 hS hown (hts _ K1440) (fun _ h9 => h9) dJ0_isLatin1_aae02_0 ?_
  refine lv_if_eq (tgt := 17) hx hb dJ0_isLatin1_aae02_3 (by decide) (fun c_3 => absurd c_3 (by decide)) (fun _ => ?_)
  refine lv_aload_n hx hb dJ0_isLatin1_aae02_6 rfl (lv_at hl 0 rfl) ?_
  refine va_getX (N := 1) (i := 0) (v := fun _ => .int 0) (ad := fun _ => (sa 53)) (o := "java/lang/String") (n := "coder") (d := "B") hx hb (fun _ _ => (hEm.2.2.2.2 2 _ rfl).2.1) (by decide) hS hown (hts _ K1557) (fun _ h9 => h9) dJ0_isLatin1_aae02_7 ?_
  refine W.eq (g2 := F0 m 10 ls [.int 0]) rfl ?_
  refine lv_if_ne (tgt := 17) hx hb dJ0_isLatin1_aae02_10 (by decide) (fun c_10 => absurd (by decide) c_10) (fun _ => ?_)
  refine lv_iconst (v := 1) hx hb dJ0_isLatin1_aae02_13 (by decide) ?_
  refine lv_goto (tgt := 18) hx hb dJ0_isLatin1_aae02_14 (by decide) ?_
  exact z_reti () hx hb hr rfl hlocks hK (rfl) hP hD hS (Nat.le_of_ble_eq_true rfl) (Nat.le_of_ble_eq_true rfl) dJ0_isLatin1_aae02_18
set_option maxHeartbeats 4000000 in
set_option maxRecDepth 100000 in
theorem k_lens2 (l : Launch) (D : va_G) (cy : Nat → ClassId) (sa : Nat → Nat) (sv : Nat → Nat) (dc : Nat) (sz : Nat) : Met l yJ0_length_8abf5 (Cond.code yJ0_length_8abf5 cJ0_length_8abf5 1 (some .int) :: ALL) ({ frames := 1, cells := 0, slots := 0, locals := 20 }) (zPc D vwCl (TY cy) (EM sa sv dc) [.ref (sa 53)] [] sz) (va_Qi (fun r _ => r = 10) (zB D vwCl (TY cy) (S := Unit) (fun u => []) (va_A [] sz)) (va_A [] sz)) 0 0 (va_A [] sz) := by
  refine z_start (Qc := fun A => va_Qi (fun r _ => r = 10) (zB D vwCl (TY cy) (S := Unit) (fun u => []) A) A) PN_RJ0 (Nat.le_of_ble_eq_true rfl) ?_
  intro p e s m below meth c A ls hx hb hr hml hts hown hlocks hin hA hP hK hD hS hEn hl
  have hown : s.vm.findClass RJ0 = some m.cls := hown
  have hEm := hEn
  have hEn := hEn.1
  have hl : lv_has ls 1 [(0, .ref (sa 53))] := hl
  have hS0 := hS
  refine lv_aload_n hx hb dJ0_length_8abf5_0 rfl (lv_at hl 0 rfl) ?_
  refine va_getX (N := 1) (i := 0) (v := fun _ => .ref (sv 2)) (ad := fun _ => (sa 53)) (o := "java/lang/String") (n := "value") (d := "[B") hx hb (fun _ _ => (hEm.2.2.2.2 2 _ rfl).2.2.1) (by decide) hS hown (hts _ K1556) (fun _ h9 => h9) dJ0_length_8abf5_1 ?_
  refine W.eq (g2 := F0 m 4 ls [.ref (sv 2)]) rfl ?_
  refine va_tlen (v := 10) hx hb (hEm.2.2.2.2 2 _ rfl).2.2.2 hS rfl dJ0_length_8abf5_4 ?_
  refine lv_aload_n hx hb dJ0_length_8abf5_5 rfl (lv_at hl 0 rfl) ?_
  refine z_calli (va_runV (As := []) (rest := [.int 10]) ⟨hx, hb, hml, hown, hts⟩ (k_coders2 l D cy sa sv dc _) (cwV 0 hts GV_RJ0_335 rfl rfl rfl ⟨rfl, HD_yJ0_coder_7d493⟩ ⟨Nat.le_of_ble_eq_true rfl, Nat.le_of_ble_eq_true rfl⟩) ⟨z_blind EM_ok, recvS (hEm.2.2.2.2 2 _ rfl).1 hS, z_pre EM_ok hP hK hD hEm hS (z_free hD hS hA)⟩ rfl rfl hl.1 rfl (lv_room (Nat.le_of_ble_eq_true rfl)) dJ0_length_8abf5_6 ⟨Nat.le_of_ble_eq_true rfl, Nat.le_of_ble_eq_true rfl⟩) hD hS hA (fun r_6 u6 H locs hw_6 hP hD hS => ?_)
  have hP : va_P D vwCl [] H := hP
  have hD : va_D A [] := hD
  obtain rfl := hw_6
  refine lv_ishr hx hb dJ0_length_8abf5_9 ?_
  refine lv_topi (fun v_1 hv_1 => ?_)
  obtain rfl : v_1 = 10 := hv_1.trans (by decide)
  exact z_reti () hx hb hr rfl hlocks hK (rfl) hP hD hS (Nat.le_of_ble_eq_true rfl) (Nat.le_of_ble_eq_true rfl) dJ0_length_8abf5_10
set_option maxHeartbeats 4000000 in
set_option maxRecDepth 100000 in
theorem k_coders3 (l : Launch) (D : va_G) (cy : Nat → ClassId) (sa : Nat → Nat) (sv : Nat → Nat) (dc : Nat) (sz : Nat) : Met l yJ0_coder_7d493 (Cond.code yJ0_coder_7d493 cJ0_coder_7d493 1 (some .byte) :: ALL) ({ frames := 0, cells := 0, slots := 0, locals := 0 }) (zPc D vwCl (TY cy) (EM sa sv dc) [.ref (sa 54)] [] sz) (va_Qi (fun r _ => r = 0) (zB D vwCl (TY cy) (S := Unit) (fun u => []) (va_A [] sz)) (va_A [] sz)) 0 0 (va_A [] sz) := by
  refine z_start (Qc := fun A => va_Qi (fun r _ => r = 0) (zB D vwCl (TY cy) (S := Unit) (fun u => []) A) A) PN_RJ0 (Nat.le_of_ble_eq_true rfl) ?_
  intro p e s m below meth c A ls hx hb hr hml hts hown hlocks hin hA hP hK hD hS hEn hl
  have hown : s.vm.findClass RJ0 = some m.cls := hown
  have hEm := hEn
  have hEn := hEn.1
  have hl : lv_has ls 1 [(0, .ref (sa 54))] := hl
  have hS0 := hS
  refine va_gets (C := "java/lang/String") (n := "COMPACT_STRINGS") (d := "Z") (v := .int 1) hx hb hEn.2.2.2.2.2 hS hown (hts _ K1440) (fun _ h9 => h9) dJ0_coder_7d493_0 ?_
  refine lv_if_eq (tgt := 13) hx hb dJ0_coder_7d493_3 (by decide) (fun c_3 => absurd c_3 (by decide)) (fun _ => ?_)
  refine lv_aload_n hx hb dJ0_coder_7d493_6 rfl (lv_at hl 0 rfl) ?_
  refine va_getX (N := 1) (i := 0) (v := fun _ => .int 0) (ad := fun _ => (sa 54)) (o := "java/lang/String") (n := "coder") (d := "B") hx hb (fun _ _ => (hEm.2.2.2.2 3 _ rfl).2.1) (by decide) hS hown (hts _ K1557) (fun _ h9 => h9) dJ0_coder_7d493_7 ?_
  refine W.eq (g2 := F0 m 10 ls [.int 0]) rfl ?_
  refine lv_goto (tgt := 14) hx hb dJ0_coder_7d493_10 (by decide) ?_
  exact z_reti () hx hb hr rfl hlocks hK (rfl) hP hD hS (Nat.le_of_ble_eq_true rfl) (Nat.le_of_ble_eq_true rfl) dJ0_coder_7d493_14
set_option maxHeartbeats 4000000 in
set_option maxRecDepth 100000 in
theorem k_isL1s3 (l : Launch) (D : va_G) (cy : Nat → ClassId) (sa : Nat → Nat) (sv : Nat → Nat) (dc : Nat) (sz : Nat) : Met l yJ0_isLatin1_aae02 (Cond.code yJ0_isLatin1_aae02 cJ0_isLatin1_aae02 1 (some .boolean) :: ALL) ({ frames := 0, cells := 0, slots := 0, locals := 0 }) (zPc D vwCl (TY cy) (EM sa sv dc) [.ref (sa 54)] [] sz) (va_Qi (fun r _ => r = 1) (zB D vwCl (TY cy) (S := Unit) (fun u => []) (va_A [] sz)) (va_A [] sz)) 0 0 (va_A [] sz) := by
  refine z_start (Qc := fun A => va_Qi (fun r _ => r = 1) (zB D vwCl (TY cy) (S := Unit) (fun u => []) A) A) PN_RJ0 (Nat.le_of_ble_eq_true rfl) ?_
  intro p e s m below meth c A ls hx hb hr hml hts hown hlocks hin hA hP hK hD hS hEn hl
  have hown : s.vm.findClass RJ0 = some m.cls := hown
  have hEm := hEn
  have hEn := hEn.1
  have hl : lv_has ls 1 [(0, .ref (sa 54))] := hl
  have hS0 := hS
  refine va_gets (C := "java/lang/String") (n := "COMPACT_STRINGS") (d := "Z") (v := .int 1) hx hb hEn.2.2.2.2.2 hS hown (hts _ K1440) (fun _ h9 => h9) dJ0_isLatin1_aae02_0 ?_
  refine lv_if_eq (tgt := 17) hx hb dJ0_isLatin1_aae02_3 (by decide) (fun c_3 => absurd c_3 (by decide)) (fun _ => ?_)
  refine lv_aload_n hx hb dJ0_isLatin1_aae02_6 rfl (lv_at hl 0 rfl) ?_
  refine va_getX (N := 1) (i := 0) (v := fun _ => .int 0) (ad := fun _ => (sa 54)) (o := "java/lang/String") (n := "coder") (d := "B") hx hb (fun _ _ => (hEm.2.2.2.2 3 _ rfl).2.1) (by decide) hS hown (hts _ K1557) (fun _ h9 => h9) dJ0_isLatin1_aae02_7 ?_
  refine W.eq (g2 := F0 m 10 ls [.int 0]) rfl ?_
  refine lv_if_ne (tgt := 17) hx hb dJ0_isLatin1_aae02_10 (by decide) (fun c_10 => absurd (by decide) c_10) (fun _ => ?_)
  refine lv_iconst (v := 1) hx hb dJ0_isLatin1_aae02_13 (by decide) ?_
  refine lv_goto (tgt := 18) hx hb dJ0_isLatin1_aae02_14 (by decide) ?_
  exact z_reti () hx hb hr rfl hlocks hK (rfl) hP hD hS (Nat.le_of_ble_eq_true rfl) (Nat.le_of_ble_eq_true rfl) dJ0_isLatin1_aae02_18
set_option maxHeartbeats 4000000 in
set_option maxRecDepth 100000 in
theorem k_lens3 (l : Launch) (D : va_G) (cy : Nat → ClassId) (sa : Nat → Nat) (sv : Nat → Nat) (dc : Nat) (sz : Nat) : Met l yJ0_length_8abf5 (Cond.code yJ0_length_8abf5 cJ0_length_8abf5 1 (some .int) :: ALL) ({ frames := 1, cells := 0, slots := 0, locals := 20 }) (zPc D vwCl (TY cy) (EM sa sv dc) [.ref (sa 54)] [] sz) (va_Qi (fun r _ => r = 6) (zB D vwCl (TY cy) (S := Unit) (fun u => []) (va_A [] sz)) (va_A [] sz)) 0 0 (va_A [] sz) := by
  refine z_start (Qc := fun A => va_Qi (fun r _ => r = 6) (zB D vwCl (TY cy) (S := Unit) (fun u => []) A) A) PN_RJ0 (Nat.le_of_ble_eq_true rfl) ?_
  intro p e s m below meth c A ls hx hb hr hml hts hown hlocks hin hA hP hK hD hS hEn hl
  have hown : s.vm.findClass RJ0 = some m.cls := hown
  have hEm := hEn
  have hEn := hEn.1
  have hl : lv_has ls 1 [(0, .ref (sa 54))] := hl
  have hS0 := hS
  refine lv_aload_n hx hb dJ0_length_8abf5_0 rfl (lv_at hl 0 rfl) ?_
  refine va_getX (N := 1) (i := 0) (v := fun _ => .ref (sv 3)) (ad := fun _ => (sa 54)) (o := "java/lang/String") (n := "value") (d := "[B") hx hb (fun _ _ => (hEm.2.2.2.2 3 _ rfl).2.2.1) (by decide) hS hown (hts _ K1556) (fun _ h9 => h9) dJ0_length_8abf5_1 ?_
  refine W.eq (g2 := F0 m 4 ls [.ref (sv 3)]) rfl ?_
  refine va_tlen (v := 6) hx hb (hEm.2.2.2.2 3 _ rfl).2.2.2 hS rfl dJ0_length_8abf5_4 ?_
  refine lv_aload_n hx hb dJ0_length_8abf5_5 rfl (lv_at hl 0 rfl) ?_
  refine z_calli (va_runV (As := []) (rest := [.int 6]) ⟨hx, hb, hml, hown, hts⟩ (k_coders3 l D cy sa sv dc _) (cwV 0 hts GV_RJ0_335 rfl rfl rfl ⟨rfl, HD_yJ0_coder_7d493⟩ ⟨Nat.le_of_ble_eq_true rfl, Nat.le_of_ble_eq_true rfl⟩) ⟨z_blind EM_ok, recvS (hEm.2.2.2.2 3 _ rfl).1 hS, z_pre EM_ok hP hK hD hEm hS (z_free hD hS hA)⟩ rfl rfl hl.1 rfl (lv_room (Nat.le_of_ble_eq_true rfl)) dJ0_length_8abf5_6 ⟨Nat.le_of_ble_eq_true rfl, Nat.le_of_ble_eq_true rfl⟩) hD hS hA (fun r_6 u6 H locs hw_6 hP hD hS => ?_)
  have hP : va_P D vwCl [] H := hP
  have hD : va_D A [] := hD
  obtain rfl := hw_6
  refine lv_ishr hx hb dJ0_length_8abf5_9 ?_
  refine lv_topi (fun v_1 hv_1 => ?_)
  obtain rfl : v_1 = 6 := hv_1.trans (by decide)
  exact z_reti () hx hb hr rfl hlocks hK (rfl) hP hD hS (Nat.le_of_ble_eq_true rfl) (Nat.le_of_ble_eq_true rfl) dJ0_length_8abf5_10
set_option maxHeartbeats 4000000 in
set_option maxRecDepth 100000 in
theorem k_coders4 (l : Launch) (D : va_G) (cy : Nat → ClassId) (sa : Nat → Nat) (sv : Nat → Nat) (dc : Nat) (sz : Nat) : Met l yJ0_coder_7d493 (Cond.code yJ0_coder_7d493 cJ0_coder_7d493 1 (some .byte) :: ALL) ({ frames := 0, cells := 0, slots := 0, locals := 0 }) (zPc D vwCl (TY cy) (EM sa sv dc) [.ref (sa 56)] [] sz) (va_Qi (fun r _ => r = 0) (zB D vwCl (TY cy) (S := Unit) (fun u => []) (va_A [] sz)) (va_A [] sz)) 0 0 (va_A [] sz) := by
  refine z_start (Qc := fun A => va_Qi (fun r _ => r = 0) (zB D vwCl (TY cy) (S := Unit) (fun u => []) A) A) PN_RJ0 (Nat.le_of_ble_eq_true rfl) ?_
  intro p e s m below meth c A ls hx hb hr hml hts hown hlocks hin hA hP hK hD hS hEn hl
  have hown : s.vm.findClass RJ0 = some m.cls := hown
  have hEm := hEn
  have hEn := hEn.1
  have hl : lv_has ls 1 [(0, .ref (sa 56))] := hl
  have hS0 := hS
  refine va_gets (C := "java/lang/String") (n := "COMPACT_STRINGS") (d := "Z") (v := .int 1) hx hb hEn.2.2.2.2.2 hS hown (hts _ K1440) (fun _ h9 => h9) dJ0_coder_7d493_0 ?_
  refine lv_if_eq (tgt := 13) hx hb dJ0_coder_7d493_3 (by decide) (fun c_3 => absurd c_3 (by decide)) (fun _ => ?_)
  refine lv_aload_n hx hb dJ0_coder_7d493_6 rfl (lv_at hl 0 rfl) ?_
  refine va_getX (N := 1) (i := 0) (v := fun _ => .int 0) (ad := fun _ => (sa 56)) (o := "java/lang/String") (n := "coder") (d := "B") hx hb (fun _ _ => (hEm.2.2.2.2 4 _ rfl).2.1) (by decide) hS hown (hts _ K1557) (fun _ h9 => h9) dJ0_coder_7d493_7 ?_
  refine W.eq (g2 := F0 m 10 ls [.int 0]) rfl ?_
  refine lv_goto (tgt := 14) hx hb dJ0_coder_7d493_10 (by decide) ?_
  exact z_reti () hx hb hr rfl hlocks hK (rfl) hP hD hS (Nat.le_of_ble_eq_true rfl) (Nat.le_of_ble_eq_true rfl) dJ0_coder_7d493_14
set_option maxHeartbeats 4000000 in
set_option maxRecDepth 100000 in
theorem k_isL1s4 (l : Launch) (D : va_G) (cy : Nat → ClassId) (sa : Nat → Nat) (sv : Nat → Nat) (dc : Nat) (sz : Nat) : Met l yJ0_isLatin1_aae02 (Cond.code yJ0_isLatin1_aae02 cJ0_isLatin1_aae02 1 (some .boolean) :: ALL) ({ frames := 0, cells := 0, slots := 0, locals := 0 }) (zPc D vwCl (TY cy) (EM sa sv dc) [.ref (sa 56)] [] sz) (va_Qi (fun r _ => r = 1) (zB D vwCl (TY cy) (S := Unit) (fun u => []) (va_A [] sz)) (va_A [] sz)) 0 0 (va_A [] sz) := by
  refine z_start (Qc := fun A => va_Qi (fun r _ => r = 1) (zB D vwCl (TY cy) (S := Unit) (fun u => []) A) A) PN_RJ0 (Nat.le_of_ble_eq_true rfl) ?_
  intro p e s m below meth c A ls hx hb hr hml hts hown hlocks hin hA hP hK hD hS hEn hl
  have hown : s.vm.findClass RJ0 = some m.cls := hown
  have hEm := hEn
  have hEn := hEn.1
  have hl : lv_has ls 1 [(0, .ref (sa 56))] := hl
  have hS0 := hS
  refine va_gets (C := "java/lang/String") (n := "COMPACT_STRINGS") (d := "Z") (v := .int 1) hx hb hEn.2.2.2.2.2 hS hown (hts _ K1440) (fun _ h9 => h9) dJ0_isLatin1_aae02_0 ?_
  refine lv_if_eq (tgt := 17) hx hb dJ0_isLatin1_aae02_3 (by decide) (fun c_3 => absurd c_3 (by decide)) (fun _ => ?_)
  refine lv_aload_n hx hb dJ0_isLatin1_aae02_6 rfl (lv_at hl 0 rfl) ?_
  refine va_getX (N := 1) (i := 0) (v := fun _ => .int 0) (ad := fun _ => (sa 56)) (o := "java/lang/String") (n := "coder") (d := "B") hx hb (fun _ _ => (hEm.2.2.2.2 4 _ rfl).2.1) (by decide) hS hown (hts _ K1557) (fun _ h9 => h9) dJ0_isLatin1_aae02_7 ?_
  refine W.eq (g2 := F0 m 10 ls [.int 0]) rfl ?_
  refine lv_if_ne (tgt := 17) hx hb dJ0_isLatin1_aae02_10 (by decide) (fun c_10 => absurd (by decide) c_10) (fun _ => ?_)
  refine lv_iconst (v := 1) hx hb dJ0_isLatin1_aae02_13 (by decide) ?_
  refine lv_goto (tgt := 18) hx hb dJ0_isLatin1_aae02_14 (by decide) ?_
  exact z_reti () hx hb hr rfl hlocks hK (rfl) hP hD hS (Nat.le_of_ble_eq_true rfl) (Nat.le_of_ble_eq_true rfl) dJ0_isLatin1_aae02_18
set_option maxHeartbeats 4000000 in
set_option maxRecDepth 100000 in
theorem k_lens4 (l : Launch) (D : va_G) (cy : Nat → ClassId) (sa : Nat → Nat) (sv : Nat → Nat) (dc : Nat) (sz : Nat) : Met l yJ0_length_8abf5 (Cond.code yJ0_length_8abf5 cJ0_length_8abf5 1 (some .int) :: ALL) ({ frames := 1, cells := 0, slots := 0, locals := 20 }) (zPc D vwCl (TY cy) (EM sa sv dc) [.ref (sa 56)] [] sz) (va_Qi (fun r _ => r = 3) (zB D vwCl (TY cy) (S := Unit) (fun u => []) (va_A [] sz)) (va_A [] sz)) 0 0 (va_A [] sz) := by
  refine z_start (Qc := fun A => va_Qi (fun r _ => r = 3) (zB D vwCl (TY cy) (S := Unit) (fun u => []) A) A) PN_RJ0 (Nat.le_of_ble_eq_true rfl) ?_
  intro p e s m below meth c A ls hx hb hr hml hts hown hlocks hin hA hP hK hD hS hEn hl
  have hown : s.vm.findClass RJ0 = some m.cls := hown
  have hEm := hEn
  have hEn := hEn.1
  have hl : lv_has ls 1 [(0, .ref (sa 56))] := hl
  have hS0 := hS
  refine lv_aload_n hx hb dJ0_length_8abf5_0 rfl (lv_at hl 0 rfl) ?_
  refine va_getX (N := 1) (i := 0) (v := fun _ => .ref (sv 4)) (ad := fun _ => (sa 56)) (o := "java/lang/String") (n := "value") (d := "[B") hx hb (fun _ _ => (hEm.2.2.2.2 4 _ rfl).2.2.1) (by decide) hS hown (hts _ K1556) (fun _ h9 => h9) dJ0_length_8abf5_1 ?_
  refine W.eq (g2 := F0 m 4 ls [.ref (sv 4)]) rfl ?_
  refine va_tlen (v := 3) hx hb (hEm.2.2.2.2 4 _ rfl).2.2.2 hS rfl dJ0_length_8abf5_4 ?_
  refine lv_aload_n hx hb dJ0_length_8abf5_5 rfl (lv_at hl 0 rfl) ?_
  refine z_calli (va_runV (As := []) (rest := [.int 3]) ⟨hx, hb, hml, hown, hts⟩ (k_coders4 l D cy sa sv dc _) (cwV 0 hts GV_RJ0_335 rfl rfl rfl ⟨rfl, HD_yJ0_coder_7d493⟩ ⟨Nat.le_of_ble_eq_true rfl, Nat.le_of_ble_eq_true rfl⟩) ⟨z_blind EM_ok, recvS (hEm.2.2.2.2 4 _ rfl).1 hS, z_pre EM_ok hP hK hD hEm hS (z_free hD hS hA)⟩ rfl rfl hl.1 rfl (lv_room (Nat.le_of_ble_eq_true rfl)) dJ0_length_8abf5_6 ⟨Nat.le_of_ble_eq_true rfl, Nat.le_of_ble_eq_true rfl⟩) hD hS hA (fun r_6 u6 H locs hw_6 hP hD hS => ?_)
  have hP : va_P D vwCl [] H := hP
  have hD : va_D A [] := hD
  obtain rfl := hw_6
  refine lv_ishr hx hb dJ0_length_8abf5_9 ?_
  refine lv_topi (fun v_1 hv_1 => ?_)
  obtain rfl : v_1 = 3 := hv_1.trans (by decide)
  exact z_reti () hx hb hr rfl hlocks hK (rfl) hP hD hS (Nat.le_of_ble_eq_true rfl) (Nat.le_of_ble_eq_true rfl) dJ0_length_8abf5_10
