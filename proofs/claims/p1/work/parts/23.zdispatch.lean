set_option maxHeartbeats 4000000 in
set_option maxRecDepth 100000 in
theorem lc_all {p : Program} {l : Launch} {e : Env} {s : State} {m : MethodId} {below : List Frame} {meth : Method} {c : Code} {Q : State → Prop} {A : Nat → Prop} {D : va_G} {cy : Nat → ClassId} {sa sv : Nat → Nat} {dc b : Nat} {xs : Nat → Int32} (C1 : LCtx p l e s m below meth c Q A D cy sa sv dc b xs) (x pg nm bp wt nw tr hi he uw vi sp sg pf pl pc1 pc2 pk1 pk2 pk3 pk4 pk5 pf1 pf2 ns nh n1 n2 n3 n4 n5 n6 n7 ns1 ns2 b1 b2 b3 b4 b5 b6 b7 b8 b9 b10 w1 w2 w3 w10 w11 w12 w13 nwc nwt nwt0 nwt1 nwt2 nwt0r nwt0s nwt1r nwt1s nwt2r nwt2s trc trt trt0 trt1 trt2 trt0r trt0s trt1r trt1s trt2r trt2s hs hsc hst hst0 hst1 hst2 hst0r hst0s hst1r hst1s hst2r hst2s ht sgv o od md mt lkp lcd mli mru lfn mhe mma lin lsc lva lpl lbr lwa mtc mtt : Nat) {H : Heap} {locs : List Loc} {ls : Array Slot} (hP : va_P D vwCl (LW cy sa dc x pg nm bp wt nw tr hi he uw vi sp sg pf pl pc1 pc2 pk1 pk2 pk3 pk4 pk5 pf1 pf2 ns nh n1 n2 n3 n4 n5 n6 n7 ns1 ns2 b1 b2 b3 b4 b5 b6 b7 b8 b9 b10 w1 w2 w3 w10 w11 w12 w13 nwc nwt nwt0 nwt1 nwt2 nwt0r nwt0s nwt1r nwt1s nwt2r nwt2s trc trt trt0 trt1 trt2 trt0r trt0s trt1r trt1s trt2r trt2s hs hsc hst hst0 hst1 hst2 hst0r hst0s hst1r hst1s hst2r hst2s ht sgv o od md mt lkp lcd mli mru lfn mhe mma lin lsc lva lpl lbr lwa mtc mtt) H) (hD : va_D A (LW cy sa dc x pg nm bp wt nw tr hi he uw vi sp sg pf pl pc1 pc2 pk1 pk2 pk3 pk4 pk5 pf1 pf2 ns nh n1 n2 n3 n4 n5 n6 n7 ns1 ns2 b1 b2 b3 b4 b5 b6 b7 b8 b9 b10 w1 w2 w3 w10 w11 w12 w13 nwc nwt nwt0 nwt1 nwt2 nwt0r nwt0s nwt1r nwt1s nwt2r nwt2s trc trt trt0 trt1 trt2 trt0r trt0s trt1r trt1s trt2r trt2s hs hsc hst hst0 hst1 hst2 hst0r hst0s hst1r hst1s hst2r hst2s ht sgv o od md mt lkp lcd mli mru lfn mhe mma lin lsc lva lpl lbr lwa mtc mtt)) (hS : va_S A s.heap H locs) (hl : lv_has ls 9 [(5, .int 0), (4, .ref od), (3, .ref o), (2, .ref md), (1, .ref x), (0, .ref b)]) : W p l e room_1 s m #[Value.ref b] below meth c H locs 2000 9000 Q (F0 m 38 ls []) := by
  obtain ⟨hfl, hx, hb, hml, hown, hts, hA, hK, hEm, hX, hbl, hbA, hNc, kend⟩ := id C1
  have hEn := hEm.1
  have hP : va_P D vwCl [(x, .inr (17, [.ref pg, .ref nm, .ref bp, .ref wt, .ref nw, .ref tr, .ref hi, .ref he, .ref uw, .ref vi, .ref sp, .ref sg, .int 45, .int (-1)])), (pg, .inr (9, [.ref pf, .ref pl, .ref pc1, .ref pc2, .ref pk1, .ref pk2, .ref pk3, .ref pk4, .ref pk5, .int 0])), (pf, .inr (10, [.ref pf1, .ref pf2, .int 0])), (pk1, .inl (cy 1, 60, .inl (fun _ => 0))), (pk2, .inl (cy 0, 60, .inl (fun _ => 0))), (pk3, .inl (cy 0, 60, .inl (fun _ => 0))), (pk4, .inl (cy 0, 60, .inl (fun _ => 0))), (pk5, .inl (cy 1, 60, .inl (fun _ => 0))), (nm, .inr (8, [.ref pg, .ref ns, .ref nh, .ref n1, .ref n2, .ref n3, .ref n4, .ref n5, .ref n6, .ref n7, .int 0])), (ns, .inr (10, [.ref ns1, .ref ns2, .int 0])), (bp, .inr (6, [.ref pg, .ref nm, .ref b1, .ref b2, .ref b3, .ref b4, .ref b5, .ref b6, .ref b7, .ref b8, .ref b9, .ref b10, .int 0])), (wt, .inr (16, [.ref w1, .ref w2, .ref w3, .int 0])), (w1, .inl (cy 6, 4, .inr (.inr (.inr (.inr (va_up (va_up (va_up (va_up (fun _ => none) 0 (some w10)) 1 (some w11)) 2 (some w12)) 3 (some w13))))))), (w10, .inr (11, [.int 45, .int 0, .int 0])), (w2, .inl (cy 0, 4, .inl (fun _ => 0))), (nw, .inr (12, [.ref nwc, .ref nwt, .int 0, .int (-1), .int 0])), (nwc, .inl (cy 0, 16, .inl (fun _ => 0))), (nwt, .inl (cy 5, 3, .inr (.inr (.inr (.inr (va_up (va_up (va_up (fun _ => none) 0 (some nwt0)) 1 (some nwt1)) 2 (some nwt2))))))), (nwt0, .inr (13, [.ref nwt0r, .ref nwt0s, .int 0, .int 0, .int 0, .int 114, .int 45])), (nwt0r, .inl (cy 0, 4, .inl (fun _ => 0))), (nwt0s, .inl (cy 0, 40, .inl (fun _ => 0))), (nwt1, .inr (13, [.ref nwt1r, .ref nwt1s, .int 0, .int 0, .int 0, .int 114, .int 45])), (nwt1r, .inl (cy 0, 4, .inl (fun _ => 0))), (nwt1s, .inl (cy 0, 40, .inl (fun _ => 0))), (nwt2, .inr (13, [.ref nwt2r, .ref nwt2s, .int 0, .int 0, .int 0, .int 114, .int 45])), (nwt2r, .inl (cy 0, 4, .inl (fun _ => 0))), (nwt2s, .inl (cy 0, 40, .inl (fun _ => 0))), (tr, .inr (12, [.ref trc, .ref trt, .int 0, .int (-1), .int 0])), (trc, .inl (cy 0, 16, .inl (fun _ => 0))), (trt, .inl (cy 5, 3, .inr (.inr (.inr (.inr (va_up (va_up (va_up (fun _ => none) 0 (some trt0)) 1 (some trt1)) 2 (some trt2))))))), (trt0, .inr (13, [.ref trt0r, .ref trt0s, .int 0, .int 0, .int 0, .int 114, .int 45])), (trt0r, .inl (cy 0, 4, .inl (fun _ => 0))), (trt0s, .inl (cy 0, 40, .inl (fun _ => 0))), (trt1, .inr (13, [.ref trt1r, .ref trt1s, .int 0, .int 0, .int 0, .int 114, .int 45])), (trt1r, .inl (cy 0, 4, .inl (fun _ => 0))), (trt1s, .inl (cy 0, 40, .inl (fun _ => 0))), (trt2, .inr (13, [.ref trt2r, .ref trt2s, .int 0, .int 0, .int 0, .int 114, .int 45])), (trt2r, .inl (cy 0, 4, .inl (fun _ => 0))), (trt2s, .inl (cy 0, 40, .inl (fun _ => 0))), (hs, .inr (12, [.ref hsc, .ref hst, .int 0, .int (-1), .int 0])), (hsc, .inl (cy 0, 16, .inl (fun _ => 0))), (hst, .inl (cy 5, 3, .inr (.inr (.inr (.inr (va_up (va_up (va_up (fun _ => none) 0 (some hst0)) 1 (some hst1)) 2 (some hst2))))))), (hst0, .inr (13, [.ref hst0r, .ref hst0s, .int 0, .int 0, .int 0, .int 114, .int 45])), (hst0r, .inl (cy 0, 4, .inl (fun _ => 0))), (hst0s, .inl (cy 0, 40, .inl (fun _ => 0))), (hst1, .inr (13, [.ref hst1r, .ref hst1s, .int 0, .int 0, .int 0, .int 114, .int 45])), (hst1r, .inl (cy 0, 4, .inl (fun _ => 0))), (hst1s, .inl (cy 0, 40, .inl (fun _ => 0))), (hst2, .inr (13, [.ref hst2r, .ref hst2s, .int 0, .int 0, .int 0, .int 114, .int 45])), (hst2r, .inl (cy 0, 4, .inl (fun _ => 0))), (hst2s, .inl (cy 0, 40, .inl (fun _ => 0))), (hi, .inr (7, [.ref pg, .ref hs, .ref ht, .int 0])), (sp, .inr (11, [.int 45, .int 0, .int 0])), (sg, .inr (1, [.ref sgv, .int 0, .int 0, .int 0])), (o, .inl (cy 3, 1, .inr (.inl (fun _ => 0)))), (od, .inl (cy 4, 1, .inr (.inr (.inr (.inl (fun _ => 0)))))), (md, .inr (21, [.int 0, .ref mt, .ref lkp, .ref lcd, .ref mli, .ref mru, .ref lfn, .ref mhe, .ref mma, .ref lin, .ref lsc, .ref lva, .ref lpl, .ref (sa 51), .ref lbr, .ref lwa, .int 45, .int (-1)])), (mt, .inr (20, [.ref mtc, .ref mtt, .int (-1), .int 0, .int (-1)])), (mtc, .inl (cy 0, 16, .inl (fun _ => 0))), (mtt, .inr (5, [.int 0, .ref dc, .int 0])), (lkp, .inr (5, [.int 0, .ref dc, .int 0])), (lcd, .inr (5, [.int 0, .ref dc, .int 0])), (lfn, .inr (5, [.int 0, .ref dc, .int 0])), (lin, .inr (5, [.int 0, .ref dc, .int 0])), (lsc, .inr (5, [.int 0, .ref dc, .int 0])), (lva, .inr (5, [.int 0, .ref dc, .int 0])), (lpl, .inr (5, [.int 0, .ref dc, .int 0])), (lbr, .inr (5, [.int 0, .ref dc, .int 0])), (lwa, .inr (5, [.int 0, .ref dc, .int 0]))] H := hP
  have hD : va_D A [(x, .inr (17, [.ref pg, .ref nm, .ref bp, .ref wt, .ref nw, .ref tr, .ref hi, .ref he, .ref uw, .ref vi, .ref sp, .ref sg, .int 45, .int (-1)])), (pg, .inr (9, [.ref pf, .ref pl, .ref pc1, .ref pc2, .ref pk1, .ref pk2, .ref pk3, .ref pk4, .ref pk5, .int 0])), (pf, .inr (10, [.ref pf1, .ref pf2, .int 0])), (pk1, .inl (cy 1, 60, .inl (fun _ => 0))), (pk2, .inl (cy 0, 60, .inl (fun _ => 0))), (pk3, .inl (cy 0, 60, .inl (fun _ => 0))), (pk4, .inl (cy 0, 60, .inl (fun _ => 0))), (pk5, .inl (cy 1, 60, .inl (fun _ => 0))), (nm, .inr (8, [.ref pg, .ref ns, .ref nh, .ref n1, .ref n2, .ref n3, .ref n4, .ref n5, .ref n6, .ref n7, .int 0])), (ns, .inr (10, [.ref ns1, .ref ns2, .int 0])), (bp, .inr (6, [.ref pg, .ref nm, .ref b1, .ref b2, .ref b3, .ref b4, .ref b5, .ref b6, .ref b7, .ref b8, .ref b9, .ref b10, .int 0])), (wt, .inr (16, [.ref w1, .ref w2, .ref w3, .int 0])), (w1, .inl (cy 6, 4, .inr (.inr (.inr (.inr (va_up (va_up (va_up (va_up (fun _ => none) 0 (some w10)) 1 (some w11)) 2 (some w12)) 3 (some w13))))))), (w10, .inr (11, [.int 45, .int 0, .int 0])), (w2, .inl (cy 0, 4, .inl (fun _ => 0))), (nw, .inr (12, [.ref nwc, .ref nwt, .int 0, .int (-1), .int 0])), (nwc, .inl (cy 0, 16, .inl (fun _ => 0))), (nwt, .inl (cy 5, 3, .inr (.inr (.inr (.inr (va_up (va_up (va_up (fun _ => none) 0 (some nwt0)) 1 (some nwt1)) 2 (some nwt2))))))), (nwt0, .inr (13, [.ref nwt0r, .ref nwt0s, .int 0, .int 0, .int 0, .int 114, .int 45])), (nwt0r, .inl (cy 0, 4, .inl (fun _ => 0))), (nwt0s, .inl (cy 0, 40, .inl (fun _ => 0))), (nwt1, .inr (13, [.ref nwt1r, .ref nwt1s, .int 0, .int 0, .int 0, .int 114, .int 45])), (nwt1r, .inl (cy 0, 4, .inl (fun _ => 0))), (nwt1s, .inl (cy 0, 40, .inl (fun _ => 0))), (nwt2, .inr (13, [.ref nwt2r, .ref nwt2s, .int 0, .int 0, .int 0, .int 114, .int 45])), (nwt2r, .inl (cy 0, 4, .inl (fun _ => 0))), (nwt2s, .inl (cy 0, 40, .inl (fun _ => 0))), (tr, .inr (12, [.ref trc, .ref trt, .int 0, .int (-1), .int 0])), (trc, .inl (cy 0, 16, .inl (fun _ => 0))), (trt, .inl (cy 5, 3, .inr (.inr (.inr (.inr (va_up (va_up (va_up (fun _ => none) 0 (some trt0)) 1 (some trt1)) 2 (some trt2))))))), (trt0, .inr (13, [.ref trt0r, .ref trt0s, .int 0, .int 0, .int 0, .int 114, .int 45])), (trt0r, .inl (cy 0, 4, .inl (fun _ => 0))), (trt0s, .inl (cy 0, 40, .inl (fun _ => 0))), (trt1, .inr (13, [.ref trt1r, .ref trt1s, .int 0, .int 0, .int 0, .int 114, .int 45])), (trt1r, .inl (cy 0, 4, .inl (fun _ => 0))), (trt1s, .inl (cy 0, 40, .inl (fun _ => 0))), (trt2, .inr (13, [.ref trt2r, .ref trt2s, .int 0, .int 0, .int 0, .int 114, .int 45])), (trt2r, .inl (cy 0, 4, .inl (fun _ => 0))), (trt2s, .inl (cy 0, 40, .inl (fun _ => 0))), (hs, .inr (12, [.ref hsc, .ref hst, .int 0, .int (-1), .int 0])), (hsc, .inl (cy 0, 16, .inl (fun _ => 0))), (hst, .inl (cy 5, 3, .inr (.inr (.inr (.inr (va_up (va_up (va_up (fun _ => none) 0 (some hst0)) 1 (some hst1)) 2 (some hst2))))))), (hst0, .inr (13, [.ref hst0r, .ref hst0s, .int 0, .int 0, .int 0, .int 114, .int 45])), (hst0r, .inl (cy 0, 4, .inl (fun _ => 0))), (hst0s, .inl (cy 0, 40, .inl (fun _ => 0))), (hst1, .inr (13, [.ref hst1r, .ref hst1s, .int 0, .int 0, .int 0, .int 114, .int 45])), (hst1r, .inl (cy 0, 4, .inl (fun _ => 0))), (hst1s, .inl (cy 0, 40, .inl (fun _ => 0))), (hst2, .inr (13, [.ref hst2r, .ref hst2s, .int 0, .int 0, .int 0, .int 114, .int 45])), (hst2r, .inl (cy 0, 4, .inl (fun _ => 0))), (hst2s, .inl (cy 0, 40, .inl (fun _ => 0))), (hi, .inr (7, [.ref pg, .ref hs, .ref ht, .int 0])), (sp, .inr (11, [.int 45, .int 0, .int 0])), (sg, .inr (1, [.ref sgv, .int 0, .int 0, .int 0])), (o, .inl (cy 3, 1, .inr (.inl (fun _ => 0)))), (od, .inl (cy 4, 1, .inr (.inr (.inr (.inl (fun _ => 0)))))), (md, .inr (21, [.int 0, .ref mt, .ref lkp, .ref lcd, .ref mli, .ref mru, .ref lfn, .ref mhe, .ref mma, .ref lin, .ref lsc, .ref lva, .ref lpl, .ref (sa 51), .ref lbr, .ref lwa, .int 45, .int (-1)])), (mt, .inr (20, [.ref mtc, .ref mtt, .int (-1), .int 0, .int (-1)])), (mtc, .inl (cy 0, 16, .inl (fun _ => 0))), (mtt, .inr (5, [.int 0, .ref dc, .int 0])), (lkp, .inr (5, [.int 0, .ref dc, .int 0])), (lcd, .inr (5, [.int 0, .ref dc, .int 0])), (lfn, .inr (5, [.int 0, .ref dc, .int 0])), (lin, .inr (5, [.int 0, .ref dc, .int 0])), (lsc, .inr (5, [.int 0, .ref dc, .int 0])), (lva, .inr (5, [.int 0, .ref dc, .int 0])), (lpl, .inr (5, [.int 0, .ref dc, .int 0])), (lbr, .inr (5, [.int 0, .ref dc, .int 0])), (lwa, .inr (5, [.int 0, .ref dc, .int 0]))] := hD
  refine lv_aload_n hx hb dL_law_38 rfl (lv_at hl 5 rfl) ?_
  refine lv_iload hx hb dL_law_39 (lv_at hl 0 rfl) ?_
  refine va_sld hx hb hX hbl hbA hS (by unfold vp_in; decide) dL_law_41 ?_
  refine W.eq (g2 := F0 m 42 ls [.int (xs 0)]) rfl ?_
  refine lv_bipush (v := 63) hx hb dL_law_42 (by decide) ?_
  refine lv_iand hx hb dL_law_44 ?_
  by_cases h0 : (xs 0) &&& 63 = 0
  · refine W.eq (g2 := F0 m 45 ls [.int 0]) (by rw [h0]) ?_
    refine lv_tableIn (off := 187) (tgt := 232) hx hb dL_law_45 (by decide) (by decide) (by decide) (by decide) ?_
    exact lc_0 C1 x pg nm bp wt nw tr hi he uw vi sp sg pf pl pc1 pc2 pk1 pk2 pk3 pk4 pk5 pf1 pf2 ns nh n1 n2 n3 n4 n5 n6 n7 ns1 ns2 b1 b2 b3 b4 b5 b6 b7 b8 b9 b10 w1 w2 w3 w10 w11 w12 w13 nwc nwt nwt0 nwt1 nwt2 nwt0r nwt0s nwt1r nwt1s nwt2r nwt2s trc trt trt0 trt1 trt2 trt0r trt0s trt1r trt1s trt2r trt2s hs hsc hst hst0 hst1 hst2 hst0r hst0s hst1r hst1s hst2r hst2s ht sgv o od md mt lkp lcd mli mru lfn mhe mma lin lsc lva lpl lbr lwa mtc mtt hP hD hS hl
  by_cases h1 : (xs 0) &&& 63 = 1
  · refine W.eq (g2 := F0 m 45 ls [.int 1]) (by rw [h1]) ?_
    refine lv_tableIn (off := 269) (tgt := 314) hx hb dL_law_45 (by decide) (by decide) (by decide) (by decide) ?_
    exact lc_1 C1 x pg nm bp wt nw tr hi he uw vi sp sg pf pl pc1 pc2 pk1 pk2 pk3 pk4 pk5 pf1 pf2 ns nh n1 n2 n3 n4 n5 n6 n7 ns1 ns2 b1 b2 b3 b4 b5 b6 b7 b8 b9 b10 w1 w2 w3 w10 w11 w12 w13 nwc nwt nwt0 nwt1 nwt2 nwt0r nwt0s nwt1r nwt1s nwt2r nwt2s trc trt trt0 trt1 trt2 trt0r trt0s trt1r trt1s trt2r trt2s hs hsc hst hst0 hst1 hst2 hst0r hst0s hst1r hst1s hst2r hst2s ht sgv o od md mt lkp lcd mli mru lfn mhe mma lin lsc lva lpl lbr lwa mtc mtt hP hD hS hl
  by_cases h2 : (xs 0) &&& 63 = 2
  · refine W.eq (g2 := F0 m 45 ls [.int 2]) (by rw [h2]) ?_
    refine lv_tableIn (off := 363) (tgt := 408) hx hb dL_law_45 (by decide) (by decide) (by decide) (by decide) ?_
    exact lc_2 C1 x pg nm bp wt nw tr hi he uw vi sp sg pf pl pc1 pc2 pk1 pk2 pk3 pk4 pk5 pf1 pf2 ns nh n1 n2 n3 n4 n5 n6 n7 ns1 ns2 b1 b2 b3 b4 b5 b6 b7 b8 b9 b10 w1 w2 w3 w10 w11 w12 w13 nwc nwt nwt0 nwt1 nwt2 nwt0r nwt0s nwt1r nwt1s nwt2r nwt2s trc trt trt0 trt1 trt2 trt0r trt0s trt1r trt1s trt2r trt2s hs hsc hst hst0 hst1 hst2 hst0r hst0s hst1r hst1s hst2r hst2s ht sgv o od md mt lkp lcd mli mru lfn mhe mma lin lsc lva lpl lbr lwa mtc mtt hP hD hS hl
  by_cases h3 : (xs 0) &&& 63 = 3
  · refine W.eq (g2 := F0 m 45 ls [.int 3]) (by rw [h3]) ?_
    refine lv_tableIn (off := 431) (tgt := 476) hx hb dL_law_45 (by decide) (by decide) (by decide) (by decide) ?_
    exact lc_3 C1 x pg nm bp wt nw tr hi he uw vi sp sg pf pl pc1 pc2 pk1 pk2 pk3 pk4 pk5 pf1 pf2 ns nh n1 n2 n3 n4 n5 n6 n7 ns1 ns2 b1 b2 b3 b4 b5 b6 b7 b8 b9 b10 w1 w2 w3 w10 w11 w12 w13 nwc nwt nwt0 nwt1 nwt2 nwt0r nwt0s nwt1r nwt1s nwt2r nwt2s trc trt trt0 trt1 trt2 trt0r trt0s trt1r trt1s trt2r trt2s hs hsc hst hst0 hst1 hst2 hst0r hst0s hst1r hst1s hst2r hst2s ht sgv o od md mt lkp lcd mli mru lfn mhe mma lin lsc lva lpl lbr lwa mtc mtt hP hD hS hl
  by_cases h4 : (xs 0) &&& 63 = 4
  · refine W.eq (g2 := F0 m 45 ls [.int 4]) (by rw [h4]) ?_
    refine lv_tableIn (off := 499) (tgt := 544) hx hb dL_law_45 (by decide) (by decide) (by decide) (by decide) ?_
    exact lc_4 C1 x pg nm bp wt nw tr hi he uw vi sp sg pf pl pc1 pc2 pk1 pk2 pk3 pk4 pk5 pf1 pf2 ns nh n1 n2 n3 n4 n5 n6 n7 ns1 ns2 b1 b2 b3 b4 b5 b6 b7 b8 b9 b10 w1 w2 w3 w10 w11 w12 w13 nwc nwt nwt0 nwt1 nwt2 nwt0r nwt0s nwt1r nwt1s nwt2r nwt2s trc trt trt0 trt1 trt2 trt0r trt0s trt1r trt1s trt2r trt2s hs hsc hst hst0 hst1 hst2 hst0r hst0s hst1r hst1s hst2r hst2s ht sgv o od md mt lkp lcd mli mru lfn mhe mma lin lsc lva lpl lbr lwa mtc mtt hP hD hS hl
  by_cases h5 : (xs 0) &&& 63 = 5
  · refine W.eq (g2 := F0 m 45 ls [.int 5]) (by rw [h5]) ?_
    refine lv_tableIn (off := 569) (tgt := 614) hx hb dL_law_45 (by decide) (by decide) (by decide) (by decide) ?_
    exact lc_5 C1 x pg nm bp wt nw tr hi he uw vi sp sg pf pl pc1 pc2 pk1 pk2 pk3 pk4 pk5 pf1 pf2 ns nh n1 n2 n3 n4 n5 n6 n7 ns1 ns2 b1 b2 b3 b4 b5 b6 b7 b8 b9 b10 w1 w2 w3 w10 w11 w12 w13 nwc nwt nwt0 nwt1 nwt2 nwt0r nwt0s nwt1r nwt1s nwt2r nwt2s trc trt trt0 trt1 trt2 trt0r trt0s trt1r trt1s trt2r trt2s hs hsc hst hst0 hst1 hst2 hst0r hst0s hst1r hst1s hst2r hst2s ht sgv o od md mt lkp lcd mli mru lfn mhe mma lin lsc lva lpl lbr lwa mtc mtt hP hD hS hl
  by_cases h6 : (xs 0) &&& 63 = 6
  · refine W.eq (g2 := F0 m 45 ls [.int 6]) (by rw [h6]) ?_
    refine lv_tableIn (off := 661) (tgt := 706) hx hb dL_law_45 (by decide) (by decide) (by decide) (by decide) ?_
    exact lc_6 C1 x pg nm bp wt nw tr hi he uw vi sp sg pf pl pc1 pc2 pk1 pk2 pk3 pk4 pk5 pf1 pf2 ns nh n1 n2 n3 n4 n5 n6 n7 ns1 ns2 b1 b2 b3 b4 b5 b6 b7 b8 b9 b10 w1 w2 w3 w10 w11 w12 w13 nwc nwt nwt0 nwt1 nwt2 nwt0r nwt0s nwt1r nwt1s nwt2r nwt2s trc trt trt0 trt1 trt2 trt0r trt0s trt1r trt1s trt2r trt2s hs hsc hst hst0 hst1 hst2 hst0r hst0s hst1r hst1s hst2r hst2s ht sgv o od md mt lkp lcd mli mru lfn mhe mma lin lsc lva lpl lbr lwa mtc mtt hP hD hS hl
  by_cases h7 : (xs 0) &&& 63 = 7
  · refine W.eq (g2 := F0 m 45 ls [.int 7]) (by rw [h7]) ?_
    refine lv_tableIn (off := 729) (tgt := 774) hx hb dL_law_45 (by decide) (by decide) (by decide) (by decide) ?_
    exact lc_7 C1 x pg nm bp wt nw tr hi he uw vi sp sg pf pl pc1 pc2 pk1 pk2 pk3 pk4 pk5 pf1 pf2 ns nh n1 n2 n3 n4 n5 n6 n7 ns1 ns2 b1 b2 b3 b4 b5 b6 b7 b8 b9 b10 w1 w2 w3 w10 w11 w12 w13 nwc nwt nwt0 nwt1 nwt2 nwt0r nwt0s nwt1r nwt1s nwt2r nwt2s trc trt trt0 trt1 trt2 trt0r trt0s trt1r trt1s trt2r trt2s hs hsc hst hst0 hst1 hst2 hst0r hst0s hst1r hst1s hst2r hst2s ht sgv o od md mt lkp lcd mli mru lfn mhe mma lin lsc lva lpl lbr lwa mtc mtt hP hD hS hl
  by_cases h8 : (xs 0) &&& 63 = 8
  · refine W.eq (g2 := F0 m 45 ls [.int 8]) (by rw [h8]) ?_
    refine lv_tableIn (off := 825) (tgt := 870) hx hb dL_law_45 (by decide) (by decide) (by decide) (by decide) ?_
    exact lc_8 C1 x pg nm bp wt nw tr hi he uw vi sp sg pf pl pc1 pc2 pk1 pk2 pk3 pk4 pk5 pf1 pf2 ns nh n1 n2 n3 n4 n5 n6 n7 ns1 ns2 b1 b2 b3 b4 b5 b6 b7 b8 b9 b10 w1 w2 w3 w10 w11 w12 w13 nwc nwt nwt0 nwt1 nwt2 nwt0r nwt0s nwt1r nwt1s nwt2r nwt2s trc trt trt0 trt1 trt2 trt0r trt0s trt1r trt1s trt2r trt2s hs hsc hst hst0 hst1 hst2 hst0r hst0s hst1r hst1s hst2r hst2s ht sgv o od md mt lkp lcd mli mru lfn mhe mma lin lsc lva lpl lbr lwa mtc mtt hP hD hS hl
  by_cases h9 : (xs 0) &&& 63 = 9
  · refine W.eq (g2 := F0 m 45 ls [.int 9]) (by rw [h9]) ?_
    refine lv_tableIn (off := 931) (tgt := 976) hx hb dL_law_45 (by decide) (by decide) (by decide) (by decide) ?_
    exact lc_9 C1 x pg nm bp wt nw tr hi he uw vi sp sg pf pl pc1 pc2 pk1 pk2 pk3 pk4 pk5 pf1 pf2 ns nh n1 n2 n3 n4 n5 n6 n7 ns1 ns2 b1 b2 b3 b4 b5 b6 b7 b8 b9 b10 w1 w2 w3 w10 w11 w12 w13 nwc nwt nwt0 nwt1 nwt2 nwt0r nwt0s nwt1r nwt1s nwt2r nwt2s trc trt trt0 trt1 trt2 trt0r trt0s trt1r trt1s trt2r trt2s hs hsc hst hst0 hst1 hst2 hst0r hst0s hst1r hst1s hst2r hst2s ht sgv o od md mt lkp lcd mli mru lfn mhe mma lin lsc lva lpl lbr lwa mtc mtt hP hD hS hl
  by_cases h10 : (xs 0) &&& 63 = 10
  · refine W.eq (g2 := F0 m 45 ls [.int 10]) (by rw [h10]) ?_
    refine lv_tableIn (off := 987) (tgt := 1032) hx hb dL_law_45 (by decide) (by decide) (by decide) (by decide) ?_
    exact lc_10 C1 x pg nm bp wt nw tr hi he uw vi sp sg pf pl pc1 pc2 pk1 pk2 pk3 pk4 pk5 pf1 pf2 ns nh n1 n2 n3 n4 n5 n6 n7 ns1 ns2 b1 b2 b3 b4 b5 b6 b7 b8 b9 b10 w1 w2 w3 w10 w11 w12 w13 nwc nwt nwt0 nwt1 nwt2 nwt0r nwt0s nwt1r nwt1s nwt2r nwt2s trc trt trt0 trt1 trt2 trt0r trt0s trt1r trt1s trt2r trt2s hs hsc hst hst0 hst1 hst2 hst0r hst0s hst1r hst1s hst2r hst2s ht sgv o od md mt lkp lcd mli mru lfn mhe mma lin lsc lva lpl lbr lwa mtc mtt hP hD hS hl
  by_cases h11 : (xs 0) &&& 63 = 11
  · refine W.eq (g2 := F0 m 45 ls [.int 11]) (by rw [h11]) ?_
    refine lv_tableIn (off := 1043) (tgt := 1088) hx hb dL_law_45 (by decide) (by decide) (by decide) (by decide) ?_
    exact lc_11 C1 x pg nm bp wt nw tr hi he uw vi sp sg pf pl pc1 pc2 pk1 pk2 pk3 pk4 pk5 pf1 pf2 ns nh n1 n2 n3 n4 n5 n6 n7 ns1 ns2 b1 b2 b3 b4 b5 b6 b7 b8 b9 b10 w1 w2 w3 w10 w11 w12 w13 nwc nwt nwt0 nwt1 nwt2 nwt0r nwt0s nwt1r nwt1s nwt2r nwt2s trc trt trt0 trt1 trt2 trt0r trt0s trt1r trt1s trt2r trt2s hs hsc hst hst0 hst1 hst2 hst0r hst0s hst1r hst1s hst2r hst2s ht sgv o od md mt lkp lcd mli mru lfn mhe mma lin lsc lva lpl lbr lwa mtc mtt hP hD hS hl
  by_cases h12 : (xs 0) &&& 63 = 12
  · refine W.eq (g2 := F0 m 45 ls [.int 12]) (by rw [h12]) ?_
    refine lv_tableIn (off := 1099) (tgt := 1144) hx hb dL_law_45 (by decide) (by decide) (by decide) (by decide) ?_
    exact lc_12 C1 x pg nm bp wt nw tr hi he uw vi sp sg pf pl pc1 pc2 pk1 pk2 pk3 pk4 pk5 pf1 pf2 ns nh n1 n2 n3 n4 n5 n6 n7 ns1 ns2 b1 b2 b3 b4 b5 b6 b7 b8 b9 b10 w1 w2 w3 w10 w11 w12 w13 nwc nwt nwt0 nwt1 nwt2 nwt0r nwt0s nwt1r nwt1s nwt2r nwt2s trc trt trt0 trt1 trt2 trt0r trt0s trt1r trt1s trt2r trt2s hs hsc hst hst0 hst1 hst2 hst0r hst0s hst1r hst1s hst2r hst2s ht sgv o od md mt lkp lcd mli mru lfn mhe mma lin lsc lva lpl lbr lwa mtc mtt hP hD hS hl
  by_cases h13 : (xs 0) &&& 63 = 13
  · refine W.eq (g2 := F0 m 45 ls [.int 13]) (by rw [h13]) ?_
    refine lv_tableIn (off := 1190) (tgt := 1235) hx hb dL_law_45 (by decide) (by decide) (by decide) (by decide) ?_
    exact lc_13 C1 x pg nm bp wt nw tr hi he uw vi sp sg pf pl pc1 pc2 pk1 pk2 pk3 pk4 pk5 pf1 pf2 ns nh n1 n2 n3 n4 n5 n6 n7 ns1 ns2 b1 b2 b3 b4 b5 b6 b7 b8 b9 b10 w1 w2 w3 w10 w11 w12 w13 nwc nwt nwt0 nwt1 nwt2 nwt0r nwt0s nwt1r nwt1s nwt2r nwt2s trc trt trt0 trt1 trt2 trt0r trt0s trt1r trt1s trt2r trt2s hs hsc hst hst0 hst1 hst2 hst0r hst0s hst1r hst1s hst2r hst2s ht sgv o od md mt lkp lcd mli mru lfn mhe mma lin lsc lva lpl lbr lwa mtc mtt hP hD hS hl
  by_cases h14 : (xs 0) &&& 63 = 14
  · refine W.eq (g2 := F0 m 45 ls [.int 14]) (by rw [h14]) ?_
    refine lv_tableIn (off := 1258) (tgt := 1303) hx hb dL_law_45 (by decide) (by decide) (by decide) (by decide) ?_
    exact lc_14 C1 x pg nm bp wt nw tr hi he uw vi sp sg pf pl pc1 pc2 pk1 pk2 pk3 pk4 pk5 pf1 pf2 ns nh n1 n2 n3 n4 n5 n6 n7 ns1 ns2 b1 b2 b3 b4 b5 b6 b7 b8 b9 b10 w1 w2 w3 w10 w11 w12 w13 nwc nwt nwt0 nwt1 nwt2 nwt0r nwt0s nwt1r nwt1s nwt2r nwt2s trc trt trt0 trt1 trt2 trt0r trt0s trt1r trt1s trt2r trt2s hs hsc hst hst0 hst1 hst2 hst0r hst0s hst1r hst1s hst2r hst2s ht sgv o od md mt lkp lcd mli mru lfn mhe mma lin lsc lva lpl lbr lwa mtc mtt hP hD hS hl
  by_cases h15 : (xs 0) &&& 63 = 15
  · refine W.eq (g2 := F0 m 45 ls [.int 15]) (by rw [h15]) ?_
    refine lv_tableIn (off := 1314) (tgt := 1359) hx hb dL_law_45 (by decide) (by decide) (by decide) (by decide) ?_
    exact lc_15 C1 x pg nm bp wt nw tr hi he uw vi sp sg pf pl pc1 pc2 pk1 pk2 pk3 pk4 pk5 pf1 pf2 ns nh n1 n2 n3 n4 n5 n6 n7 ns1 ns2 b1 b2 b3 b4 b5 b6 b7 b8 b9 b10 w1 w2 w3 w10 w11 w12 w13 nwc nwt nwt0 nwt1 nwt2 nwt0r nwt0s nwt1r nwt1s nwt2r nwt2s trc trt trt0 trt1 trt2 trt0r trt0s trt1r trt1s trt2r trt2s hs hsc hst hst0 hst1 hst2 hst0r hst0s hst1r hst1s hst2r hst2s ht sgv o od md mt lkp lcd mli mru lfn mhe mma lin lsc lva lpl lbr lwa mtc mtt hP hD hS hl
  by_cases h16 : (xs 0) &&& 63 = 16
  · refine W.eq (g2 := F0 m 45 ls [.int 16]) (by rw [h16]) ?_
    refine lv_tableIn (off := 1327) (tgt := 1372) hx hb dL_law_45 (by decide) (by decide) (by decide) (by decide) ?_
    exact lc_16 C1 x pg nm bp wt nw tr hi he uw vi sp sg pf pl pc1 pc2 pk1 pk2 pk3 pk4 pk5 pf1 pf2 ns nh n1 n2 n3 n4 n5 n6 n7 ns1 ns2 b1 b2 b3 b4 b5 b6 b7 b8 b9 b10 w1 w2 w3 w10 w11 w12 w13 nwc nwt nwt0 nwt1 nwt2 nwt0r nwt0s nwt1r nwt1s nwt2r nwt2s trc trt trt0 trt1 trt2 trt0r trt0s trt1r trt1s trt2r trt2s hs hsc hst hst0 hst1 hst2 hst0r hst0s hst1r hst1s hst2r hst2s ht sgv o od md mt lkp lcd mli mru lfn mhe mma lin lsc lva lpl lbr lwa mtc mtt hP hD hS hl
  by_cases h17 : (xs 0) &&& 63 = 17
  · refine W.eq (g2 := F0 m 45 ls [.int 17]) (by rw [h17]) ?_
    refine lv_tableIn (off := 1383) (tgt := 1428) hx hb dL_law_45 (by decide) (by decide) (by decide) (by decide) ?_
    exact lc_17 C1 x pg nm bp wt nw tr hi he uw vi sp sg pf pl pc1 pc2 pk1 pk2 pk3 pk4 pk5 pf1 pf2 ns nh n1 n2 n3 n4 n5 n6 n7 ns1 ns2 b1 b2 b3 b4 b5 b6 b7 b8 b9 b10 w1 w2 w3 w10 w11 w12 w13 nwc nwt nwt0 nwt1 nwt2 nwt0r nwt0s nwt1r nwt1s nwt2r nwt2s trc trt trt0 trt1 trt2 trt0r trt0s trt1r trt1s trt2r trt2s hs hsc hst hst0 hst1 hst2 hst0r hst0s hst1r hst1s hst2r hst2s ht sgv o od md mt lkp lcd mli mru lfn mhe mma lin lsc lva lpl lbr lwa mtc mtt hP hD hS hl
  by_cases h18 : (xs 0) &&& 63 = 18
  · refine W.eq (g2 := F0 m 45 ls [.int 18]) (by rw [h18]) ?_
    refine lv_tableIn (off := 1465) (tgt := 1510) hx hb dL_law_45 (by decide) (by decide) (by decide) (by decide) ?_
    exact lc_18 C1 x pg nm bp wt nw tr hi he uw vi sp sg pf pl pc1 pc2 pk1 pk2 pk3 pk4 pk5 pf1 pf2 ns nh n1 n2 n3 n4 n5 n6 n7 ns1 ns2 b1 b2 b3 b4 b5 b6 b7 b8 b9 b10 w1 w2 w3 w10 w11 w12 w13 nwc nwt nwt0 nwt1 nwt2 nwt0r nwt0s nwt1r nwt1s nwt2r nwt2s trc trt trt0 trt1 trt2 trt0r trt0s trt1r trt1s trt2r trt2s hs hsc hst hst0 hst1 hst2 hst0r hst0s hst1r hst1s hst2r hst2s ht sgv o od md mt lkp lcd mli mru lfn mhe mma lin lsc lva lpl lbr lwa mtc mtt hP hD hS hl
  by_cases h19 : (xs 0) &&& 63 = 19
  · refine W.eq (g2 := F0 m 45 ls [.int 19]) (by rw [h19]) ?_
    refine lv_tableIn (off := 1547) (tgt := 1592) hx hb dL_law_45 (by decide) (by decide) (by decide) (by decide) ?_
    exact lc_19 C1 x pg nm bp wt nw tr hi he uw vi sp sg pf pl pc1 pc2 pk1 pk2 pk3 pk4 pk5 pf1 pf2 ns nh n1 n2 n3 n4 n5 n6 n7 ns1 ns2 b1 b2 b3 b4 b5 b6 b7 b8 b9 b10 w1 w2 w3 w10 w11 w12 w13 nwc nwt nwt0 nwt1 nwt2 nwt0r nwt0s nwt1r nwt1s nwt2r nwt2s trc trt trt0 trt1 trt2 trt0r trt0s trt1r trt1s trt2r trt2s hs hsc hst hst0 hst1 hst2 hst0r hst0s hst1r hst1s hst2r hst2s ht sgv o od md mt lkp lcd mli mru lfn mhe mma lin lsc lva lpl lbr lwa mtc mtt hP hD hS hl
  by_cases h20 : (xs 0) &&& 63 = 20
  · refine W.eq (g2 := F0 m 45 ls [.int 20]) (by rw [h20]) ?_
    refine lv_tableIn (off := 1641) (tgt := 1686) hx hb dL_law_45 (by decide) (by decide) (by decide) (by decide) ?_
    exact lc_20 C1 x pg nm bp wt nw tr hi he uw vi sp sg pf pl pc1 pc2 pk1 pk2 pk3 pk4 pk5 pf1 pf2 ns nh n1 n2 n3 n4 n5 n6 n7 ns1 ns2 b1 b2 b3 b4 b5 b6 b7 b8 b9 b10 w1 w2 w3 w10 w11 w12 w13 nwc nwt nwt0 nwt1 nwt2 nwt0r nwt0s nwt1r nwt1s nwt2r nwt2s trc trt trt0 trt1 trt2 trt0r trt0s trt1r trt1s trt2r trt2s hs hsc hst hst0 hst1 hst2 hst0r hst0s hst1r hst1s hst2r hst2s ht sgv o od md mt lkp lcd mli mru lfn mhe mma lin lsc lva lpl lbr lwa mtc mtt hP hD hS hl
  by_cases h21 : (xs 0) &&& 63 = 21
  · refine W.eq (g2 := F0 m 45 ls [.int 21]) (by rw [h21]) ?_
    refine lv_tableIn (off := 1723) (tgt := 1768) hx hb dL_law_45 (by decide) (by decide) (by decide) (by decide) ?_
    exact lc_21 C1 x pg nm bp wt nw tr hi he uw vi sp sg pf pl pc1 pc2 pk1 pk2 pk3 pk4 pk5 pf1 pf2 ns nh n1 n2 n3 n4 n5 n6 n7 ns1 ns2 b1 b2 b3 b4 b5 b6 b7 b8 b9 b10 w1 w2 w3 w10 w11 w12 w13 nwc nwt nwt0 nwt1 nwt2 nwt0r nwt0s nwt1r nwt1s nwt2r nwt2s trc trt trt0 trt1 trt2 trt0r trt0s trt1r trt1s trt2r trt2s hs hsc hst hst0 hst1 hst2 hst0r hst0s hst1r hst1s hst2r hst2s ht sgv o od md mt lkp lcd mli mru lfn mhe mma lin lsc lva lpl lbr lwa mtc mtt hP hD hS hl
  by_cases h22 : (xs 0) &&& 63 = 22
  · refine W.eq (g2 := F0 m 45 ls [.int 22]) (by rw [h22]) ?_
    refine lv_tableIn (off := 1779) (tgt := 1824) hx hb dL_law_45 (by decide) (by decide) (by decide) (by decide) ?_
    exact lc_22 C1 x pg nm bp wt nw tr hi he uw vi sp sg pf pl pc1 pc2 pk1 pk2 pk3 pk4 pk5 pf1 pf2 ns nh n1 n2 n3 n4 n5 n6 n7 ns1 ns2 b1 b2 b3 b4 b5 b6 b7 b8 b9 b10 w1 w2 w3 w10 w11 w12 w13 nwc nwt nwt0 nwt1 nwt2 nwt0r nwt0s nwt1r nwt1s nwt2r nwt2s trc trt trt0 trt1 trt2 trt0r trt0s trt1r trt1s trt2r trt2s hs hsc hst hst0 hst1 hst2 hst0r hst0s hst1r hst1s hst2r hst2s ht sgv o od md mt lkp lcd mli mru lfn mhe mma lin lsc lva lpl lbr lwa mtc mtt hP hD hS hl
  by_cases h23 : (xs 0) &&& 63 = 23
  · refine W.eq (g2 := F0 m 45 ls [.int 23]) (by rw [h23]) ?_
    refine lv_tableIn (off := 1835) (tgt := 1880) hx hb dL_law_45 (by decide) (by decide) (by decide) (by decide) ?_
    exact lc_23 C1 x pg nm bp wt nw tr hi he uw vi sp sg pf pl pc1 pc2 pk1 pk2 pk3 pk4 pk5 pf1 pf2 ns nh n1 n2 n3 n4 n5 n6 n7 ns1 ns2 b1 b2 b3 b4 b5 b6 b7 b8 b9 b10 w1 w2 w3 w10 w11 w12 w13 nwc nwt nwt0 nwt1 nwt2 nwt0r nwt0s nwt1r nwt1s nwt2r nwt2s trc trt trt0 trt1 trt2 trt0r trt0s trt1r trt1s trt2r trt2s hs hsc hst hst0 hst1 hst2 hst0r hst0s hst1r hst1s hst2r hst2s ht sgv o od md mt lkp lcd mli mru lfn mhe mma lin lsc lva lpl lbr lwa mtc mtt hP hD hS hl
  by_cases h24 : (xs 0) &&& 63 = 24
  · refine W.eq (g2 := F0 m 45 ls [.int 24]) (by rw [h24]) ?_
    refine lv_tableIn (off := 1891) (tgt := 1936) hx hb dL_law_45 (by decide) (by decide) (by decide) (by decide) ?_
    exact lc_24 C1 x pg nm bp wt nw tr hi he uw vi sp sg pf pl pc1 pc2 pk1 pk2 pk3 pk4 pk5 pf1 pf2 ns nh n1 n2 n3 n4 n5 n6 n7 ns1 ns2 b1 b2 b3 b4 b5 b6 b7 b8 b9 b10 w1 w2 w3 w10 w11 w12 w13 nwc nwt nwt0 nwt1 nwt2 nwt0r nwt0s nwt1r nwt1s nwt2r nwt2s trc trt trt0 trt1 trt2 trt0r trt0s trt1r trt1s trt2r trt2s hs hsc hst hst0 hst1 hst2 hst0r hst0s hst1r hst1s hst2r hst2s ht sgv o od md mt lkp lcd mli mru lfn mhe mma lin lsc lva lpl lbr lwa mtc mtt hP hD hS hl
  by_cases h25 : (xs 0) &&& 63 = 25
  · refine W.eq (g2 := F0 m 45 ls [.int 25]) (by rw [h25]) ?_
    refine lv_tableIn (off := 1947) (tgt := 1992) hx hb dL_law_45 (by decide) (by decide) (by decide) (by decide) ?_
    exact lc_25 C1 x pg nm bp wt nw tr hi he uw vi sp sg pf pl pc1 pc2 pk1 pk2 pk3 pk4 pk5 pf1 pf2 ns nh n1 n2 n3 n4 n5 n6 n7 ns1 ns2 b1 b2 b3 b4 b5 b6 b7 b8 b9 b10 w1 w2 w3 w10 w11 w12 w13 nwc nwt nwt0 nwt1 nwt2 nwt0r nwt0s nwt1r nwt1s nwt2r nwt2s trc trt trt0 trt1 trt2 trt0r trt0s trt1r trt1s trt2r trt2s hs hsc hst hst0 hst1 hst2 hst0r hst0s hst1r hst1s hst2r hst2s ht sgv o od md mt lkp lcd mli mru lfn mhe mma lin lsc lva lpl lbr lwa mtc mtt hP hD hS hl
  by_cases h26 : (xs 0) &&& 63 = 26
  · refine W.eq (g2 := F0 m 45 ls [.int 26]) (by rw [h26]) ?_
    refine lv_tableIn (off := 2043) (tgt := 2088) hx hb dL_law_45 (by decide) (by decide) (by decide) (by decide) ?_
    exact lc_26 C1 x pg nm bp wt nw tr hi he uw vi sp sg pf pl pc1 pc2 pk1 pk2 pk3 pk4 pk5 pf1 pf2 ns nh n1 n2 n3 n4 n5 n6 n7 ns1 ns2 b1 b2 b3 b4 b5 b6 b7 b8 b9 b10 w1 w2 w3 w10 w11 w12 w13 nwc nwt nwt0 nwt1 nwt2 nwt0r nwt0s nwt1r nwt1s nwt2r nwt2s trc trt trt0 trt1 trt2 trt0r trt0s trt1r trt1s trt2r trt2s hs hsc hst hst0 hst1 hst2 hst0r hst0s hst1r hst1s hst2r hst2s ht sgv o od md mt lkp lcd mli mru lfn mhe mma lin lsc lva lpl lbr lwa mtc mtt hP hD hS hl
  by_cases h27 : (xs 0) &&& 63 = 27
  · refine W.eq (g2 := F0 m 45 ls [.int 27]) (by rw [h27]) ?_
    refine lv_tableIn (off := 2111) (tgt := 2156) hx hb dL_law_45 (by decide) (by decide) (by decide) (by decide) ?_
    exact lc_27 C1 x pg nm bp wt nw tr hi he uw vi sp sg pf pl pc1 pc2 pk1 pk2 pk3 pk4 pk5 pf1 pf2 ns nh n1 n2 n3 n4 n5 n6 n7 ns1 ns2 b1 b2 b3 b4 b5 b6 b7 b8 b9 b10 w1 w2 w3 w10 w11 w12 w13 nwc nwt nwt0 nwt1 nwt2 nwt0r nwt0s nwt1r nwt1s nwt2r nwt2s trc trt trt0 trt1 trt2 trt0r trt0s trt1r trt1s trt2r trt2s hs hsc hst hst0 hst1 hst2 hst0r hst0s hst1r hst1s hst2r hst2s ht sgv o od md mt lkp lcd mli mru lfn mhe mma lin lsc lva lpl lbr lwa mtc mtt hP hD hS hl
  by_cases h28 : (xs 0) &&& 63 = 28
  · refine W.eq (g2 := F0 m 45 ls [.int 28]) (by rw [h28]) ?_
    refine lv_tableIn (off := 2167) (tgt := 2212) hx hb dL_law_45 (by decide) (by decide) (by decide) (by decide) ?_
    exact lc_28 C1 x pg nm bp wt nw tr hi he uw vi sp sg pf pl pc1 pc2 pk1 pk2 pk3 pk4 pk5 pf1 pf2 ns nh n1 n2 n3 n4 n5 n6 n7 ns1 ns2 b1 b2 b3 b4 b5 b6 b7 b8 b9 b10 w1 w2 w3 w10 w11 w12 w13 nwc nwt nwt0 nwt1 nwt2 nwt0r nwt0s nwt1r nwt1s nwt2r nwt2s trc trt trt0 trt1 trt2 trt0r trt0s trt1r trt1s trt2r trt2s hs hsc hst hst0 hst1 hst2 hst0r hst0s hst1r hst1s hst2r hst2s ht sgv o od md mt lkp lcd mli mru lfn mhe mma lin lsc lva lpl lbr lwa mtc mtt hP hD hS hl
  by_cases h29 : (xs 0) &&& 63 = 29
  · refine W.eq (g2 := F0 m 45 ls [.int 29]) (by rw [h29]) ?_
    refine lv_tableIn (off := 2223) (tgt := 2268) hx hb dL_law_45 (by decide) (by decide) (by decide) (by decide) ?_
    exact lc_29 C1 x pg nm bp wt nw tr hi he uw vi sp sg pf pl pc1 pc2 pk1 pk2 pk3 pk4 pk5 pf1 pf2 ns nh n1 n2 n3 n4 n5 n6 n7 ns1 ns2 b1 b2 b3 b4 b5 b6 b7 b8 b9 b10 w1 w2 w3 w10 w11 w12 w13 nwc nwt nwt0 nwt1 nwt2 nwt0r nwt0s nwt1r nwt1s nwt2r nwt2s trc trt trt0 trt1 trt2 trt0r trt0s trt1r trt1s trt2r trt2s hs hsc hst hst0 hst1 hst2 hst0r hst0s hst1r hst1s hst2r hst2s ht sgv o od md mt lkp lcd mli mru lfn mhe mma lin lsc lva lpl lbr lwa mtc mtt hP hD hS hl
  by_cases h30 : (xs 0) &&& 63 = 30
  · refine W.eq (g2 := F0 m 45 ls [.int 30]) (by rw [h30]) ?_
    refine lv_tableIn (off := 2305) (tgt := 2350) hx hb dL_law_45 (by decide) (by decide) (by decide) (by decide) ?_
    exact lc_30 C1 x pg nm bp wt nw tr hi he uw vi sp sg pf pl pc1 pc2 pk1 pk2 pk3 pk4 pk5 pf1 pf2 ns nh n1 n2 n3 n4 n5 n6 n7 ns1 ns2 b1 b2 b3 b4 b5 b6 b7 b8 b9 b10 w1 w2 w3 w10 w11 w12 w13 nwc nwt nwt0 nwt1 nwt2 nwt0r nwt0s nwt1r nwt1s nwt2r nwt2s trc trt trt0 trt1 trt2 trt0r trt0s trt1r trt1s trt2r trt2s hs hsc hst hst0 hst1 hst2 hst0r hst0s hst1r hst1s hst2r hst2s ht sgv o od md mt lkp lcd mli mru lfn mhe mma lin lsc lva lpl lbr lwa mtc mtt hP hD hS hl
  by_cases h31 : (xs 0) &&& 63 = 31
  · refine W.eq (g2 := F0 m 45 ls [.int 31]) (by rw [h31]) ?_
    refine lv_tableIn (off := 2361) (tgt := 2406) hx hb dL_law_45 (by decide) (by decide) (by decide) (by decide) ?_
    exact lc_31 C1 x pg nm bp wt nw tr hi he uw vi sp sg pf pl pc1 pc2 pk1 pk2 pk3 pk4 pk5 pf1 pf2 ns nh n1 n2 n3 n4 n5 n6 n7 ns1 ns2 b1 b2 b3 b4 b5 b6 b7 b8 b9 b10 w1 w2 w3 w10 w11 w12 w13 nwc nwt nwt0 nwt1 nwt2 nwt0r nwt0s nwt1r nwt1s nwt2r nwt2s trc trt trt0 trt1 trt2 trt0r trt0s trt1r trt1s trt2r trt2s hs hsc hst hst0 hst1 hst2 hst0r hst0s hst1r hst1s hst2r hst2s ht sgv o od md mt lkp lcd mli mru lfn mhe mma lin lsc lva lpl lbr lwa mtc mtt hP hD hS hl
  by_cases h32 : (xs 0) &&& 63 = 32
  · refine W.eq (g2 := F0 m 45 ls [.int 32]) (by rw [h32]) ?_
    refine lv_tableIn (off := 2431) (tgt := 2476) hx hb dL_law_45 (by decide) (by decide) (by decide) (by decide) ?_
    exact lc_32 C1 x pg nm bp wt nw tr hi he uw vi sp sg pf pl pc1 pc2 pk1 pk2 pk3 pk4 pk5 pf1 pf2 ns nh n1 n2 n3 n4 n5 n6 n7 ns1 ns2 b1 b2 b3 b4 b5 b6 b7 b8 b9 b10 w1 w2 w3 w10 w11 w12 w13 nwc nwt nwt0 nwt1 nwt2 nwt0r nwt0s nwt1r nwt1s nwt2r nwt2s trc trt trt0 trt1 trt2 trt0r trt0s trt1r trt1s trt2r trt2s hs hsc hst hst0 hst1 hst2 hst0r hst0s hst1r hst1s hst2r hst2s ht sgv o od md mt lkp lcd mli mru lfn mhe mma lin lsc lva lpl lbr lwa mtc mtt hP hD hS hl
  by_cases h33 : (xs 0) &&& 63 = 33
  · refine W.eq (g2 := F0 m 45 ls [.int 33]) (by rw [h33]) ?_
    refine lv_tableIn (off := 2444) (tgt := 2489) hx hb dL_law_45 (by decide) (by decide) (by decide) (by decide) ?_
    exact lc_33 C1 x pg nm bp wt nw tr hi he uw vi sp sg pf pl pc1 pc2 pk1 pk2 pk3 pk4 pk5 pf1 pf2 ns nh n1 n2 n3 n4 n5 n6 n7 ns1 ns2 b1 b2 b3 b4 b5 b6 b7 b8 b9 b10 w1 w2 w3 w10 w11 w12 w13 nwc nwt nwt0 nwt1 nwt2 nwt0r nwt0s nwt1r nwt1s nwt2r nwt2s trc trt trt0 trt1 trt2 trt0r trt0s trt1r trt1s trt2r trt2s hs hsc hst hst0 hst1 hst2 hst0r hst0s hst1r hst1s hst2r hst2s ht sgv o od md mt lkp lcd mli mru lfn mhe mma lin lsc lva lpl lbr lwa mtc mtt hP hD hS hl
  by_cases h34 : (xs 0) &&& 63 = 34
  · refine W.eq (g2 := F0 m 45 ls [.int 34]) (by rw [h34]) ?_
    refine lv_tableIn (off := 2488) (tgt := 2533) hx hb dL_law_45 (by decide) (by decide) (by decide) (by decide) ?_
    exact lc_34 C1 x pg nm bp wt nw tr hi he uw vi sp sg pf pl pc1 pc2 pk1 pk2 pk3 pk4 pk5 pf1 pf2 ns nh n1 n2 n3 n4 n5 n6 n7 ns1 ns2 b1 b2 b3 b4 b5 b6 b7 b8 b9 b10 w1 w2 w3 w10 w11 w12 w13 nwc nwt nwt0 nwt1 nwt2 nwt0r nwt0s nwt1r nwt1s nwt2r nwt2s trc trt trt0 trt1 trt2 trt0r trt0s trt1r trt1s trt2r trt2s hs hsc hst hst0 hst1 hst2 hst0r hst0s hst1r hst1s hst2r hst2s ht sgv o od md mt lkp lcd mli mru lfn mhe mma lin lsc lva lpl lbr lwa mtc mtt hP hD hS hl
  by_cases h35 : (xs 0) &&& 63 = 35
  · refine W.eq (g2 := F0 m 45 ls [.int 35]) (by rw [h35]) ?_
    refine lv_tableIn (off := 2544) (tgt := 2589) hx hb dL_law_45 (by decide) (by decide) (by decide) (by decide) ?_
    exact lc_35 C1 x pg nm bp wt nw tr hi he uw vi sp sg pf pl pc1 pc2 pk1 pk2 pk3 pk4 pk5 pf1 pf2 ns nh n1 n2 n3 n4 n5 n6 n7 ns1 ns2 b1 b2 b3 b4 b5 b6 b7 b8 b9 b10 w1 w2 w3 w10 w11 w12 w13 nwc nwt nwt0 nwt1 nwt2 nwt0r nwt0s nwt1r nwt1s nwt2r nwt2s trc trt trt0 trt1 trt2 trt0r trt0s trt1r trt1s trt2r trt2s hs hsc hst hst0 hst1 hst2 hst0r hst0s hst1r hst1s hst2r hst2s ht sgv o od md mt lkp lcd mli mru lfn mhe mma lin lsc lva lpl lbr lwa mtc mtt hP hD hS hl
  by_cases h36 : (xs 0) &&& 63 = 36
  · refine W.eq (g2 := F0 m 45 ls [.int 36]) (by rw [h36]) ?_
    refine lv_tableIn (off := 2588) (tgt := 2633) hx hb dL_law_45 (by decide) (by decide) (by decide) (by decide) ?_
    exact lc_36 C1 x pg nm bp wt nw tr hi he uw vi sp sg pf pl pc1 pc2 pk1 pk2 pk3 pk4 pk5 pf1 pf2 ns nh n1 n2 n3 n4 n5 n6 n7 ns1 ns2 b1 b2 b3 b4 b5 b6 b7 b8 b9 b10 w1 w2 w3 w10 w11 w12 w13 nwc nwt nwt0 nwt1 nwt2 nwt0r nwt0s nwt1r nwt1s nwt2r nwt2s trc trt trt0 trt1 trt2 trt0r trt0s trt1r trt1s trt2r trt2s hs hsc hst hst0 hst1 hst2 hst0r hst0s hst1r hst1s hst2r hst2s ht sgv o od md mt lkp lcd mli mru lfn mhe mma lin lsc lva lpl lbr lwa mtc mtt hP hD hS hl
  by_cases h37 : (xs 0) &&& 63 = 37
  · refine W.eq (g2 := F0 m 45 ls [.int 37]) (by rw [h37]) ?_
    refine lv_tableIn (off := 2694) (tgt := 2739) hx hb dL_law_45 (by decide) (by decide) (by decide) (by decide) ?_
    exact lc_37 C1 x pg nm bp wt nw tr hi he uw vi sp sg pf pl pc1 pc2 pk1 pk2 pk3 pk4 pk5 pf1 pf2 ns nh n1 n2 n3 n4 n5 n6 n7 ns1 ns2 b1 b2 b3 b4 b5 b6 b7 b8 b9 b10 w1 w2 w3 w10 w11 w12 w13 nwc nwt nwt0 nwt1 nwt2 nwt0r nwt0s nwt1r nwt1s nwt2r nwt2s trc trt trt0 trt1 trt2 trt0r trt0s trt1r trt1s trt2r trt2s hs hsc hst hst0 hst1 hst2 hst0r hst0s hst1r hst1s hst2r hst2s ht sgv o od md mt lkp lcd mli mru lfn mhe mma lin lsc lva lpl lbr lwa mtc mtt hP hD hS hl
  by_cases h38 : (xs 0) &&& 63 = 38
  · refine W.eq (g2 := F0 m 45 ls [.int 38]) (by rw [h38]) ?_
    refine lv_tableIn (off := 2762) (tgt := 2807) hx hb dL_law_45 (by decide) (by decide) (by decide) (by decide) ?_
    exact lc_38 C1 x pg nm bp wt nw tr hi he uw vi sp sg pf pl pc1 pc2 pk1 pk2 pk3 pk4 pk5 pf1 pf2 ns nh n1 n2 n3 n4 n5 n6 n7 ns1 ns2 b1 b2 b3 b4 b5 b6 b7 b8 b9 b10 w1 w2 w3 w10 w11 w12 w13 nwc nwt nwt0 nwt1 nwt2 nwt0r nwt0s nwt1r nwt1s nwt2r nwt2s trc trt trt0 trt1 trt2 trt0r trt0s trt1r trt1s trt2r trt2s hs hsc hst hst0 hst1 hst2 hst0r hst0s hst1r hst1s hst2r hst2s ht sgv o od md mt lkp lcd mli mru lfn mhe mma lin lsc lva lpl lbr lwa mtc mtt hP hD hS hl
  by_cases h39 : (xs 0) &&& 63 = 39
  · refine W.eq (g2 := F0 m 45 ls [.int 39]) (by rw [h39]) ?_
    refine lv_tableIn (off := 2842) (tgt := 2887) hx hb dL_law_45 (by decide) (by decide) (by decide) (by decide) ?_
    exact lc_39 C1 x pg nm bp wt nw tr hi he uw vi sp sg pf pl pc1 pc2 pk1 pk2 pk3 pk4 pk5 pf1 pf2 ns nh n1 n2 n3 n4 n5 n6 n7 ns1 ns2 b1 b2 b3 b4 b5 b6 b7 b8 b9 b10 w1 w2 w3 w10 w11 w12 w13 nwc nwt nwt0 nwt1 nwt2 nwt0r nwt0s nwt1r nwt1s nwt2r nwt2s trc trt trt0 trt1 trt2 trt0r trt0s trt1r trt1s trt2r trt2s hs hsc hst hst0 hst1 hst2 hst0r hst0s hst1r hst1s hst2r hst2s ht sgv o od md mt lkp lcd mli mru lfn mhe mma lin lsc lva lpl lbr lwa mtc mtt hP hD hS hl
  by_cases h40 : (xs 0) &&& 63 = 40
  · refine W.eq (g2 := F0 m 45 ls [.int 40]) (by rw [h40]) ?_
    refine lv_tableIn (off := 2908) (tgt := 2953) hx hb dL_law_45 (by decide) (by decide) (by decide) (by decide) ?_
    exact lc_40 C1 x pg nm bp wt nw tr hi he uw vi sp sg pf pl pc1 pc2 pk1 pk2 pk3 pk4 pk5 pf1 pf2 ns nh n1 n2 n3 n4 n5 n6 n7 ns1 ns2 b1 b2 b3 b4 b5 b6 b7 b8 b9 b10 w1 w2 w3 w10 w11 w12 w13 nwc nwt nwt0 nwt1 nwt2 nwt0r nwt0s nwt1r nwt1s nwt2r nwt2s trc trt trt0 trt1 trt2 trt0r trt0s trt1r trt1s trt2r trt2s hs hsc hst hst0 hst1 hst2 hst0r hst0s hst1r hst1s hst2r hst2s ht sgv o od md mt lkp lcd mli mru lfn mhe mma lin lsc lva lpl lbr lwa mtc mtt hP hD hS hl
  by_cases h41 : (xs 0) &&& 63 = 41
  · refine W.eq (g2 := F0 m 45 ls [.int 41]) (by rw [h41]) ?_
    refine lv_tableIn (off := 2973) (tgt := 3018) hx hb dL_law_45 (by decide) (by decide) (by decide) (by decide) ?_
    exact lc_41 C1 x pg nm bp wt nw tr hi he uw vi sp sg pf pl pc1 pc2 pk1 pk2 pk3 pk4 pk5 pf1 pf2 ns nh n1 n2 n3 n4 n5 n6 n7 ns1 ns2 b1 b2 b3 b4 b5 b6 b7 b8 b9 b10 w1 w2 w3 w10 w11 w12 w13 nwc nwt nwt0 nwt1 nwt2 nwt0r nwt0s nwt1r nwt1s nwt2r nwt2s trc trt trt0 trt1 trt2 trt0r trt0s trt1r trt1s trt2r trt2s hs hsc hst hst0 hst1 hst2 hst0r hst0s hst1r hst1s hst2r hst2s ht sgv o od md mt lkp lcd mli mru lfn mhe mma lin lsc lva lpl lbr lwa mtc mtt hP hD hS hl
  by_cases h42 : (xs 0) &&& 63 = 42
  · refine W.eq (g2 := F0 m 45 ls [.int 42]) (by rw [h42]) ?_
    refine lv_tableIn (off := 2987) (tgt := 3032) hx hb dL_law_45 (by decide) (by decide) (by decide) (by decide) ?_
    exact lc_42 C1 x pg nm bp wt nw tr hi he uw vi sp sg pf pl pc1 pc2 pk1 pk2 pk3 pk4 pk5 pf1 pf2 ns nh n1 n2 n3 n4 n5 n6 n7 ns1 ns2 b1 b2 b3 b4 b5 b6 b7 b8 b9 b10 w1 w2 w3 w10 w11 w12 w13 nwc nwt nwt0 nwt1 nwt2 nwt0r nwt0s nwt1r nwt1s nwt2r nwt2s trc trt trt0 trt1 trt2 trt0r trt0s trt1r trt1s trt2r trt2s hs hsc hst hst0 hst1 hst2 hst0r hst0s hst1r hst1s hst2r hst2s ht sgv o od md mt lkp lcd mli mru lfn mhe mma lin lsc lva lpl lbr lwa mtc mtt hP hD hS hl
  have g0 : ¬ ((xs 0) &&& 63).toInt = 0 := fun z => h0 (i2eq (n := 0) z rfl)
  have g1 : ¬ ((xs 0) &&& 63).toInt = 1 := fun z => h1 (i2eq (n := 1) z rfl)
  have g2 : ¬ ((xs 0) &&& 63).toInt = 2 := fun z => h2 (i2eq (n := 2) z rfl)
  have g3 : ¬ ((xs 0) &&& 63).toInt = 3 := fun z => h3 (i2eq (n := 3) z rfl)
  have g4 : ¬ ((xs 0) &&& 63).toInt = 4 := fun z => h4 (i2eq (n := 4) z rfl)
  have g5 : ¬ ((xs 0) &&& 63).toInt = 5 := fun z => h5 (i2eq (n := 5) z rfl)
  have g6 : ¬ ((xs 0) &&& 63).toInt = 6 := fun z => h6 (i2eq (n := 6) z rfl)
  have g7 : ¬ ((xs 0) &&& 63).toInt = 7 := fun z => h7 (i2eq (n := 7) z rfl)
  have g8 : ¬ ((xs 0) &&& 63).toInt = 8 := fun z => h8 (i2eq (n := 8) z rfl)
  have g9 : ¬ ((xs 0) &&& 63).toInt = 9 := fun z => h9 (i2eq (n := 9) z rfl)
  have g10 : ¬ ((xs 0) &&& 63).toInt = 10 := fun z => h10 (i2eq (n := 10) z rfl)
  have g11 : ¬ ((xs 0) &&& 63).toInt = 11 := fun z => h11 (i2eq (n := 11) z rfl)
  have g12 : ¬ ((xs 0) &&& 63).toInt = 12 := fun z => h12 (i2eq (n := 12) z rfl)
  have g13 : ¬ ((xs 0) &&& 63).toInt = 13 := fun z => h13 (i2eq (n := 13) z rfl)
  have g14 : ¬ ((xs 0) &&& 63).toInt = 14 := fun z => h14 (i2eq (n := 14) z rfl)
  have g15 : ¬ ((xs 0) &&& 63).toInt = 15 := fun z => h15 (i2eq (n := 15) z rfl)
  have g16 : ¬ ((xs 0) &&& 63).toInt = 16 := fun z => h16 (i2eq (n := 16) z rfl)
  have g17 : ¬ ((xs 0) &&& 63).toInt = 17 := fun z => h17 (i2eq (n := 17) z rfl)
  have g18 : ¬ ((xs 0) &&& 63).toInt = 18 := fun z => h18 (i2eq (n := 18) z rfl)
  have g19 : ¬ ((xs 0) &&& 63).toInt = 19 := fun z => h19 (i2eq (n := 19) z rfl)
  have g20 : ¬ ((xs 0) &&& 63).toInt = 20 := fun z => h20 (i2eq (n := 20) z rfl)
  have g21 : ¬ ((xs 0) &&& 63).toInt = 21 := fun z => h21 (i2eq (n := 21) z rfl)
  have g22 : ¬ ((xs 0) &&& 63).toInt = 22 := fun z => h22 (i2eq (n := 22) z rfl)
  have g23 : ¬ ((xs 0) &&& 63).toInt = 23 := fun z => h23 (i2eq (n := 23) z rfl)
  have g24 : ¬ ((xs 0) &&& 63).toInt = 24 := fun z => h24 (i2eq (n := 24) z rfl)
  have g25 : ¬ ((xs 0) &&& 63).toInt = 25 := fun z => h25 (i2eq (n := 25) z rfl)
  have g26 : ¬ ((xs 0) &&& 63).toInt = 26 := fun z => h26 (i2eq (n := 26) z rfl)
  have g27 : ¬ ((xs 0) &&& 63).toInt = 27 := fun z => h27 (i2eq (n := 27) z rfl)
  have g28 : ¬ ((xs 0) &&& 63).toInt = 28 := fun z => h28 (i2eq (n := 28) z rfl)
  have g29 : ¬ ((xs 0) &&& 63).toInt = 29 := fun z => h29 (i2eq (n := 29) z rfl)
  have g30 : ¬ ((xs 0) &&& 63).toInt = 30 := fun z => h30 (i2eq (n := 30) z rfl)
  have g31 : ¬ ((xs 0) &&& 63).toInt = 31 := fun z => h31 (i2eq (n := 31) z rfl)
  have g32 : ¬ ((xs 0) &&& 63).toInt = 32 := fun z => h32 (i2eq (n := 32) z rfl)
  have g33 : ¬ ((xs 0) &&& 63).toInt = 33 := fun z => h33 (i2eq (n := 33) z rfl)
  have g34 : ¬ ((xs 0) &&& 63).toInt = 34 := fun z => h34 (i2eq (n := 34) z rfl)
  have g35 : ¬ ((xs 0) &&& 63).toInt = 35 := fun z => h35 (i2eq (n := 35) z rfl)
  have g36 : ¬ ((xs 0) &&& 63).toInt = 36 := fun z => h36 (i2eq (n := 36) z rfl)
  have g37 : ¬ ((xs 0) &&& 63).toInt = 37 := fun z => h37 (i2eq (n := 37) z rfl)
  have g38 : ¬ ((xs 0) &&& 63).toInt = 38 := fun z => h38 (i2eq (n := 38) z rfl)
  have g39 : ¬ ((xs 0) &&& 63).toInt = 39 := fun z => h39 (i2eq (n := 39) z rfl)
  have g40 : ¬ ((xs 0) &&& 63).toInt = 40 := fun z => h40 (i2eq (n := 40) z rfl)
  have g41 : ¬ ((xs 0) &&& 63).toInt = 41 := fun z => h41 (i2eq (n := 41) z rfl)
  have g42 : ¬ ((xs 0) &&& 63).toInt = 42 := fun z => h42 (i2eq (n := 42) z rfl)
  have hout : ((xs 0) &&& 63).toInt < 0 ∨ 42 < ((xs 0) &&& 63).toInt := by omega
  refine lv_tableOut (tgt := 3045) hx hb dL_law_45 hout (by decide) ?_
  refine W.widen (k := 600006) (n := 7302047) (Nat.le_of_ble_eq_true rfl) (Nat.le_of_ble_eq_true rfl) ?_
  exact kend _ _ _ hS (lv_two hl 0 5 rfl rfl)
