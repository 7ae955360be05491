set_option maxHeartbeats 4000000 in
set_option maxRecDepth 100000 in
theorem law_c20 {p : Program} {l : Launch} {e : Env} {s : State} {m : MethodId} {below : List Frame} {meth : Method} {c : Code} {D : va_G} {ad bd : Nat → Nat} {cI cT cJ : ClassId} {b o L : Nat} {xs : Nat → Int32} {j : Nat} (hst : l.stackTraces = false) (C0 : lw_At p s m meth c b L xs) (hK : va_K D vwCl (fk_ty cI cT cJ) s) (hZ : fk_Zs (lw_A s) s s.heap) (hN : fk_Nc s) (hL : L ≤ 3584) (hj : 7 * j + 7 ≤ L) (hk : lw_Go p l e s m below meth c D ad bd cI cT cJ b o (j + 1) j 1818) : lw_Go p l e s m below meth c D ad bd cI cT cJ b o j j 1458 := by
  obtain ⟨hx, hb, hr, hml, hown, hts0, hX, hbl, hlocks, hgv⟩ := C0
  have hts : ∀ w ∈ wsL_law, w.before #[Value.ref b] s = true := fun w h => hts0 w (wsL_law_in w h)
  have hA : ∀ q : Nat, s.heap.size ≤ q → lw_A s q := fun _ h => h
  have hbA : ¬ lw_A s b := Nat.not_le.mpr hbl
  intro M f H locs ls hI hP hD hS hl
  obtain ⟨k, M', f', r, hk3, h4, hI9, hf, hL9, hM9⟩ := op_addressOf (l := l) (D := D) (ad := ad) (bd := bd) (cI := cI) (cT := cT) (cJ := cJ) (o := o) (f := f) hI (by omega) (by omega) hst (xs (7 * j + 1))
  have hI9 : fk_I (8 * (j + 1)) (1000 * (j + 1)) M' := hI9.wk (by omega) (by omega)
  refine lv_aload_n hx hb dL_law_1458 rfl (lv_at hl 2 rfl) ?_
  refine lv_aload_n hx hb dL_law_1459 rfl (lv_at hl 1 rfl) ?_
  refine lv_iload hx hb dL_law_1460 (lv_at hl 0 rfl) ?_
  refine lv_iconst (v := 1) hx hb dL_law_1462 (by decide) ?_
  refine lv_iadd hx hb dL_law_1463 ?_
  refine W.eq (g2 := F0 m 1464 ls [.int (nI (7 * j + 1)), .ref b, .ref (ad 0)]) (by rw [show (1 : Int32) = nI 1 from rfl, nI_add]) ?_
  refine va_sld hx hb hX hbl hbA hS (vp_in_nI (show 7 * j + 1 < L by omega) (by omega)) dL_law_1464 ?_
  refine W.eq (g2 := F0 m 1465 ls [.int (xs (7 * j + 1)), .ref (ad 0)]) (by rw [nI_clamp (n := 7 * j + 1) (by omega)]) ?_
  refine lv_aload_n hx hb dL_law_1465 rfl (lv_at hl 4 rfl) ?_
  refine fk_lcallS (As := [.ref (ad 0), .int (xs (7 * j + 1)), .ref o]) (rest := []) ⟨hx, hb, hml, hown, hts⟩ (hL9 (fk_mW bd cI M)) (vx_cwSW 3 hts gL_law_L_addressOf rfl rfl rfl (by decide +kernel) ⟨Nat.le_of_ble_eq_true rfl, Nat.le_of_ble_eq_true rfl⟩) hK hP hD hS hA hZ hN rfl hl.1 rfl (Nat.le_of_ble_eq_true rfl) dL_law_1466 ⟨by show 60 + j + 1 ≤ 653130; omega, by show 900 + 6 * j + 6 ≤ 7136714; omega⟩ (fun H locs hP hD hS => ?_)
  refine W.eq (g2 := F0 m 1469 ls [.int (nI k)]) rfl ?_
  have hP := fk_LWP.mp (show va_P D vwCl (fk_LW ad bd cI cT cJ (fk_kOf M') M o f') H from hP)
  have hD := fk_LWD.mp (show va_D (lw_A s) (fk_LW ad bd cI cT cJ (fk_kOf M') M o f') from hD)
  refine lv_istore (lv' := [(5, .int (nI k)), (4, .int (nI (7 * j))), (0, .ref b), (1, .ref (ad 0)), (2, .ref (bd 0)), (3, .ref o)]) hx hb dL_law_1469 hl (by decide) rfl (fun ls hl => ?_)
  refine lv_aload_n hx hb dL_law_1471 rfl (lv_at hl 4 rfl) ?_
  refine lv_aload_n hx hb dL_law_1472 rfl (lv_at hl 2 rfl) ?_
  refine lv_iload hx hb dL_law_1473 (lv_at hl 1 rfl) ?_
  refine lv_iconst (v := 1) hx hb dL_law_1475 (by decide) ?_
  refine lv_iadd hx hb dL_law_1476 ?_
  refine W.eq (g2 := F0 m 1477 ls [.int (nI (7 * j + 1)), .ref b, .ref (bd 0)]) (by rw [show (1 : Int32) = nI 1 from rfl, nI_add]) ?_
  refine va_sld hx hb hX hbl hbA hS (vp_in_nI (show 7 * j + 1 < L by omega) (by omega)) dL_law_1477 ?_
  refine W.eq (g2 := F0 m 1478 ls [.int (xs (7 * j + 1)), .ref (bd 0)]) (by rw [nI_clamp (n := 7 * j + 1) (by omega)]) ?_
  refine fk_callV (As := [.int (xs (7 * j + 1))]) (rest := []) ⟨hx, hb, hml, hown, hts⟩ (hM9 _) (cwV 1 hts gL_law_X3_addressOf rfl rfl rfl (by decide +kernel) ⟨Nat.le_of_ble_eq_true rfl, Nat.le_of_ble_eq_true rfl⟩) (fk_rvM hK hP) hK hP hD hS hA rfl hl.1 rfl (Nat.le_of_ble_eq_true rfl) dL_law_1478 ⟨by show 60 + j + 1 ≤ 653130; omega, by show 900 + 6 * j + 6 ≤ 7136714; omega⟩ (fun H locs hP hD hS => ?_)
  refine W.eq (g2 := F0 m 1481 ls [.int r]) rfl ?_
  refine lv_istore (lv' := [(6, .int r), (5, .int (nI k)), (4, .int (nI (7 * j))), (0, .ref b), (1, .ref (ad 0)), (2, .ref (bd 0)), (3, .ref o)]) hx hb dL_law_1481 hl (by decide) rfl (fun ls hl => ?_)
  refine lv_aload_n hx hb dL_law_1483 rfl (lv_at hl 5 rfl) ?_
  refine fk_callV (As := []) (rest := []) ⟨hx, hb, hml, hown, hts⟩ (mc_thrown l D bd cI cT cJ _ M') (cwV 0 hts gL_law_X3_thrown rfl rfl rfl (by decide +kernel) ⟨Nat.le_of_ble_eq_true rfl, Nat.le_of_ble_eq_true rfl⟩) (fk_rvM hK hP) hK hP hD hS hA rfl hl.1 rfl (Nat.le_of_ble_eq_true rfl) dL_law_1484 ⟨by show 60 + j + 1 ≤ 653130; omega, by show 900 + 6 * j + 6 ≤ 7136714; omega⟩ (fun H locs hP hD hS => ?_)
  refine W.eq (g2 := F0 m 1487 ls [.int (nI k)]) (by rw [h4]; rfl) ?_
  have hP := fk_LWP.mpr hP
  have hD := fk_LWD.mpr hD
  refine lv_iload hx hb dL_law_1487 (lv_at hl 1 rfl) ?_
  refine lv_icmp_eq (tgt := 1494) hx hb dL_law_1489 (by decide) (fun _ => ?_) (fun c => absurd rfl c)
  refine lv_iload hx hb dL_law_1494 (lv_at hl 1 rfl) ?_
  refine lv_if_ne (tgt := 1511) hx hb dL_law_1496 (by decide) (fun _ => ?_) (fun ck => ?_)
  · refine lv_goto (tgt := 1818) hx hb dL_law_1511 (by decide) ?_
    exact W.widen (k := 60 + (j + 1)) (n := 900 + 6 * (j + 1)) (by omega) (by omega) (hk _ _ H locs ls hI9 hP hD hS (lv_sub hl [2, 3, 4, 5, 6] rfl))
  · have hk0 : k = 0 := (nI_eq (a := k) (b := 0) (by omega) (by decide)).mp ck
    refine lv_aload_n hx hb dL_law_1499 rfl (lv_at hl 6 rfl) ?_
    refine lv_iconst (v := 0) hx hb dL_law_1500 (by decide) ?_
    refine va_lald hx hb hK hP 27 2 fk_at27 rfl fk_v01 dL_law_1501 ?_
    refine W.eq (g2 := F0 m 1502 ls [.long r.toInt64]) (by rw [← hf hk0]; rfl) ?_
    refine lv_iload hx hb dL_law_1502 (lv_at hl 0 rfl) ?_
    refine lv_i2l hx hb dL_law_1504 rfl ?_
    refine W.lcmp hx hb dL_law_1505 ?_
    refine lv_if_eq (tgt := 1511) hx hb dL_law_1506 (by decide) (fun _ => ?_) (fun c => absurd (fk_lcmp_self _) c)
    refine lv_goto (tgt := 1818) hx hb dL_law_1511 (by decide) ?_
    exact W.widen (k := 60 + (j + 1)) (n := 900 + 6 * (j + 1)) (by omega) (by omega) (hk _ _ H locs ls hI9 hP hD hS (lv_sub hl [2, 3, 4, 5, 6] rfl))

set_option maxHeartbeats 4000000 in
set_option maxRecDepth 100000 in
theorem law_c21 {p : Program} {l : Launch} {e : Env} {s : State} {m : MethodId} {below : List Frame} {meth : Method} {c : Code} {D : va_G} {ad bd : Nat → Nat} {cI cT cJ : ClassId} {b o L : Nat} {xs : Nat → Int32} {j : Nat} (hst : l.stackTraces = false) (C0 : lw_At p s m meth c b L xs) (hK : va_K D vwCl (fk_ty cI cT cJ) s) (hZ : fk_Zs (lw_A s) s s.heap) (hN : fk_Nc s) (hL : L ≤ 3584) (hj : 7 * j + 7 ≤ L) (hk : lw_Go p l e s m below meth c D ad bd cI cT cJ b o (j + 1) j 1818) : lw_Go p l e s m below meth c D ad bd cI cT cJ b o j j 1514 := by
  obtain ⟨hx, hb, hr, hml, hown, hts0, hX, hbl, hlocks, hgv⟩ := C0
  have hts : ∀ w ∈ wsL_law, w.before #[Value.ref b] s = true := fun w h => hts0 w (wsL_law_in w h)
  have hA : ∀ q : Nat, s.heap.size ≤ q → lw_A s q := fun _ h => h
  have hbA : ¬ lw_A s b := Nat.not_le.mpr hbl
  intro M f H locs ls hI hP hD hS hl
  obtain ⟨k, M', f', r, hk3, h4, hI9, hf, hL9, hM9⟩ := op_resultOf (l := l) (D := D) (ad := ad) (bd := bd) (cI := cI) (cT := cT) (cJ := cJ) (o := o) (f := f) hI (by omega) (by omega) hst (xs (7 * j + 1))
  have hI9 : fk_I (8 * (j + 1)) (1000 * (j + 1)) M' := hI9.wk (by omega) (by omega)
  refine lv_aload_n hx hb dL_law_1514 rfl (lv_at hl 2 rfl) ?_
  refine lv_aload_n hx hb dL_law_1515 rfl (lv_at hl 1 rfl) ?_
  refine lv_iload hx hb dL_law_1516 (lv_at hl 0 rfl) ?_
  refine lv_iconst (v := 1) hx hb dL_law_1518 (by decide) ?_
  refine lv_iadd hx hb dL_law_1519 ?_
  refine W.eq (g2 := F0 m 1520 ls [.int (nI (7 * j + 1)), .ref b, .ref (ad 0)]) (by rw [show (1 : Int32) = nI 1 from rfl, nI_add]) ?_
  refine va_sld hx hb hX hbl hbA hS (vp_in_nI (show 7 * j + 1 < L by omega) (by omega)) dL_law_1520 ?_
  refine W.eq (g2 := F0 m 1521 ls [.int (xs (7 * j + 1)), .ref (ad 0)]) (by rw [nI_clamp (n := 7 * j + 1) (by omega)]) ?_
  refine lv_aload_n hx hb dL_law_1521 rfl (lv_at hl 4 rfl) ?_
  refine fk_lcallS (As := [.ref (ad 0), .int (xs (7 * j + 1)), .ref o]) (rest := []) ⟨hx, hb, hml, hown, hts⟩ (hL9 (fk_mW bd cI M)) (vx_cwSW 3 hts gL_law_L_resultOf rfl rfl rfl (by decide +kernel) ⟨Nat.le_of_ble_eq_true rfl, Nat.le_of_ble_eq_true rfl⟩) hK hP hD hS hA hZ hN rfl hl.1 rfl (Nat.le_of_ble_eq_true rfl) dL_law_1522 ⟨by show 60 + j + 1 ≤ 653130; omega, by show 900 + 6 * j + 6 ≤ 7136714; omega⟩ (fun H locs hP hD hS => ?_)
  refine W.eq (g2 := F0 m 1525 ls [.int (nI k)]) rfl ?_
  have hP := fk_LWP.mp (show va_P D vwCl (fk_LW ad bd cI cT cJ (fk_kOf M') M o f') H from hP)
  have hD := fk_LWD.mp (show va_D (lw_A s) (fk_LW ad bd cI cT cJ (fk_kOf M') M o f') from hD)
  refine lv_istore (lv' := [(5, .int (nI k)), (4, .int (nI (7 * j))), (0, .ref b), (1, .ref (ad 0)), (2, .ref (bd 0)), (3, .ref o)]) hx hb dL_law_1525 hl (by decide) rfl (fun ls hl => ?_)
  refine lv_aload_n hx hb dL_law_1527 rfl (lv_at hl 4 rfl) ?_
  refine lv_aload_n hx hb dL_law_1528 rfl (lv_at hl 2 rfl) ?_
  refine lv_iload hx hb dL_law_1529 (lv_at hl 1 rfl) ?_
  refine lv_iconst (v := 1) hx hb dL_law_1531 (by decide) ?_
  refine lv_iadd hx hb dL_law_1532 ?_
  refine W.eq (g2 := F0 m 1533 ls [.int (nI (7 * j + 1)), .ref b, .ref (bd 0)]) (by rw [show (1 : Int32) = nI 1 from rfl, nI_add]) ?_
  refine va_sld hx hb hX hbl hbA hS (vp_in_nI (show 7 * j + 1 < L by omega) (by omega)) dL_law_1533 ?_
  refine W.eq (g2 := F0 m 1534 ls [.int (xs (7 * j + 1)), .ref (bd 0)]) (by rw [nI_clamp (n := 7 * j + 1) (by omega)]) ?_
  refine fk_callV (As := [.int (xs (7 * j + 1))]) (rest := []) ⟨hx, hb, hml, hown, hts⟩ (hM9 _) (cwV 1 hts gL_law_X3_resultOf rfl rfl rfl (by decide +kernel) ⟨Nat.le_of_ble_eq_true rfl, Nat.le_of_ble_eq_true rfl⟩) (fk_rvM hK hP) hK hP hD hS hA rfl hl.1 rfl (Nat.le_of_ble_eq_true rfl) dL_law_1534 ⟨by show 60 + j + 1 ≤ 653130; omega, by show 900 + 6 * j + 6 ≤ 7136714; omega⟩ (fun H locs hP hD hS => ?_)
  refine W.eq (g2 := F0 m 1537 ls [.int r]) rfl ?_
  refine lv_istore (lv' := [(6, .int r), (5, .int (nI k)), (4, .int (nI (7 * j))), (0, .ref b), (1, .ref (ad 0)), (2, .ref (bd 0)), (3, .ref o)]) hx hb dL_law_1537 hl (by decide) rfl (fun ls hl => ?_)
  refine lv_aload_n hx hb dL_law_1539 rfl (lv_at hl 5 rfl) ?_
  refine fk_callV (As := []) (rest := []) ⟨hx, hb, hml, hown, hts⟩ (mc_thrown l D bd cI cT cJ _ M') (cwV 0 hts gL_law_X3_thrown rfl rfl rfl (by decide +kernel) ⟨Nat.le_of_ble_eq_true rfl, Nat.le_of_ble_eq_true rfl⟩) (fk_rvM hK hP) hK hP hD hS hA rfl hl.1 rfl (Nat.le_of_ble_eq_true rfl) dL_law_1540 ⟨by show 60 + j + 1 ≤ 653130; omega, by show 900 + 6 * j + 6 ≤ 7136714; omega⟩ (fun H locs hP hD hS => ?_)
  refine W.eq (g2 := F0 m 1543 ls [.int (nI k)]) (by rw [h4]; rfl) ?_
  have hP := fk_LWP.mpr hP
  have hD := fk_LWD.mpr hD
  refine lv_iload hx hb dL_law_1543 (lv_at hl 1 rfl) ?_
  refine lv_icmp_eq (tgt := 1550) hx hb dL_law_1545 (by decide) (fun _ => ?_) (fun c => absurd rfl c)
  refine lv_iload hx hb dL_law_1550 (lv_at hl 1 rfl) ?_
  refine lv_if_ne (tgt := 1567) hx hb dL_law_1552 (by decide) (fun _ => ?_) (fun ck => ?_)
  · refine lv_goto (tgt := 1818) hx hb dL_law_1567 (by decide) ?_
    exact W.widen (k := 60 + (j + 1)) (n := 900 + 6 * (j + 1)) (by omega) (by omega) (hk _ _ H locs ls hI9 hP hD hS (lv_sub hl [2, 3, 4, 5, 6] rfl))
  · have hk0 : k = 0 := (nI_eq (a := k) (b := 0) (by omega) (by decide)).mp ck
    refine lv_aload_n hx hb dL_law_1555 rfl (lv_at hl 6 rfl) ?_
    refine lv_iconst (v := 0) hx hb dL_law_1556 (by decide) ?_
    refine va_lald hx hb hK hP 27 2 fk_at27 rfl fk_v01 dL_law_1557 ?_
    refine W.eq (g2 := F0 m 1558 ls [.long r.toInt64]) (by rw [← hf hk0]; rfl) ?_
    refine lv_iload hx hb dL_law_1558 (lv_at hl 0 rfl) ?_
    refine lv_i2l hx hb dL_law_1560 rfl ?_
    refine W.lcmp hx hb dL_law_1561 ?_
    refine lv_if_eq (tgt := 1567) hx hb dL_law_1562 (by decide) (fun _ => ?_) (fun c => absurd (fk_lcmp_self _) c)
    refine lv_goto (tgt := 1818) hx hb dL_law_1567 (by decide) ?_
    exact W.widen (k := 60 + (j + 1)) (n := 900 + 6 * (j + 1)) (by omega) (by omega) (hk _ _ H locs ls hI9 hP hD hS (lv_sub hl [2, 3, 4, 5, 6] rfl))

set_option maxHeartbeats 4000000 in
set_option maxRecDepth 100000 in
theorem law_c22 {p : Program} {l : Launch} {e : Env} {s : State} {m : MethodId} {below : List Frame} {meth : Method} {c : Code} {D : va_G} {ad bd : Nat → Nat} {cI cT cJ : ClassId} {b o L : Nat} {xs : Nat → Int32} {j : Nat} (hst : l.stackTraces = false) (C0 : lw_At p s m meth c b L xs) (hK : va_K D vwCl (fk_ty cI cT cJ) s) (hZ : fk_Zs (lw_A s) s s.heap) (hN : fk_Nc s) (hL : L ≤ 3584) (hj : 7 * j + 7 ≤ L) (hk : lw_Go p l e s m below meth c D ad bd cI cT cJ b o (j + 1) j 1818) : lw_Go p l e s m below meth c D ad bd cI cT cJ b o j j 1570 := by
  obtain ⟨hx, hb, hr, hml, hown, hts0, hX, hbl, hlocks, hgv⟩ := C0
  have hts : ∀ w ∈ wsL_law, w.before #[Value.ref b] s = true := fun w h => hts0 w (wsL_law_in w h)
  have hA : ∀ q : Nat, s.heap.size ≤ q → lw_A s q := fun _ h => h
  have hbA : ¬ lw_A s b := Nat.not_le.mpr hbl
  intro M f H locs ls hI hP hD hS hl
  obtain ⟨k, M', f', r, hk3, h4, hI9, hf, hL9, hM9⟩ := op_serialOf (l := l) (D := D) (ad := ad) (bd := bd) (cI := cI) (cT := cT) (cJ := cJ) (o := o) (f := f) hI (by omega) (by omega) hst (xs (7 * j + 1))
  have hI9 : fk_I (8 * (j + 1)) (1000 * (j + 1)) M' := hI9.wk (by omega) (by omega)
  refine lv_aload_n hx hb dL_law_1570 rfl (lv_at hl 2 rfl) ?_
  refine lv_aload_n hx hb dL_law_1571 rfl (lv_at hl 1 rfl) ?_
  refine lv_iload hx hb dL_law_1572 (lv_at hl 0 rfl) ?_
  refine lv_iconst (v := 1) hx hb dL_law_1574 (by decide) ?_
  refine lv_iadd hx hb dL_law_1575 ?_
  refine W.eq (g2 := F0 m 1576 ls [.int (nI (7 * j + 1)), .ref b, .ref (ad 0)]) (by rw [show (1 : Int32) = nI 1 from rfl, nI_add]) ?_
  refine va_sld hx hb hX hbl hbA hS (vp_in_nI (show 7 * j + 1 < L by omega) (by omega)) dL_law_1576 ?_
  refine W.eq (g2 := F0 m 1577 ls [.int (xs (7 * j + 1)), .ref (ad 0)]) (by rw [nI_clamp (n := 7 * j + 1) (by omega)]) ?_
  refine lv_aload_n hx hb dL_law_1577 rfl (lv_at hl 4 rfl) ?_
  refine fk_lcallS (As := [.ref (ad 0), .int (xs (7 * j + 1)), .ref o]) (rest := []) ⟨hx, hb, hml, hown, hts⟩ (hL9 (fk_mW bd cI M)) (vx_cwSW 3 hts gL_law_L_serialOf rfl rfl rfl (by decide +kernel) ⟨Nat.le_of_ble_eq_true rfl, Nat.le_of_ble_eq_true rfl⟩) hK hP hD hS hA hZ hN rfl hl.1 rfl (Nat.le_of_ble_eq_true rfl) dL_law_1578 ⟨by show 60 + j + 1 ≤ 653130; omega, by show 900 + 6 * j + 6 ≤ 7136714; omega⟩ (fun H locs hP hD hS => ?_)
  refine W.eq (g2 := F0 m 1581 ls [.int (nI k)]) rfl ?_
  have hP := fk_LWP.mp (show va_P D vwCl (fk_LW ad bd cI cT cJ (fk_kOf M') M o f') H from hP)
  have hD := fk_LWD.mp (show va_D (lw_A s) (fk_LW ad bd cI cT cJ (fk_kOf M') M o f') from hD)
  refine lv_istore (lv' := [(5, .int (nI k)), (4, .int (nI (7 * j))), (0, .ref b), (1, .ref (ad 0)), (2, .ref (bd 0)), (3, .ref o)]) hx hb dL_law_1581 hl (by decide) rfl (fun ls hl => ?_)
  refine lv_aload_n hx hb dL_law_1583 rfl (lv_at hl 4 rfl) ?_
  refine lv_aload_n hx hb dL_law_1584 rfl (lv_at hl 2 rfl) ?_
  refine lv_iload hx hb dL_law_1585 (lv_at hl 1 rfl) ?_
  refine lv_iconst (v := 1) hx hb dL_law_1587 (by decide) ?_
  refine lv_iadd hx hb dL_law_1588 ?_
  refine W.eq (g2 := F0 m 1589 ls [.int (nI (7 * j + 1)), .ref b, .ref (bd 0)]) (by rw [show (1 : Int32) = nI 1 from rfl, nI_add]) ?_
  refine va_sld hx hb hX hbl hbA hS (vp_in_nI (show 7 * j + 1 < L by omega) (by omega)) dL_law_1589 ?_
  refine W.eq (g2 := F0 m 1590 ls [.int (xs (7 * j + 1)), .ref (bd 0)]) (by rw [nI_clamp (n := 7 * j + 1) (by omega)]) ?_
  refine fk_callV (As := [.int (xs (7 * j + 1))]) (rest := []) ⟨hx, hb, hml, hown, hts⟩ (hM9 _) (cwV 1 hts gL_law_X3_serialOf rfl rfl rfl (by decide +kernel) ⟨Nat.le_of_ble_eq_true rfl, Nat.le_of_ble_eq_true rfl⟩) (fk_rvM hK hP) hK hP hD hS hA rfl hl.1 rfl (Nat.le_of_ble_eq_true rfl) dL_law_1590 ⟨by show 60 + j + 1 ≤ 653130; omega, by show 900 + 6 * j + 6 ≤ 7136714; omega⟩ (fun H locs hP hD hS => ?_)
  refine W.eq (g2 := F0 m 1593 ls [.int r]) rfl ?_
  refine lv_istore (lv' := [(6, .int r), (5, .int (nI k)), (4, .int (nI (7 * j))), (0, .ref b), (1, .ref (ad 0)), (2, .ref (bd 0)), (3, .ref o)]) hx hb dL_law_1593 hl (by decide) rfl (fun ls hl => ?_)
  refine lv_aload_n hx hb dL_law_1595 rfl (lv_at hl 5 rfl) ?_
  refine fk_callV (As := []) (rest := []) ⟨hx, hb, hml, hown, hts⟩ (mc_thrown l D bd cI cT cJ _ M') (cwV 0 hts gL_law_X3_thrown rfl rfl rfl (by decide +kernel) ⟨Nat.le_of_ble_eq_true rfl, Nat.le_of_ble_eq_true rfl⟩) (fk_rvM hK hP) hK hP hD hS hA rfl hl.1 rfl (Nat.le_of_ble_eq_true rfl) dL_law_1596 ⟨by show 60 + j + 1 ≤ 653130; omega, by show 900 + 6 * j + 6 ≤ 7136714; omega⟩ (fun H locs hP hD hS => ?_)
  refine W.eq (g2 := F0 m 1599 ls [.int (nI k)]) (by rw [h4]; rfl) ?_
  have hP := fk_LWP.mpr hP
  have hD := fk_LWD.mpr hD
  refine lv_iload hx hb dL_law_1599 (lv_at hl 1 rfl) ?_
  refine lv_icmp_eq (tgt := 1606) hx hb dL_law_1601 (by decide) (fun _ => ?_) (fun c => absurd rfl c)
  refine lv_iload hx hb dL_law_1606 (lv_at hl 1 rfl) ?_
  refine lv_if_ne (tgt := 1623) hx hb dL_law_1608 (by decide) (fun _ => ?_) (fun ck => ?_)
  · refine lv_goto (tgt := 1818) hx hb dL_law_1623 (by decide) ?_
    exact W.widen (k := 60 + (j + 1)) (n := 900 + 6 * (j + 1)) (by omega) (by omega) (hk _ _ H locs ls hI9 hP hD hS (lv_sub hl [2, 3, 4, 5, 6] rfl))
  · have hk0 : k = 0 := (nI_eq (a := k) (b := 0) (by omega) (by decide)).mp ck
    refine lv_aload_n hx hb dL_law_1611 rfl (lv_at hl 6 rfl) ?_
    refine lv_iconst (v := 0) hx hb dL_law_1612 (by decide) ?_
    refine va_lald hx hb hK hP 27 2 fk_at27 rfl fk_v01 dL_law_1613 ?_
    refine W.eq (g2 := F0 m 1614 ls [.long r.toInt64]) (by rw [← hf hk0]; rfl) ?_
    refine lv_iload hx hb dL_law_1614 (lv_at hl 0 rfl) ?_
    refine lv_i2l hx hb dL_law_1616 rfl ?_
    refine W.lcmp hx hb dL_law_1617 ?_
    refine lv_if_eq (tgt := 1623) hx hb dL_law_1618 (by decide) (fun _ => ?_) (fun c => absurd (fk_lcmp_self _) c)
    refine lv_goto (tgt := 1818) hx hb dL_law_1623 (by decide) ?_
    exact W.widen (k := 60 + (j + 1)) (n := 900 + 6 * (j + 1)) (by omega) (by omega) (hk _ _ H locs ls hI9 hP hD hS (lv_sub hl [2, 3, 4, 5, 6] rfl))

set_option maxHeartbeats 4000000 in
set_option maxRecDepth 100000 in
theorem law_c23 {p : Program} {l : Launch} {e : Env} {s : State} {m : MethodId} {below : List Frame} {meth : Method} {c : Code} {D : va_G} {ad bd : Nat → Nat} {cI cT cJ : ClassId} {b o L : Nat} {xs : Nat → Int32} {j : Nat} (hst : l.stackTraces = false) (C0 : lw_At p s m meth c b L xs) (hK : va_K D vwCl (fk_ty cI cT cJ) s) (hZ : fk_Zs (lw_A s) s s.heap) (hN : fk_Nc s) (hL : L ≤ 3584) (hj : 7 * j + 7 ≤ L) (hk : lw_Go p l e s m below meth c D ad bd cI cT cJ b o (j + 1) j 1818) : lw_Go p l e s m below meth c D ad bd cI cT cJ b o j j 1626 := by
  obtain ⟨hx, hb, hr, hml, hown, hts0, hX, hbl, hlocks, hgv⟩ := C0
  have hts : ∀ w ∈ wsL_law, w.before #[Value.ref b] s = true := fun w h => hts0 w (wsL_law_in w h)
  have hA : ∀ q : Nat, s.heap.size ≤ q → lw_A s q := fun _ h => h
  have hbA : ¬ lw_A s b := Nat.not_le.mpr hbl
  intro M f H locs ls hI hP hD hS hl
  obtain ⟨k, M', f', r, hk3, h4, hI9, hf, hL9, hM9⟩ := op_waiters (l := l) (D := D) (ad := ad) (bd := bd) (cI := cI) (cT := cT) (cJ := cJ) (o := o) (f := f) hI (by omega) (by omega) hst (xs (7 * j + 1))
  have hI9 : fk_I (8 * (j + 1)) (1000 * (j + 1)) M' := hI9.wk (by omega) (by omega)
  refine lv_aload_n hx hb dL_law_1626 rfl (lv_at hl 2 rfl) ?_
  refine lv_aload_n hx hb dL_law_1627 rfl (lv_at hl 1 rfl) ?_
  refine lv_iload hx hb dL_law_1628 (lv_at hl 0 rfl) ?_
  refine lv_iconst (v := 1) hx hb dL_law_1630 (by decide) ?_
  refine lv_iadd hx hb dL_law_1631 ?_
  refine W.eq (g2 := F0 m 1632 ls [.int (nI (7 * j + 1)), .ref b, .ref (ad 0)]) (by rw [show (1 : Int32) = nI 1 from rfl, nI_add]) ?_
  refine va_sld hx hb hX hbl hbA hS (vp_in_nI (show 7 * j + 1 < L by omega) (by omega)) dL_law_1632 ?_
  refine W.eq (g2 := F0 m 1633 ls [.int (xs (7 * j + 1)), .ref (ad 0)]) (by rw [nI_clamp (n := 7 * j + 1) (by omega)]) ?_
  refine lv_aload_n hx hb dL_law_1633 rfl (lv_at hl 4 rfl) ?_
  refine fk_lcallS (As := [.ref (ad 0), .int (xs (7 * j + 1)), .ref o]) (rest := []) ⟨hx, hb, hml, hown, hts⟩ (hL9 (fk_mW bd cI M)) (vx_cwSW 3 hts gL_law_L_waiters rfl rfl rfl (by decide +kernel) ⟨Nat.le_of_ble_eq_true rfl, Nat.le_of_ble_eq_true rfl⟩) hK hP hD hS hA hZ hN rfl hl.1 rfl (Nat.le_of_ble_eq_true rfl) dL_law_1634 ⟨by show 60 + j + 1 ≤ 653130; omega, by show 900 + 6 * j + 6 ≤ 7136714; omega⟩ (fun H locs hP hD hS => ?_)
  refine W.eq (g2 := F0 m 1637 ls [.int (nI k)]) rfl ?_
  have hP := fk_LWP.mp (show va_P D vwCl (fk_LW ad bd cI cT cJ (fk_kOf M') M o f') H from hP)
  have hD := fk_LWD.mp (show va_D (lw_A s) (fk_LW ad bd cI cT cJ (fk_kOf M') M o f') from hD)
  refine lv_istore (lv' := [(5, .int (nI k)), (4, .int (nI (7 * j))), (0, .ref b), (1, .ref (ad 0)), (2, .ref (bd 0)), (3, .ref o)]) hx hb dL_law_1637 hl (by decide) rfl (fun ls hl => ?_)
  refine lv_aload_n hx hb dL_law_1639 rfl (lv_at hl 4 rfl) ?_
  refine lv_aload_n hx hb dL_law_1640 rfl (lv_at hl 2 rfl) ?_
  refine lv_iload hx hb dL_law_1641 (lv_at hl 1 rfl) ?_
  refine lv_iconst (v := 1) hx hb dL_law_1643 (by decide) ?_
  refine lv_iadd hx hb dL_law_1644 ?_
  refine W.eq (g2 := F0 m 1645 ls [.int (nI (7 * j + 1)), .ref b, .ref (bd 0)]) (by rw [show (1 : Int32) = nI 1 from rfl, nI_add]) ?_
  refine va_sld hx hb hX hbl hbA hS (vp_in_nI (show 7 * j + 1 < L by omega) (by omega)) dL_law_1645 ?_
  refine W.eq (g2 := F0 m 1646 ls [.int (xs (7 * j + 1)), .ref (bd 0)]) (by rw [nI_clamp (n := 7 * j + 1) (by omega)]) ?_
  refine fk_callV (As := [.int (xs (7 * j + 1))]) (rest := []) ⟨hx, hb, hml, hown, hts⟩ (hM9 _) (cwV 1 hts gL_law_X3_waiters rfl rfl rfl (by decide +kernel) ⟨Nat.le_of_ble_eq_true rfl, Nat.le_of_ble_eq_true rfl⟩) (fk_rvM hK hP) hK hP hD hS hA rfl hl.1 rfl (Nat.le_of_ble_eq_true rfl) dL_law_1646 ⟨by show 60 + j + 1 ≤ 653130; omega, by show 900 + 6 * j + 6 ≤ 7136714; omega⟩ (fun H locs hP hD hS => ?_)
  refine W.eq (g2 := F0 m 1649 ls [.int r]) rfl ?_
  refine lv_istore (lv' := [(6, .int r), (5, .int (nI k)), (4, .int (nI (7 * j))), (0, .ref b), (1, .ref (ad 0)), (2, .ref (bd 0)), (3, .ref o)]) hx hb dL_law_1649 hl (by decide) rfl (fun ls hl => ?_)
  refine lv_aload_n hx hb dL_law_1651 rfl (lv_at hl 5 rfl) ?_
  refine fk_callV (As := []) (rest := []) ⟨hx, hb, hml, hown, hts⟩ (mc_thrown l D bd cI cT cJ _ M') (cwV 0 hts gL_law_X3_thrown rfl rfl rfl (by decide +kernel) ⟨Nat.le_of_ble_eq_true rfl, Nat.le_of_ble_eq_true rfl⟩) (fk_rvM hK hP) hK hP hD hS hA rfl hl.1 rfl (Nat.le_of_ble_eq_true rfl) dL_law_1652 ⟨by show 60 + j + 1 ≤ 653130; omega, by show 900 + 6 * j + 6 ≤ 7136714; omega⟩ (fun H locs hP hD hS => ?_)
  refine W.eq (g2 := F0 m 1655 ls [.int (nI k)]) (by rw [h4]; rfl) ?_
  have hP := fk_LWP.mpr hP
  have hD := fk_LWD.mpr hD
  refine lv_iload hx hb dL_law_1655 (lv_at hl 1 rfl) ?_
  refine lv_icmp_eq (tgt := 1662) hx hb dL_law_1657 (by decide) (fun _ => ?_) (fun c => absurd rfl c)
  refine lv_iload hx hb dL_law_1662 (lv_at hl 1 rfl) ?_
  refine lv_if_ne (tgt := 1679) hx hb dL_law_1664 (by decide) (fun _ => ?_) (fun ck => ?_)
  · refine lv_goto (tgt := 1818) hx hb dL_law_1679 (by decide) ?_
    exact W.widen (k := 60 + (j + 1)) (n := 900 + 6 * (j + 1)) (by omega) (by omega) (hk _ _ H locs ls hI9 hP hD hS (lv_sub hl [2, 3, 4, 5, 6] rfl))
  · have hk0 : k = 0 := (nI_eq (a := k) (b := 0) (by omega) (by decide)).mp ck
    refine lv_aload_n hx hb dL_law_1667 rfl (lv_at hl 6 rfl) ?_
    refine lv_iconst (v := 0) hx hb dL_law_1668 (by decide) ?_
    refine va_lald hx hb hK hP 27 2 fk_at27 rfl fk_v01 dL_law_1669 ?_
    refine W.eq (g2 := F0 m 1670 ls [.long r.toInt64]) (by rw [← hf hk0]; rfl) ?_
    refine lv_iload hx hb dL_law_1670 (lv_at hl 0 rfl) ?_
    refine lv_i2l hx hb dL_law_1672 rfl ?_
    refine W.lcmp hx hb dL_law_1673 ?_
    refine lv_if_eq (tgt := 1679) hx hb dL_law_1674 (by decide) (fun _ => ?_) (fun c => absurd (fk_lcmp_self _) c)
    refine lv_goto (tgt := 1818) hx hb dL_law_1679 (by decide) ?_
    exact W.widen (k := 60 + (j + 1)) (n := 900 + 6 * (j + 1)) (by omega) (by omega) (hk _ _ H locs ls hI9 hP hD hS (lv_sub hl [2, 3, 4, 5, 6] rfl))

set_option maxHeartbeats 4000000 in
set_option maxRecDepth 100000 in
theorem law_c24 {p : Program} {l : Launch} {e : Env} {s : State} {m : MethodId} {below : List Frame} {meth : Method} {c : Code} {D : va_G} {ad bd : Nat → Nat} {cI cT cJ : ClassId} {b o L : Nat} {xs : Nat → Int32} {j : Nat} (hst : l.stackTraces = false) (C0 : lw_At p s m meth c b L xs) (hK : va_K D vwCl (fk_ty cI cT cJ) s) (hZ : fk_Zs (lw_A s) s s.heap) (hN : fk_Nc s) (hL : L ≤ 3584) (hj : 7 * j + 7 ≤ L) (hk : lw_Go p l e s m below meth c D ad bd cI cT cJ b o (j + 1) j 1818) : lw_Go p l e s m below meth c D ad bd cI cT cJ b o j j 1682 := by
  obtain ⟨hx, hb, hr, hml, hown, hts0, hX, hbl, hlocks, hgv⟩ := C0
  have hts : ∀ w ∈ wsL_law, w.before #[Value.ref b] s = true := fun w h => hts0 w (wsL_law_in w h)
  have hA : ∀ q : Nat, s.heap.size ≤ q → lw_A s q := fun _ h => h
  have hbA : ¬ lw_A s b := Nat.not_le.mpr hbl
  intro M f H locs ls hI hP hD hS hl
  obtain ⟨k, M', f', r, hk3, h4, hI9, hf, hL9, hM9⟩ := op_waiterAt (l := l) (D := D) (ad := ad) (bd := bd) (cI := cI) (cT := cT) (cJ := cJ) (o := o) (f := f) hI (by omega) (by omega) hst (xs (7 * j + 1)) (xs (7 * j + 2))
  have hI9 : fk_I (8 * (j + 1)) (1000 * (j + 1)) M' := hI9.wk (by omega) (by omega)
  refine lv_aload_n hx hb dL_law_1682 rfl (lv_at hl 2 rfl) ?_
  refine lv_aload_n hx hb dL_law_1683 rfl (lv_at hl 1 rfl) ?_
  refine lv_iload hx hb dL_law_1684 (lv_at hl 0 rfl) ?_
  refine lv_iconst (v := 1) hx hb dL_law_1686 (by decide) ?_
  refine lv_iadd hx hb dL_law_1687 ?_
  refine W.eq (g2 := F0 m 1688 ls [.int (nI (7 * j + 1)), .ref b, .ref (ad 0)]) (by rw [show (1 : Int32) = nI 1 from rfl, nI_add]) ?_
  refine va_sld hx hb hX hbl hbA hS (vp_in_nI (show 7 * j + 1 < L by omega) (by omega)) dL_law_1688 ?_
  refine W.eq (g2 := F0 m 1689 ls [.int (xs (7 * j + 1)), .ref (ad 0)]) (by rw [nI_clamp (n := 7 * j + 1) (by omega)]) ?_
  refine lv_aload_n hx hb dL_law_1689 rfl (lv_at hl 1 rfl) ?_
  refine lv_iload hx hb dL_law_1690 (lv_at hl 0 rfl) ?_
  refine lv_iconst (v := 2) hx hb dL_law_1692 (by decide) ?_
  refine lv_iadd hx hb dL_law_1693 ?_
  refine W.eq (g2 := F0 m 1694 ls [.int (nI (7 * j + 2)), .ref b, .int (xs (7 * j + 1)), .ref (ad 0)]) (by rw [show (2 : Int32) = nI 2 from rfl, nI_add]) ?_
  refine va_sld hx hb hX hbl hbA hS (vp_in_nI (show 7 * j + 2 < L by omega) (by omega)) dL_law_1694 ?_
  refine W.eq (g2 := F0 m 1695 ls [.int (xs (7 * j + 2)), .int (xs (7 * j + 1)), .ref (ad 0)]) (by rw [nI_clamp (n := 7 * j + 2) (by omega)]) ?_
  refine lv_aload_n hx hb dL_law_1695 rfl (lv_at hl 4 rfl) ?_
  refine fk_lcallS (As := [.ref (ad 0), .int (xs (7 * j + 1)), .int (xs (7 * j + 2)), .ref o]) (rest := []) ⟨hx, hb, hml, hown, hts⟩ (hL9 (fk_mW bd cI M)) (vx_cwSW 4 hts gL_law_L_waiterAt rfl rfl rfl (by decide +kernel) ⟨Nat.le_of_ble_eq_true rfl, Nat.le_of_ble_eq_true rfl⟩) hK hP hD hS hA hZ hN rfl hl.1 rfl (Nat.le_of_ble_eq_true rfl) dL_law_1696 ⟨by show 60 + j + 1 ≤ 653130; omega, by show 900 + 6 * j + 6 ≤ 7136714; omega⟩ (fun H locs hP hD hS => ?_)
  refine W.eq (g2 := F0 m 1699 ls [.int (nI k)]) rfl ?_
  have hP := fk_LWP.mp (show va_P D vwCl (fk_LW ad bd cI cT cJ (fk_kOf M') M o f') H from hP)
  have hD := fk_LWD.mp (show va_D (lw_A s) (fk_LW ad bd cI cT cJ (fk_kOf M') M o f') from hD)
  refine lv_istore (lv' := [(5, .int (nI k)), (4, .int (nI (7 * j))), (0, .ref b), (1, .ref (ad 0)), (2, .ref (bd 0)), (3, .ref o)]) hx hb dL_law_1699 hl (by decide) rfl (fun ls hl => ?_)
  refine lv_aload_n hx hb dL_law_1701 rfl (lv_at hl 4 rfl) ?_
  refine lv_aload_n hx hb dL_law_1702 rfl (lv_at hl 2 rfl) ?_
  refine lv_iload hx hb dL_law_1703 (lv_at hl 1 rfl) ?_
  refine lv_iconst (v := 1) hx hb dL_law_1705 (by decide) ?_
  refine lv_iadd hx hb dL_law_1706 ?_
  refine W.eq (g2 := F0 m 1707 ls [.int (nI (7 * j + 1)), .ref b, .ref (bd 0)]) (by rw [show (1 : Int32) = nI 1 from rfl, nI_add]) ?_
  refine va_sld hx hb hX hbl hbA hS (vp_in_nI (show 7 * j + 1 < L by omega) (by omega)) dL_law_1707 ?_
  refine W.eq (g2 := F0 m 1708 ls [.int (xs (7 * j + 1)), .ref (bd 0)]) (by rw [nI_clamp (n := 7 * j + 1) (by omega)]) ?_
  refine lv_aload_n hx hb dL_law_1708 rfl (lv_at hl 2 rfl) ?_
  refine lv_iload hx hb dL_law_1709 (lv_at hl 1 rfl) ?_
  refine lv_iconst (v := 2) hx hb dL_law_1711 (by decide) ?_
  refine lv_iadd hx hb dL_law_1712 ?_
  refine W.eq (g2 := F0 m 1713 ls [.int (nI (7 * j + 2)), .ref b, .int (xs (7 * j + 1)), .ref (bd 0)]) (by rw [show (2 : Int32) = nI 2 from rfl, nI_add]) ?_
  refine va_sld hx hb hX hbl hbA hS (vp_in_nI (show 7 * j + 2 < L by omega) (by omega)) dL_law_1713 ?_
  refine W.eq (g2 := F0 m 1714 ls [.int (xs (7 * j + 2)), .int (xs (7 * j + 1)), .ref (bd 0)]) (by rw [nI_clamp (n := 7 * j + 2) (by omega)]) ?_
  refine fk_callV (As := [.int (xs (7 * j + 1)), .int (xs (7 * j + 2))]) (rest := []) ⟨hx, hb, hml, hown, hts⟩ (hM9 _) (cwV 2 hts gL_law_X3_waiterAt rfl rfl rfl (by decide +kernel) ⟨Nat.le_of_ble_eq_true rfl, Nat.le_of_ble_eq_true rfl⟩) (fk_rvM hK hP) hK hP hD hS hA rfl hl.1 rfl (Nat.le_of_ble_eq_true rfl) dL_law_1714 ⟨by show 60 + j + 1 ≤ 653130; omega, by show 900 + 6 * j + 6 ≤ 7136714; omega⟩ (fun H locs hP hD hS => ?_)
  refine W.eq (g2 := F0 m 1717 ls [.int r]) rfl ?_
  refine lv_istore (lv' := [(6, .int r), (5, .int (nI k)), (4, .int (nI (7 * j))), (0, .ref b), (1, .ref (ad 0)), (2, .ref (bd 0)), (3, .ref o)]) hx hb dL_law_1717 hl (by decide) rfl (fun ls hl => ?_)
  refine lv_aload_n hx hb dL_law_1719 rfl (lv_at hl 5 rfl) ?_
  refine fk_callV (As := []) (rest := []) ⟨hx, hb, hml, hown, hts⟩ (mc_thrown l D bd cI cT cJ _ M') (cwV 0 hts gL_law_X3_thrown rfl rfl rfl (by decide +kernel) ⟨Nat.le_of_ble_eq_true rfl, Nat.le_of_ble_eq_true rfl⟩) (fk_rvM hK hP) hK hP hD hS hA rfl hl.1 rfl (Nat.le_of_ble_eq_true rfl) dL_law_1720 ⟨by show 60 + j + 1 ≤ 653130; omega, by show 900 + 6 * j + 6 ≤ 7136714; omega⟩ (fun H locs hP hD hS => ?_)
  refine W.eq (g2 := F0 m 1723 ls [.int (nI k)]) (by rw [h4]; rfl) ?_
  have hP := fk_LWP.mpr hP
  have hD := fk_LWD.mpr hD
  refine lv_iload hx hb dL_law_1723 (lv_at hl 1 rfl) ?_
  refine lv_icmp_eq (tgt := 1730) hx hb dL_law_1725 (by decide) (fun _ => ?_) (fun c => absurd rfl c)
  refine lv_iload hx hb dL_law_1730 (lv_at hl 1 rfl) ?_
  refine lv_if_ne (tgt := 1747) hx hb dL_law_1732 (by decide) (fun _ => ?_) (fun ck => ?_)
  · refine lv_goto (tgt := 1818) hx hb dL_law_1747 (by decide) ?_
    exact W.widen (k := 60 + (j + 1)) (n := 900 + 6 * (j + 1)) (by omega) (by omega) (hk _ _ H locs ls hI9 hP hD hS (lv_sub hl [2, 3, 4, 5, 6] rfl))
  · have hk0 : k = 0 := (nI_eq (a := k) (b := 0) (by omega) (by decide)).mp ck
    refine lv_aload_n hx hb dL_law_1735 rfl (lv_at hl 6 rfl) ?_
    refine lv_iconst (v := 0) hx hb dL_law_1736 (by decide) ?_
    refine va_lald hx hb hK hP 27 2 fk_at27 rfl fk_v01 dL_law_1737 ?_
    refine W.eq (g2 := F0 m 1738 ls [.long r.toInt64]) (by rw [← hf hk0]; rfl) ?_
    refine lv_iload hx hb dL_law_1738 (lv_at hl 0 rfl) ?_
    refine lv_i2l hx hb dL_law_1740 rfl ?_
    refine W.lcmp hx hb dL_law_1741 ?_
    refine lv_if_eq (tgt := 1747) hx hb dL_law_1742 (by decide) (fun _ => ?_) (fun c => absurd (fk_lcmp_self _) c)
    refine lv_goto (tgt := 1818) hx hb dL_law_1747 (by decide) ?_
    exact W.widen (k := 60 + (j + 1)) (n := 900 + 6 * (j + 1)) (by omega) (by omega) (hk _ _ H locs ls hI9 hP hD hS (lv_sub hl [2, 3, 4, 5, 6] rfl))

set_option maxHeartbeats 4000000 in
set_option maxRecDepth 100000 in
theorem law_c25 {p : Program} {l : Launch} {e : Env} {s : State} {m : MethodId} {below : List Frame} {meth : Method} {c : Code} {D : va_G} {ad bd : Nat → Nat} {cI cT cJ : ClassId} {b o L : Nat} {xs : Nat → Int32} {j : Nat} (hst : l.stackTraces = false) (C0 : lw_At p s m meth c b L xs) (hK : va_K D vwCl (fk_ty cI cT cJ) s) (hZ : fk_Zs (lw_A s) s s.heap) (hN : fk_Nc s) (hL : L ≤ 3584) (hj : 7 * j + 7 ≤ L) (hk : lw_Go p l e s m below meth c D ad bd cI cT cJ b o (j + 1) j 1818) : lw_Go p l e s m below meth c D ad bd cI cT cJ b o j j 1750 := by
  obtain ⟨hx, hb, hr, hml, hown, hts0, hX, hbl, hlocks, hgv⟩ := C0
  have hts : ∀ w ∈ wsL_law, w.before #[Value.ref b] s = true := fun w h => hts0 w (wsL_law_in w h)
  have hA : ∀ q : Nat, s.heap.size ≤ q → lw_A s q := fun _ h => h
  have hbA : ¬ lw_A s b := Nat.not_le.mpr hbl
  intro M f H locs ls hI hP hD hS hl
  obtain ⟨k, M', f', r, hk3, h4, hI9, hf, hL9, hM9⟩ := op_queueAt (l := l) (D := D) (ad := ad) (bd := bd) (cI := cI) (cT := cT) (cJ := cJ) (o := o) (f := f) hI (by omega) (by omega) hst (xs (7 * j + 1)) (xs (7 * j + 2))
  have hI9 : fk_I (8 * (j + 1)) (1000 * (j + 1)) M' := hI9.wk (by omega) (by omega)
  refine lv_aload_n hx hb dL_law_1750 rfl (lv_at hl 2 rfl) ?_
  refine lv_aload_n hx hb dL_law_1751 rfl (lv_at hl 1 rfl) ?_
  refine lv_iload hx hb dL_law_1752 (lv_at hl 0 rfl) ?_
  refine lv_iconst (v := 1) hx hb dL_law_1754 (by decide) ?_
  refine lv_iadd hx hb dL_law_1755 ?_
  refine W.eq (g2 := F0 m 1756 ls [.int (nI (7 * j + 1)), .ref b, .ref (ad 0)]) (by rw [show (1 : Int32) = nI 1 from rfl, nI_add]) ?_
  refine va_sld hx hb hX hbl hbA hS (vp_in_nI (show 7 * j + 1 < L by omega) (by omega)) dL_law_1756 ?_
  refine W.eq (g2 := F0 m 1757 ls [.int (xs (7 * j + 1)), .ref (ad 0)]) (by rw [nI_clamp (n := 7 * j + 1) (by omega)]) ?_
  refine lv_aload_n hx hb dL_law_1757 rfl (lv_at hl 1 rfl) ?_
  refine lv_iload hx hb dL_law_1758 (lv_at hl 0 rfl) ?_
  refine lv_iconst (v := 2) hx hb dL_law_1760 (by decide) ?_
  refine lv_iadd hx hb dL_law_1761 ?_
  refine W.eq (g2 := F0 m 1762 ls [.int (nI (7 * j + 2)), .ref b, .int (xs (7 * j + 1)), .ref (ad 0)]) (by rw [show (2 : Int32) = nI 2 from rfl, nI_add]) ?_
  refine va_sld hx hb hX hbl hbA hS (vp_in_nI (show 7 * j + 2 < L by omega) (by omega)) dL_law_1762 ?_
  refine W.eq (g2 := F0 m 1763 ls [.int (xs (7 * j + 2)), .int (xs (7 * j + 1)), .ref (ad 0)]) (by rw [nI_clamp (n := 7 * j + 2) (by omega)]) ?_
  refine lv_aload_n hx hb dL_law_1763 rfl (lv_at hl 4 rfl) ?_
  refine fk_lcallS (As := [.ref (ad 0), .int (xs (7 * j + 1)), .int (xs (7 * j + 2)), .ref o]) (rest := []) ⟨hx, hb, hml, hown, hts⟩ (hL9 (fk_mW bd cI M)) (vx_cwSW 4 hts gL_law_L_queueAt rfl rfl rfl (by decide +kernel) ⟨Nat.le_of_ble_eq_true rfl, Nat.le_of_ble_eq_true rfl⟩) hK hP hD hS hA hZ hN rfl hl.1 rfl (Nat.le_of_ble_eq_true rfl) dL_law_1764 ⟨by show 60 + j + 1 ≤ 653130; omega, by show 900 + 6 * j + 6 ≤ 7136714; omega⟩ (fun H locs hP hD hS => ?_)
  refine W.eq (g2 := F0 m 1767 ls [.int (nI k)]) rfl ?_
  have hP := fk_LWP.mp (show va_P D vwCl (fk_LW ad bd cI cT cJ (fk_kOf M') M o f') H from hP)
  have hD := fk_LWD.mp (show va_D (lw_A s) (fk_LW ad bd cI cT cJ (fk_kOf M') M o f') from hD)
  refine lv_istore (lv' := [(5, .int (nI k)), (4, .int (nI (7 * j))), (0, .ref b), (1, .ref (ad 0)), (2, .ref (bd 0)), (3, .ref o)]) hx hb dL_law_1767 hl (by decide) rfl (fun ls hl => ?_)
  refine lv_aload_n hx hb dL_law_1769 rfl (lv_at hl 4 rfl) ?_
  refine lv_aload_n hx hb dL_law_1770 rfl (lv_at hl 2 rfl) ?_
  refine lv_iload hx hb dL_law_1771 (lv_at hl 1 rfl) ?_
  refine lv_iconst (v := 1) hx hb dL_law_1773 (by decide) ?_
  refine lv_iadd hx hb dL_law_1774 ?_
  refine W.eq (g2 := F0 m 1775 ls [.int (nI (7 * j + 1)), .ref b, .ref (bd 0)]) (by rw [show (1 : Int32) = nI 1 from rfl, nI_add]) ?_
  refine va_sld hx hb hX hbl hbA hS (vp_in_nI (show 7 * j + 1 < L by omega) (by omega)) dL_law_1775 ?_
  refine W.eq (g2 := F0 m 1776 ls [.int (xs (7 * j + 1)), .ref (bd 0)]) (by rw [nI_clamp (n := 7 * j + 1) (by omega)]) ?_
  refine lv_aload_n hx hb dL_law_1776 rfl (lv_at hl 2 rfl) ?_
  refine lv_iload hx hb dL_law_1777 (lv_at hl 1 rfl) ?_
  refine lv_iconst (v := 2) hx hb dL_law_1779 (by decide) ?_
  refine lv_iadd hx hb dL_law_1780 ?_
  refine W.eq (g2 := F0 m 1781 ls [.int (nI (7 * j + 2)), .ref b, .int (xs (7 * j + 1)), .ref (bd 0)]) (by rw [show (2 : Int32) = nI 2 from rfl, nI_add]) ?_
  refine va_sld hx hb hX hbl hbA hS (vp_in_nI (show 7 * j + 2 < L by omega) (by omega)) dL_law_1781 ?_
  refine W.eq (g2 := F0 m 1782 ls [.int (xs (7 * j + 2)), .int (xs (7 * j + 1)), .ref (bd 0)]) (by rw [nI_clamp (n := 7 * j + 2) (by omega)]) ?_
  refine fk_callV (As := [.int (xs (7 * j + 1)), .int (xs (7 * j + 2))]) (rest := []) ⟨hx, hb, hml, hown, hts⟩ (hM9 _) (cwV 2 hts gL_law_X3_queueAt rfl rfl rfl (by decide +kernel) ⟨Nat.le_of_ble_eq_true rfl, Nat.le_of_ble_eq_true rfl⟩) (fk_rvM hK hP) hK hP hD hS hA rfl hl.1 rfl (Nat.le_of_ble_eq_true rfl) dL_law_1782 ⟨by show 60 + j + 1 ≤ 653130; omega, by show 900 + 6 * j + 6 ≤ 7136714; omega⟩ (fun H locs hP hD hS => ?_)
  refine W.eq (g2 := F0 m 1785 ls [.int r]) rfl ?_
  refine lv_istore (lv' := [(6, .int r), (5, .int (nI k)), (4, .int (nI (7 * j))), (0, .ref b), (1, .ref (ad 0)), (2, .ref (bd 0)), (3, .ref o)]) hx hb dL_law_1785 hl (by decide) rfl (fun ls hl => ?_)
  refine lv_aload_n hx hb dL_law_1787 rfl (lv_at hl 5 rfl) ?_
  refine fk_callV (As := []) (rest := []) ⟨hx, hb, hml, hown, hts⟩ (mc_thrown l D bd cI cT cJ _ M') (cwV 0 hts gL_law_X3_thrown rfl rfl rfl (by decide +kernel) ⟨Nat.le_of_ble_eq_true rfl, Nat.le_of_ble_eq_true rfl⟩) (fk_rvM hK hP) hK hP hD hS hA rfl hl.1 rfl (Nat.le_of_ble_eq_true rfl) dL_law_1788 ⟨by show 60 + j + 1 ≤ 653130; omega, by show 900 + 6 * j + 6 ≤ 7136714; omega⟩ (fun H locs hP hD hS => ?_)
  refine W.eq (g2 := F0 m 1791 ls [.int (nI k)]) (by rw [h4]; rfl) ?_
  have hP := fk_LWP.mpr hP
  have hD := fk_LWD.mpr hD
  refine lv_iload hx hb dL_law_1791 (lv_at hl 1 rfl) ?_
  refine lv_icmp_eq (tgt := 1798) hx hb dL_law_1793 (by decide) (fun _ => ?_) (fun c => absurd rfl c)
  refine lv_iload hx hb dL_law_1798 (lv_at hl 1 rfl) ?_
  refine lv_if_ne (tgt := 1815) hx hb dL_law_1800 (by decide) (fun _ => ?_) (fun ck => ?_)
  · refine lv_goto (tgt := 1818) hx hb dL_law_1815 (by decide) ?_
    exact W.widen (k := 60 + (j + 1)) (n := 900 + 6 * (j + 1)) (by omega) (by omega) (hk _ _ H locs ls hI9 hP hD hS (lv_sub hl [2, 3, 4, 5, 6] rfl))
  · have hk0 : k = 0 := (nI_eq (a := k) (b := 0) (by omega) (by decide)).mp ck
    refine lv_aload_n hx hb dL_law_1803 rfl (lv_at hl 6 rfl) ?_
    refine lv_iconst (v := 0) hx hb dL_law_1804 (by decide) ?_
    refine va_lald hx hb hK hP 27 2 fk_at27 rfl fk_v01 dL_law_1805 ?_
    refine W.eq (g2 := F0 m 1806 ls [.long r.toInt64]) (by rw [← hf hk0]; rfl) ?_
    refine lv_iload hx hb dL_law_1806 (lv_at hl 0 rfl) ?_
    refine lv_i2l hx hb dL_law_1808 rfl ?_
    refine W.lcmp hx hb dL_law_1809 ?_
    refine lv_if_eq (tgt := 1815) hx hb dL_law_1810 (by decide) (fun _ => ?_) (fun c => absurd (fk_lcmp_self _) c)
    refine lv_goto (tgt := 1818) hx hb dL_law_1815 (by decide) ?_
    exact W.widen (k := 60 + (j + 1)) (n := 900 + 6 * (j + 1)) (by omega) (by omega) (hk _ _ H locs ls hI9 hP hD hS (lv_sub hl [2, 3, 4, 5, 6] rfl))
