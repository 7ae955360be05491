set_option maxHeartbeats 4000000 in
set_option maxRecDepth 100000 in
theorem law_c5 {p : Program} {l : Launch} {e : Env} {s : State} {m : MethodId} {below : List Frame} {meth : Method} {c : Code} {D : va_G} {ad bd : Nat → Nat} {cI cT cJ : ClassId} {b o L : Nat} {xs : Nat → Int32} {j : Nat} (hst : l.stackTraces = false) (C0 : lw_At p s m meth c b L xs) (hK : va_K D vwCl (fk_ty cI cT cJ) s) (hZ : fk_Zs (lw_A s) s s.heap) (hN : fk_Nc s) (hL : L ≤ 3584) (hj : 7 * j + 7 ≤ L) (hk : lw_Go p l e s m below meth c D ad bd cI cT cJ b o (j + 1) j 1818) : lw_Go p l e s m below meth c D ad bd cI cT cJ b o j j 586 := by
  obtain ⟨hx, hb, hr, hml, hown, hts0, hX, hbl, hlocks, hgv⟩ := C0
  have hts : ∀ w ∈ wsL_law, w.before #[Value.ref b] s = true := fun w h => hts0 w (wsL_law_in w h)
  have hA : ∀ q : Nat, s.heap.size ≤ q → lw_A s q := fun _ h => h
  have hbA : ¬ lw_A s b := Nat.not_le.mpr hbl
  intro M f H locs ls hI hP hD hS hl
  obtain ⟨k, M', f', r, hk3, h4, hI9, hf, hL9, hM9⟩ := op_wake (l := l) (D := D) (ad := ad) (bd := bd) (cI := cI) (cT := cT) (cJ := cJ) (o := o) (f := f) hI (by omega) (by omega) hst (xs (7 * j + 1)) (xs (7 * j + 2)) (xs (7 * j + 3)) (xs (7 * j + 4))
  have hI9 : fk_I (8 * (j + 1)) (1000 * (j + 1)) M' := hI9.wk (by omega) (by omega)
  refine lv_aload_n hx hb dL_law_586 rfl (lv_at hl 2 rfl) ?_
  refine lv_aload_n hx hb dL_law_587 rfl (lv_at hl 1 rfl) ?_
  refine lv_iload hx hb dL_law_588 (lv_at hl 0 rfl) ?_
  refine lv_iconst (v := 1) hx hb dL_law_590 (by decide) ?_
  refine lv_iadd hx hb dL_law_591 ?_
  refine W.eq (g2 := F0 m 592 ls [.int (nI (7 * j + 1)), .ref b, .ref (ad 0)]) (by rw [show (1 : Int32) = nI 1 from rfl, nI_add]) ?_
  refine va_sld hx hb hX hbl hbA hS (vp_in_nI (show 7 * j + 1 < L by omega) (by omega)) dL_law_592 ?_
  refine W.eq (g2 := F0 m 593 ls [.int (xs (7 * j + 1)), .ref (ad 0)]) (by rw [nI_clamp (n := 7 * j + 1) (by omega)]) ?_
  refine lv_aload_n hx hb dL_law_593 rfl (lv_at hl 1 rfl) ?_
  refine lv_iload hx hb dL_law_594 (lv_at hl 0 rfl) ?_
  refine lv_iconst (v := 2) hx hb dL_law_596 (by decide) ?_
  refine lv_iadd hx hb dL_law_597 ?_
  refine W.eq (g2 := F0 m 598 ls [.int (nI (7 * j + 2)), .ref b, .int (xs (7 * j + 1)), .ref (ad 0)]) (by rw [show (2 : Int32) = nI 2 from rfl, nI_add]) ?_
  refine va_sld hx hb hX hbl hbA hS (vp_in_nI (show 7 * j + 2 < L by omega) (by omega)) dL_law_598 ?_
  refine W.eq (g2 := F0 m 599 ls [.int (xs (7 * j + 2)), .int (xs (7 * j + 1)), .ref (ad 0)]) (by rw [nI_clamp (n := 7 * j + 2) (by omega)]) ?_
  refine lv_aload_n hx hb dL_law_599 rfl (lv_at hl 1 rfl) ?_
  refine lv_iload hx hb dL_law_600 (lv_at hl 0 rfl) ?_
  refine lv_iconst (v := 3) hx hb dL_law_602 (by decide) ?_
  refine lv_iadd hx hb dL_law_603 ?_
  refine W.eq (g2 := F0 m 604 ls [.int (nI (7 * j + 3)), .ref b, .int (xs (7 * j + 2)), .int (xs (7 * j + 1)), .ref (ad 0)]) (by rw [show (3 : Int32) = nI 3 from rfl, nI_add]) ?_
  refine va_sld hx hb hX hbl hbA hS (vp_in_nI (show 7 * j + 3 < L by omega) (by omega)) dL_law_604 ?_
  refine W.eq (g2 := F0 m 605 ls [.int (xs (7 * j + 3)), .int (xs (7 * j + 2)), .int (xs (7 * j + 1)), .ref (ad 0)]) (by rw [nI_clamp (n := 7 * j + 3) (by omega)]) ?_
  refine lv_aload_n hx hb dL_law_605 rfl (lv_at hl 1 rfl) ?_
  refine lv_iload hx hb dL_law_606 (lv_at hl 0 rfl) ?_
  refine lv_iconst (v := 4) hx hb dL_law_608 (by decide) ?_
  refine lv_iadd hx hb dL_law_609 ?_
  refine W.eq (g2 := F0 m 610 ls [.int (nI (7 * j + 4)), .ref b, .int (xs (7 * j + 3)), .int (xs (7 * j + 2)), .int (xs (7 * j + 1)), .ref (ad 0)]) (by rw [show (4 : Int32) = nI 4 from rfl, nI_add]) ?_
  refine va_sld hx hb hX hbl hbA hS (vp_in_nI (show 7 * j + 4 < L by omega) (by omega)) dL_law_610 ?_
  refine W.eq (g2 := F0 m 611 ls [.int (xs (7 * j + 4)), .int (xs (7 * j + 3)), .int (xs (7 * j + 2)), .int (xs (7 * j + 1)), .ref (ad 0)]) (by rw [nI_clamp (n := 7 * j + 4) (by omega)]) ?_
  refine lv_aload_n hx hb dL_law_611 rfl (lv_at hl 4 rfl) ?_
  refine fk_lcallS (As := [.ref (ad 0), .int (xs (7 * j + 1)), .int (xs (7 * j + 2)), .int (xs (7 * j + 3)), .int (xs (7 * j + 4)), .ref o]) (rest := []) ⟨hx, hb, hml, hown, hts⟩ (hL9 (fk_mW bd cI M)) (vx_cwSW 6 hts gL_law_L_wake rfl rfl rfl (by decide +kernel) ⟨Nat.le_of_ble_eq_true rfl, Nat.le_of_ble_eq_true rfl⟩) hK hP hD hS hA hZ hN rfl hl.1 rfl (Nat.le_of_ble_eq_true rfl) dL_law_612 ⟨by show 60 + j + 1 ≤ 653130; omega, by show 900 + 6 * j + 6 ≤ 7136714; omega⟩ (fun H locs hP hD hS => ?_)
  refine W.eq (g2 := F0 m 615 ls [.int (nI k)]) rfl ?_
  have hP := fk_LWP.mp (show va_P D vwCl (fk_LW ad bd cI cT cJ (fk_kOf M') M o f') H from hP)
  have hD := fk_LWD.mp (show va_D (lw_A s) (fk_LW ad bd cI cT cJ (fk_kOf M') M o f') from hD)
  refine lv_istore (lv' := [(5, .int (nI k)), (4, .int (nI (7 * j))), (0, .ref b), (1, .ref (ad 0)), (2, .ref (bd 0)), (3, .ref o)]) hx hb dL_law_615 hl (by decide) rfl (fun ls hl => ?_)
  refine lv_aload_n hx hb dL_law_617 rfl (lv_at hl 4 rfl) ?_
  refine lv_aload_n hx hb dL_law_618 rfl (lv_at hl 2 rfl) ?_
  refine lv_iload hx hb dL_law_619 (lv_at hl 1 rfl) ?_
  refine lv_iconst (v := 1) hx hb dL_law_621 (by decide) ?_
  refine lv_iadd hx hb dL_law_622 ?_
  refine W.eq (g2 := F0 m 623 ls [.int (nI (7 * j + 1)), .ref b, .ref (bd 0)]) (by rw [show (1 : Int32) = nI 1 from rfl, nI_add]) ?_
  refine va_sld hx hb hX hbl hbA hS (vp_in_nI (show 7 * j + 1 < L by omega) (by omega)) dL_law_623 ?_
  refine W.eq (g2 := F0 m 624 ls [.int (xs (7 * j + 1)), .ref (bd 0)]) (by rw [nI_clamp (n := 7 * j + 1) (by omega)]) ?_
  refine lv_aload_n hx hb dL_law_624 rfl (lv_at hl 2 rfl) ?_
  refine lv_iload hx hb dL_law_625 (lv_at hl 1 rfl) ?_
  refine lv_iconst (v := 2) hx hb dL_law_627 (by decide) ?_
  refine lv_iadd hx hb dL_law_628 ?_
  refine W.eq (g2 := F0 m 629 ls [.int (nI (7 * j + 2)), .ref b, .int (xs (7 * j + 1)), .ref (bd 0)]) (by rw [show (2 : Int32) = nI 2 from rfl, nI_add]) ?_
  refine va_sld hx hb hX hbl hbA hS (vp_in_nI (show 7 * j + 2 < L by omega) (by omega)) dL_law_629 ?_
  refine W.eq (g2 := F0 m 630 ls [.int (xs (7 * j + 2)), .int (xs (7 * j + 1)), .ref (bd 0)]) (by rw [nI_clamp (n := 7 * j + 2) (by omega)]) ?_
  refine lv_aload_n hx hb dL_law_630 rfl (lv_at hl 2 rfl) ?_
  refine lv_iload hx hb dL_law_631 (lv_at hl 1 rfl) ?_
  refine lv_iconst (v := 3) hx hb dL_law_633 (by decide) ?_
  refine lv_iadd hx hb dL_law_634 ?_
  refine W.eq (g2 := F0 m 635 ls [.int (nI (7 * j + 3)), .ref b, .int (xs (7 * j + 2)), .int (xs (7 * j + 1)), .ref (bd 0)]) (by rw [show (3 : Int32) = nI 3 from rfl, nI_add]) ?_
  refine va_sld hx hb hX hbl hbA hS (vp_in_nI (show 7 * j + 3 < L by omega) (by omega)) dL_law_635 ?_
  refine W.eq (g2 := F0 m 636 ls [.int (xs (7 * j + 3)), .int (xs (7 * j + 2)), .int (xs (7 * j + 1)), .ref (bd 0)]) (by rw [nI_clamp (n := 7 * j + 3) (by omega)]) ?_
  refine lv_aload_n hx hb dL_law_636 rfl (lv_at hl 2 rfl) ?_
  refine lv_iload hx hb dL_law_637 (lv_at hl 1 rfl) ?_
  refine lv_iconst (v := 4) hx hb dL_law_639 (by decide) ?_
  refine lv_iadd hx hb dL_law_640 ?_
  refine W.eq (g2 := F0 m 641 ls [.int (nI (7 * j + 4)), .ref b, .int (xs (7 * j + 3)), .int (xs (7 * j + 2)), .int (xs (7 * j + 1)), .ref (bd 0)]) (by rw [show (4 : Int32) = nI 4 from rfl, nI_add]) ?_
  refine va_sld hx hb hX hbl hbA hS (vp_in_nI (show 7 * j + 4 < L by omega) (by omega)) dL_law_641 ?_
  refine W.eq (g2 := F0 m 642 ls [.int (xs (7 * j + 4)), .int (xs (7 * j + 3)), .int (xs (7 * j + 2)), .int (xs (7 * j + 1)), .ref (bd 0)]) (by rw [nI_clamp (n := 7 * j + 4) (by omega)]) ?_
  refine fk_callV (As := [.int (xs (7 * j + 1)), .int (xs (7 * j + 2)), .int (xs (7 * j + 3)), .int (xs (7 * j + 4))]) (rest := []) ⟨hx, hb, hml, hown, hts⟩ (hM9 _) (cwV 4 hts gL_law_X3_wake rfl rfl rfl (by decide +kernel) ⟨Nat.le_of_ble_eq_true rfl, Nat.le_of_ble_eq_true rfl⟩) (fk_rvM hK hP) hK hP hD hS hA rfl hl.1 rfl (Nat.le_of_ble_eq_true rfl) dL_law_642 ⟨by show 60 + j + 1 ≤ 653130; omega, by show 900 + 6 * j + 6 ≤ 7136714; omega⟩ (fun H locs hP hD hS => ?_)
  refine W.eq (g2 := F0 m 645 ls [.int r]) rfl ?_
  refine lv_istore (lv' := [(6, .int r), (5, .int (nI k)), (4, .int (nI (7 * j))), (0, .ref b), (1, .ref (ad 0)), (2, .ref (bd 0)), (3, .ref o)]) hx hb dL_law_645 hl (by decide) rfl (fun ls hl => ?_)
  refine lv_aload_n hx hb dL_law_647 rfl (lv_at hl 5 rfl) ?_
  refine fk_callV (As := []) (rest := []) ⟨hx, hb, hml, hown, hts⟩ (mc_thrown l D bd cI cT cJ _ M') (cwV 0 hts gL_law_X3_thrown rfl rfl rfl (by decide +kernel) ⟨Nat.le_of_ble_eq_true rfl, Nat.le_of_ble_eq_true rfl⟩) (fk_rvM hK hP) hK hP hD hS hA rfl hl.1 rfl (Nat.le_of_ble_eq_true rfl) dL_law_648 ⟨by show 60 + j + 1 ≤ 653130; omega, by show 900 + 6 * j + 6 ≤ 7136714; omega⟩ (fun H locs hP hD hS => ?_)
  refine W.eq (g2 := F0 m 651 ls [.int (nI k)]) (by rw [h4]; rfl) ?_
  have hP := fk_LWP.mpr hP
  have hD := fk_LWD.mpr hD
  refine lv_iload hx hb dL_law_651 (lv_at hl 1 rfl) ?_
  refine lv_icmp_eq (tgt := 658) hx hb dL_law_653 (by decide) (fun _ => ?_) (fun c => absurd rfl c)
  refine lv_iload hx hb dL_law_658 (lv_at hl 1 rfl) ?_
  refine lv_if_ne (tgt := 675) hx hb dL_law_660 (by decide) (fun _ => ?_) (fun ck => ?_)
  · refine lv_goto (tgt := 1818) hx hb dL_law_675 (by decide) ?_
    exact W.widen (k := 60 + (j + 1)) (n := 900 + 6 * (j + 1)) (by omega) (by omega) (hk _ _ H locs ls hI9 hP hD hS (lv_sub hl [2, 3, 4, 5, 6] rfl))
  · have hk0 : k = 0 := (nI_eq (a := k) (b := 0) (by omega) (by decide)).mp ck
    refine lv_aload_n hx hb dL_law_663 rfl (lv_at hl 6 rfl) ?_
    refine lv_iconst (v := 0) hx hb dL_law_664 (by decide) ?_
    refine va_lald hx hb hK hP 27 2 fk_at27 rfl fk_v01 dL_law_665 ?_
    refine W.eq (g2 := F0 m 666 ls [.long r.toInt64]) (by rw [← hf hk0]; rfl) ?_
    refine lv_iload hx hb dL_law_666 (lv_at hl 0 rfl) ?_
    refine lv_i2l hx hb dL_law_668 rfl ?_
    refine W.lcmp hx hb dL_law_669 ?_
    refine lv_if_eq (tgt := 675) hx hb dL_law_670 (by decide) (fun _ => ?_) (fun c => absurd (fk_lcmp_self _) c)
    refine lv_goto (tgt := 1818) hx hb dL_law_675 (by decide) ?_
    exact W.widen (k := 60 + (j + 1)) (n := 900 + 6 * (j + 1)) (by omega) (by omega) (hk _ _ H locs ls hI9 hP hD hS (lv_sub hl [2, 3, 4, 5, 6] rfl))

set_option maxHeartbeats 4000000 in
set_option maxRecDepth 100000 in
theorem law_c6 {p : Program} {l : Launch} {e : Env} {s : State} {m : MethodId} {below : List Frame} {meth : Method} {c : Code} {D : va_G} {ad bd : Nat → Nat} {cI cT cJ : ClassId} {b o L : Nat} {xs : Nat → Int32} {j : Nat} (hst : l.stackTraces = false) (C0 : lw_At p s m meth c b L xs) (hK : va_K D vwCl (fk_ty cI cT cJ) s) (hZ : fk_Zs (lw_A s) s s.heap) (hN : fk_Nc s) (hL : L ≤ 3584) (hj : 7 * j + 7 ≤ L) (hk : lw_Go p l e s m below meth c D ad bd cI cT cJ b o (j + 1) j 1818) : lw_Go p l e s m below meth c D ad bd cI cT cJ b o j j 678 := by
  obtain ⟨hx, hb, hr, hml, hown, hts0, hX, hbl, hlocks, hgv⟩ := C0
  have hts : ∀ w ∈ wsL_law, w.before #[Value.ref b] s = true := fun w h => hts0 w (wsL_law_in w h)
  have hA : ∀ q : Nat, s.heap.size ≤ q → lw_A s q := fun _ h => h
  have hbA : ¬ lw_A s b := Nat.not_le.mpr hbl
  intro M f H locs ls hI hP hD hS hl
  obtain ⟨k, M', f', r, hk3, h4, hI9, hf, hL9, hM9⟩ := op_requeue (l := l) (D := D) (ad := ad) (bd := bd) (cI := cI) (cT := cT) (cJ := cJ) (o := o) (f := f) hI (by omega) (by omega) hst (xs (7 * j + 1)) (xs (7 * j + 2)) (xs (7 * j + 3)) (xs (7 * j + 4)) (xs (7 * j + 5)) (xs (7 * j + 6))
  have hI9 : fk_I (8 * (j + 1)) (1000 * (j + 1)) M' := hI9.wk (by omega) (by omega)
  refine lv_aload_n hx hb dL_law_678 rfl (lv_at hl 2 rfl) ?_
  refine lv_aload_n hx hb dL_law_679 rfl (lv_at hl 1 rfl) ?_
  refine lv_iload hx hb dL_law_680 (lv_at hl 0 rfl) ?_
  refine lv_iconst (v := 1) hx hb dL_law_682 (by decide) ?_
  refine lv_iadd hx hb dL_law_683 ?_
  refine W.eq (g2 := F0 m 684 ls [.int (nI (7 * j + 1)), .ref b, .ref (ad 0)]) (by rw [show (1 : Int32) = nI 1 from rfl, nI_add]) ?_
  refine va_sld hx hb hX hbl hbA hS (vp_in_nI (show 7 * j + 1 < L by omega) (by omega)) dL_law_684 ?_
  refine W.eq (g2 := F0 m 685 ls [.int (xs (7 * j + 1)), .ref (ad 0)]) (by rw [nI_clamp (n := 7 * j + 1) (by omega)]) ?_
  refine lv_aload_n hx hb dL_law_685 rfl (lv_at hl 1 rfl) ?_
  refine lv_iload hx hb dL_law_686 (lv_at hl 0 rfl) ?_
  refine lv_iconst (v := 2) hx hb dL_law_688 (by decide) ?_
  refine lv_iadd hx hb dL_law_689 ?_
  refine W.eq (g2 := F0 m 690 ls [.int (nI (7 * j + 2)), .ref b, .int (xs (7 * j + 1)), .ref (ad 0)]) (by rw [show (2 : Int32) = nI 2 from rfl, nI_add]) ?_
  refine va_sld hx hb hX hbl hbA hS (vp_in_nI (show 7 * j + 2 < L by omega) (by omega)) dL_law_690 ?_
  refine W.eq (g2 := F0 m 691 ls [.int (xs (7 * j + 2)), .int (xs (7 * j + 1)), .ref (ad 0)]) (by rw [nI_clamp (n := 7 * j + 2) (by omega)]) ?_
  refine lv_aload_n hx hb dL_law_691 rfl (lv_at hl 1 rfl) ?_
  refine lv_iload hx hb dL_law_692 (lv_at hl 0 rfl) ?_
  refine lv_iconst (v := 3) hx hb dL_law_694 (by decide) ?_
  refine lv_iadd hx hb dL_law_695 ?_
  refine W.eq (g2 := F0 m 696 ls [.int (nI (7 * j + 3)), .ref b, .int (xs (7 * j + 2)), .int (xs (7 * j + 1)), .ref (ad 0)]) (by rw [show (3 : Int32) = nI 3 from rfl, nI_add]) ?_
  refine va_sld hx hb hX hbl hbA hS (vp_in_nI (show 7 * j + 3 < L by omega) (by omega)) dL_law_696 ?_
  refine W.eq (g2 := F0 m 697 ls [.int (xs (7 * j + 3)), .int (xs (7 * j + 2)), .int (xs (7 * j + 1)), .ref (ad 0)]) (by rw [nI_clamp (n := 7 * j + 3) (by omega)]) ?_
  refine lv_aload_n hx hb dL_law_697 rfl (lv_at hl 1 rfl) ?_
  refine lv_iload hx hb dL_law_698 (lv_at hl 0 rfl) ?_
  refine lv_iconst (v := 4) hx hb dL_law_700 (by decide) ?_
  refine lv_iadd hx hb dL_law_701 ?_
  refine W.eq (g2 := F0 m 702 ls [.int (nI (7 * j + 4)), .ref b, .int (xs (7 * j + 3)), .int (xs (7 * j + 2)), .int (xs (7 * j + 1)), .ref (ad 0)]) (by rw [show (4 : Int32) = nI 4 from rfl, nI_add]) ?_
  refine va_sld hx hb hX hbl hbA hS (vp_in_nI (show 7 * j + 4 < L by omega) (by omega)) dL_law_702 ?_
  refine W.eq (g2 := F0 m 703 ls [.int (xs (7 * j + 4)), .int (xs (7 * j + 3)), .int (xs (7 * j + 2)), .int (xs (7 * j + 1)), .ref (ad 0)]) (by rw [nI_clamp (n := 7 * j + 4) (by omega)]) ?_
  refine lv_aload_n hx hb dL_law_703 rfl (lv_at hl 1 rfl) ?_
  refine lv_iload hx hb dL_law_704 (lv_at hl 0 rfl) ?_
  refine lv_iconst (v := 5) hx hb dL_law_706 (by decide) ?_
  refine lv_iadd hx hb dL_law_707 ?_
  refine W.eq (g2 := F0 m 708 ls [.int (nI (7 * j + 5)), .ref b, .int (xs (7 * j + 4)), .int (xs (7 * j + 3)), .int (xs (7 * j + 2)), .int (xs (7 * j + 1)), .ref (ad 0)]) (by rw [show (5 : Int32) = nI 5 from rfl, nI_add]) ?_
  refine va_sld hx hb hX hbl hbA hS (vp_in_nI (show 7 * j + 5 < L by omega) (by omega)) dL_law_708 ?_
  refine W.eq (g2 := F0 m 709 ls [.int (xs (7 * j + 5)), .int (xs (7 * j + 4)), .int (xs (7 * j + 3)), .int (xs (7 * j + 2)), .int (xs (7 * j + 1)), .ref (ad 0)]) (by rw [nI_clamp (n := 7 * j + 5) (by omega)]) ?_
  refine lv_aload_n hx hb dL_law_709 rfl (lv_at hl 1 rfl) ?_
  refine lv_iload hx hb dL_law_710 (lv_at hl 0 rfl) ?_
  refine lv_bipush (v := 6) hx hb dL_law_712 (by decide) ?_
  refine lv_iadd hx hb dL_law_714 ?_
  refine W.eq (g2 := F0 m 715 ls [.int (nI (7 * j + 6)), .ref b, .int (xs (7 * j + 5)), .int (xs (7 * j + 4)), .int (xs (7 * j + 3)), .int (xs (7 * j + 2)), .int (xs (7 * j + 1)), .ref (ad 0)]) (by rw [show (6 : Int32) = nI 6 from rfl, nI_add]) ?_
  refine va_sld hx hb hX hbl hbA hS (vp_in_nI (show 7 * j + 6 < L by omega) (by omega)) dL_law_715 ?_
  refine W.eq (g2 := F0 m 716 ls [.int (xs (7 * j + 6)), .int (xs (7 * j + 5)), .int (xs (7 * j + 4)), .int (xs (7 * j + 3)), .int (xs (7 * j + 2)), .int (xs (7 * j + 1)), .ref (ad 0)]) (by rw [nI_clamp (n := 7 * j + 6) (by omega)]) ?_
  refine lv_aload_n hx hb dL_law_716 rfl (lv_at hl 4 rfl) ?_
  refine fk_lcallS (As := [.ref (ad 0), .int (xs (7 * j + 1)), .int (xs (7 * j + 2)), .int (xs (7 * j + 3)), .int (xs (7 * j + 4)), .int (xs (7 * j + 5)), .int (xs (7 * j + 6)), .ref o]) (rest := []) ⟨hx, hb, hml, hown, hts⟩ (hL9 (fk_mW bd cI M)) (vx_cwSW 8 hts gL_law_L_requeue rfl rfl rfl (by decide +kernel) ⟨Nat.le_of_ble_eq_true rfl, Nat.le_of_ble_eq_true rfl⟩) hK hP hD hS hA hZ hN rfl hl.1 rfl (Nat.le_of_ble_eq_true rfl) dL_law_717 ⟨by show 60 + j + 1 ≤ 653130; omega, by show 900 + 6 * j + 6 ≤ 7136714; omega⟩ (fun H locs hP hD hS => ?_)
  refine W.eq (g2 := F0 m 720 ls [.int (nI k)]) rfl ?_
  have hP := fk_LWP.mp (show va_P D vwCl (fk_LW ad bd cI cT cJ (fk_kOf M') M o f') H from hP)
  have hD := fk_LWD.mp (show va_D (lw_A s) (fk_LW ad bd cI cT cJ (fk_kOf M') M o f') from hD)
  refine lv_istore (lv' := [(5, .int (nI k)), (4, .int (nI (7 * j))), (0, .ref b), (1, .ref (ad 0)), (2, .ref (bd 0)), (3, .ref o)]) hx hb dL_law_720 hl (by decide) rfl (fun ls hl => ?_)
  refine lv_aload_n hx hb dL_law_722 rfl (lv_at hl 4 rfl) ?_
  refine lv_aload_n hx hb dL_law_723 rfl (lv_at hl 2 rfl) ?_
  refine lv_iload hx hb dL_law_724 (lv_at hl 1 rfl) ?_
  refine lv_iconst (v := 1) hx hb dL_law_726 (by decide) ?_
  refine lv_iadd hx hb dL_law_727 ?_
  refine W.eq (g2 := F0 m 728 ls [.int (nI (7 * j + 1)), .ref b, .ref (bd 0)]) (by rw [show (1 : Int32) = nI 1 from rfl, nI_add]) ?_
  refine va_sld hx hb hX hbl hbA hS (vp_in_nI (show 7 * j + 1 < L by omega) (by omega)) dL_law_728 ?_
  refine W.eq (g2 := F0 m 729 ls [.int (xs (7 * j + 1)), .ref (bd 0)]) (by rw [nI_clamp (n := 7 * j + 1) (by omega)]) ?_
  refine lv_aload_n hx hb dL_law_729 rfl (lv_at hl 2 rfl) ?_
  refine lv_iload hx hb dL_law_730 (lv_at hl 1 rfl) ?_
  refine lv_iconst (v := 2) hx hb dL_law_732 (by decide) ?_
  refine lv_iadd hx hb dL_law_733 ?_
  refine W.eq (g2 := F0 m 734 ls [.int (nI (7 * j + 2)), .ref b, .int (xs (7 * j + 1)), .ref (bd 0)]) (by rw [show (2 : Int32) = nI 2 from rfl, nI_add]) ?_
  refine va_sld hx hb hX hbl hbA hS (vp_in_nI (show 7 * j + 2 < L by omega) (by omega)) dL_law_734 ?_
  refine W.eq (g2 := F0 m 735 ls [.int (xs (7 * j + 2)), .int (xs (7 * j + 1)), .ref (bd 0)]) (by rw [nI_clamp (n := 7 * j + 2) (by omega)]) ?_
  refine lv_aload_n hx hb dL_law_735 rfl (lv_at hl 2 rfl) ?_
  refine lv_iload hx hb dL_law_736 (lv_at hl 1 rfl) ?_
  refine lv_iconst (v := 3) hx hb dL_law_738 (by decide) ?_
  refine lv_iadd hx hb dL_law_739 ?_
  refine W.eq (g2 := F0 m 740 ls [.int (nI (7 * j + 3)), .ref b, .int (xs (7 * j + 2)), .int (xs (7 * j + 1)), .ref (bd 0)]) (by rw [show (3 : Int32) = nI 3 from rfl, nI_add]) ?_
  refine va_sld hx hb hX hbl hbA hS (vp_in_nI (show 7 * j + 3 < L by omega) (by omega)) dL_law_740 ?_
  refine W.eq (g2 := F0 m 741 ls [.int (xs (7 * j + 3)), .int (xs (7 * j + 2)), .int (xs (7 * j + 1)), .ref (bd 0)]) (by rw [nI_clamp (n := 7 * j + 3) (by omega)]) ?_
  refine lv_aload_n hx hb dL_law_741 rfl (lv_at hl 2 rfl) ?_
  refine lv_iload hx hb dL_law_742 (lv_at hl 1 rfl) ?_
  refine lv_iconst (v := 4) hx hb dL_law_744 (by decide) ?_
  refine lv_iadd hx hb dL_law_745 ?_
  refine W.eq (g2 := F0 m 746 ls [.int (nI (7 * j + 4)), .ref b, .int (xs (7 * j + 3)), .int (xs (7 * j + 2)), .int (xs (7 * j + 1)), .ref (bd 0)]) (by rw [show (4 : Int32) = nI 4 from rfl, nI_add]) ?_
  refine va_sld hx hb hX hbl hbA hS (vp_in_nI (show 7 * j + 4 < L by omega) (by omega)) dL_law_746 ?_
  refine W.eq (g2 := F0 m 747 ls [.int (xs (7 * j + 4)), .int (xs (7 * j + 3)), .int (xs (7 * j + 2)), .int (xs (7 * j + 1)), .ref (bd 0)]) (by rw [nI_clamp (n := 7 * j + 4) (by omega)]) ?_
  refine lv_aload_n hx hb dL_law_747 rfl (lv_at hl 2 rfl) ?_
  refine lv_iload hx hb dL_law_748 (lv_at hl 1 rfl) ?_
  refine lv_iconst (v := 5) hx hb dL_law_750 (by decide) ?_
  refine lv_iadd hx hb dL_law_751 ?_
  refine W.eq (g2 := F0 m 752 ls [.int (nI (7 * j + 5)), .ref b, .int (xs (7 * j + 4)), .int (xs (7 * j + 3)), .int (xs (7 * j + 2)), .int (xs (7 * j + 1)), .ref (bd 0)]) (by rw [show (5 : Int32) = nI 5 from rfl, nI_add]) ?_
  refine va_sld hx hb hX hbl hbA hS (vp_in_nI (show 7 * j + 5 < L by omega) (by omega)) dL_law_752 ?_
  refine W.eq (g2 := F0 m 753 ls [.int (xs (7 * j + 5)), .int (xs (7 * j + 4)), .int (xs (7 * j + 3)), .int (xs (7 * j + 2)), .int (xs (7 * j + 1)), .ref (bd 0)]) (by rw [nI_clamp (n := 7 * j + 5) (by omega)]) ?_
  refine lv_aload_n hx hb dL_law_753 rfl (lv_at hl 2 rfl) ?_
  refine lv_iload hx hb dL_law_754 (lv_at hl 1 rfl) ?_
  refine lv_bipush (v := 6) hx hb dL_law_756 (by decide) ?_
  refine lv_iadd hx hb dL_law_758 ?_
  refine W.eq (g2 := F0 m 759 ls [.int (nI (7 * j + 6)), .ref b, .int (xs (7 * j + 5)), .int (xs (7 * j + 4)), .int (xs (7 * j + 3)), .int (xs (7 * j + 2)), .int (xs (7 * j + 1)), .ref (bd 0)]) (by rw [show (6 : Int32) = nI 6 from rfl, nI_add]) ?_
  refine va_sld hx hb hX hbl hbA hS (vp_in_nI (show 7 * j + 6 < L by omega) (by omega)) dL_law_759 ?_
  refine W.eq (g2 := F0 m 760 ls [.int (xs (7 * j + 6)), .int (xs (7 * j + 5)), .int (xs (7 * j + 4)), .int (xs (7 * j + 3)), .int (xs (7 * j + 2)), .int (xs (7 * j + 1)), .ref (bd 0)]) (by rw [nI_clamp (n := 7 * j + 6) (by omega)]) ?_
  refine fk_callV (As := [.int (xs (7 * j + 1)), .int (xs (7 * j + 2)), .int (xs (7 * j + 3)), .int (xs (7 * j + 4)), .int (xs (7 * j + 5)), .int (xs (7 * j + 6))]) (rest := []) ⟨hx, hb, hml, hown, hts⟩ (hM9 _) (cwV 6 hts gL_law_X3_requeue rfl rfl rfl (by decide +kernel) ⟨Nat.le_of_ble_eq_true rfl, Nat.le_of_ble_eq_true rfl⟩) (fk_rvM hK hP) hK hP hD hS hA rfl hl.1 rfl (Nat.le_of_ble_eq_true rfl) dL_law_760 ⟨by show 60 + j + 1 ≤ 653130; omega, by show 900 + 6 * j + 6 ≤ 7136714; omega⟩ (fun H locs hP hD hS => ?_)
  refine W.eq (g2 := F0 m 763 ls [.int r]) rfl ?_
  refine lv_istore (lv' := [(6, .int r), (5, .int (nI k)), (4, .int (nI (7 * j))), (0, .ref b), (1, .ref (ad 0)), (2, .ref (bd 0)), (3, .ref o)]) hx hb dL_law_763 hl (by decide) rfl (fun ls hl => ?_)
  refine lv_aload_n hx hb dL_law_765 rfl (lv_at hl 5 rfl) ?_
  refine fk_callV (As := []) (rest := []) ⟨hx, hb, hml, hown, hts⟩ (mc_thrown l D bd cI cT cJ _ M') (cwV 0 hts gL_law_X3_thrown rfl rfl rfl (by decide +kernel) ⟨Nat.le_of_ble_eq_true rfl, Nat.le_of_ble_eq_true rfl⟩) (fk_rvM hK hP) hK hP hD hS hA rfl hl.1 rfl (Nat.le_of_ble_eq_true rfl) dL_law_766 ⟨by show 60 + j + 1 ≤ 653130; omega, by show 900 + 6 * j + 6 ≤ 7136714; omega⟩ (fun H locs hP hD hS => ?_)
  refine W.eq (g2 := F0 m 769 ls [.int (nI k)]) (by rw [h4]; rfl) ?_
  have hP := fk_LWP.mpr hP
  have hD := fk_LWD.mpr hD
  refine lv_iload hx hb dL_law_769 (lv_at hl 1 rfl) ?_
  refine lv_icmp_eq (tgt := 776) hx hb dL_law_771 (by decide) (fun _ => ?_) (fun c => absurd rfl c)
  refine lv_iload hx hb dL_law_776 (lv_at hl 1 rfl) ?_
  refine lv_if_ne (tgt := 793) hx hb dL_law_778 (by decide) (fun _ => ?_) (fun ck => ?_)
  · refine lv_goto (tgt := 1818) hx hb dL_law_793 (by decide) ?_
    exact W.widen (k := 60 + (j + 1)) (n := 900 + 6 * (j + 1)) (by omega) (by omega) (hk _ _ H locs ls hI9 hP hD hS (lv_sub hl [2, 3, 4, 5, 6] rfl))
  · have hk0 : k = 0 := (nI_eq (a := k) (b := 0) (by omega) (by decide)).mp ck
    refine lv_aload_n hx hb dL_law_781 rfl (lv_at hl 6 rfl) ?_
    refine lv_iconst (v := 0) hx hb dL_law_782 (by decide) ?_
    refine va_lald hx hb hK hP 27 2 fk_at27 rfl fk_v01 dL_law_783 ?_
    refine W.eq (g2 := F0 m 784 ls [.long r.toInt64]) (by rw [← hf hk0]; rfl) ?_
    refine lv_iload hx hb dL_law_784 (lv_at hl 0 rfl) ?_
    refine lv_i2l hx hb dL_law_786 rfl ?_
    refine W.lcmp hx hb dL_law_787 ?_
    refine lv_if_eq (tgt := 793) hx hb dL_law_788 (by decide) (fun _ => ?_) (fun c => absurd (fk_lcmp_self _) c)
    refine lv_goto (tgt := 1818) hx hb dL_law_793 (by decide) ?_
    exact W.widen (k := 60 + (j + 1)) (n := 900 + 6 * (j + 1)) (by omega) (by omega) (hk _ _ H locs ls hI9 hP hD hS (lv_sub hl [2, 3, 4, 5, 6] rfl))

set_option maxHeartbeats 4000000 in
set_option maxRecDepth 100000 in
theorem law_c7 {p : Program} {l : Launch} {e : Env} {s : State} {m : MethodId} {below : List Frame} {meth : Method} {c : Code} {D : va_G} {ad bd : Nat → Nat} {cI cT cJ : ClassId} {b o L : Nat} {xs : Nat → Int32} {j : Nat} (hst : l.stackTraces = false) (C0 : lw_At p s m meth c b L xs) (hK : va_K D vwCl (fk_ty cI cT cJ) s) (hZ : fk_Zs (lw_A s) s s.heap) (hN : fk_Nc s) (hL : L ≤ 3584) (hj : 7 * j + 7 ≤ L) (hk : lw_Go p l e s m below meth c D ad bd cI cT cJ b o (j + 1) j 1818) : lw_Go p l e s m below meth c D ad bd cI cT cJ b o j j 796 := by
  obtain ⟨hx, hb, hr, hml, hown, hts0, hX, hbl, hlocks, hgv⟩ := C0
  have hts : ∀ w ∈ wsL_law, w.before #[Value.ref b] s = true := fun w h => hts0 w (wsL_law_in w h)
  have hA : ∀ q : Nat, s.heap.size ≤ q → lw_A s q := fun _ h => h
  have hbA : ¬ lw_A s b := Nat.not_le.mpr hbl
  intro M f H locs ls hI hP hD hS hl
  obtain ⟨k, M', f', r, hk3, h4, hI9, hf, hL9, hM9⟩ := op_lock (l := l) (D := D) (ad := ad) (bd := bd) (cI := cI) (cT := cT) (cJ := cJ) (o := o) (f := f) hI (by omega) (by omega) hst (xs (7 * j + 1)) (xs (7 * j + 2)) (xs (7 * j + 3))
  have hI9 : fk_I (8 * (j + 1)) (1000 * (j + 1)) M' := hI9.wk (by omega) (by omega)
  refine lv_aload_n hx hb dL_law_796 rfl (lv_at hl 2 rfl) ?_
  refine lv_aload_n hx hb dL_law_797 rfl (lv_at hl 1 rfl) ?_
  refine lv_iload hx hb dL_law_798 (lv_at hl 0 rfl) ?_
  refine lv_iconst (v := 1) hx hb dL_law_800 (by decide) ?_
  refine lv_iadd hx hb dL_law_801 ?_
  refine W.eq (g2 := F0 m 802 ls [.int (nI (7 * j + 1)), .ref b, .ref (ad 0)]) (by rw [show (1 : Int32) = nI 1 from rfl, nI_add]) ?_
  refine va_sld hx hb hX hbl hbA hS (vp_in_nI (show 7 * j + 1 < L by omega) (by omega)) dL_law_802 ?_
  refine W.eq (g2 := F0 m 803 ls [.int (xs (7 * j + 1)), .ref (ad 0)]) (by rw [nI_clamp (n := 7 * j + 1) (by omega)]) ?_
  refine lv_aload_n hx hb dL_law_803 rfl (lv_at hl 1 rfl) ?_
  refine lv_iload hx hb dL_law_804 (lv_at hl 0 rfl) ?_
  refine lv_iconst (v := 2) hx hb dL_law_806 (by decide) ?_
  refine lv_iadd hx hb dL_law_807 ?_
  refine W.eq (g2 := F0 m 808 ls [.int (nI (7 * j + 2)), .ref b, .int (xs (7 * j + 1)), .ref (ad 0)]) (by rw [show (2 : Int32) = nI 2 from rfl, nI_add]) ?_
  refine va_sld hx hb hX hbl hbA hS (vp_in_nI (show 7 * j + 2 < L by omega) (by omega)) dL_law_808 ?_
  refine W.eq (g2 := F0 m 809 ls [.int (xs (7 * j + 2)), .int (xs (7 * j + 1)), .ref (ad 0)]) (by rw [nI_clamp (n := 7 * j + 2) (by omega)]) ?_
  refine lv_aload_n hx hb dL_law_809 rfl (lv_at hl 1 rfl) ?_
  refine lv_iload hx hb dL_law_810 (lv_at hl 0 rfl) ?_
  refine lv_iconst (v := 3) hx hb dL_law_812 (by decide) ?_
  refine lv_iadd hx hb dL_law_813 ?_
  refine W.eq (g2 := F0 m 814 ls [.int (nI (7 * j + 3)), .ref b, .int (xs (7 * j + 2)), .int (xs (7 * j + 1)), .ref (ad 0)]) (by rw [show (3 : Int32) = nI 3 from rfl, nI_add]) ?_
  refine va_sld hx hb hX hbl hbA hS (vp_in_nI (show 7 * j + 3 < L by omega) (by omega)) dL_law_814 ?_
  refine W.eq (g2 := F0 m 815 ls [.int (xs (7 * j + 3)), .int (xs (7 * j + 2)), .int (xs (7 * j + 1)), .ref (ad 0)]) (by rw [nI_clamp (n := 7 * j + 3) (by omega)]) ?_
  refine lv_aload_n hx hb dL_law_815 rfl (lv_at hl 4 rfl) ?_
  refine fk_lcallS (As := [.ref (ad 0), .int (xs (7 * j + 1)), .int (xs (7 * j + 2)), .int (xs (7 * j + 3)), .ref o]) (rest := []) ⟨hx, hb, hml, hown, hts⟩ (hL9 (fk_mW bd cI M)) (vx_cwSW 5 hts gL_law_L_lock rfl rfl rfl (by decide +kernel) ⟨Nat.le_of_ble_eq_true rfl, Nat.le_of_ble_eq_true rfl⟩) hK hP hD hS hA hZ hN rfl hl.1 rfl (Nat.le_of_ble_eq_true rfl) dL_law_816 ⟨by show 60 + j + 1 ≤ 653130; omega, by show 900 + 6 * j + 6 ≤ 7136714; omega⟩ (fun H locs hP hD hS => ?_)
  refine W.eq (g2 := F0 m 819 ls [.int (nI k)]) rfl ?_
  have hP := fk_LWP.mp (show va_P D vwCl (fk_LW ad bd cI cT cJ (fk_kOf M') M o f') H from hP)
  have hD := fk_LWD.mp (show va_D (lw_A s) (fk_LW ad bd cI cT cJ (fk_kOf M') M o f') from hD)
  refine lv_istore (lv' := [(5, .int (nI k)), (4, .int (nI (7 * j))), (0, .ref b), (1, .ref (ad 0)), (2, .ref (bd 0)), (3, .ref o)]) hx hb dL_law_819 hl (by decide) rfl (fun ls hl => ?_)
  refine lv_aload_n hx hb dL_law_821 rfl (lv_at hl 4 rfl) ?_
  refine lv_aload_n hx hb dL_law_822 rfl (lv_at hl 2 rfl) ?_
  refine lv_iload hx hb dL_law_823 (lv_at hl 1 rfl) ?_
  refine lv_iconst (v := 1) hx hb dL_law_825 (by decide) ?_
  refine lv_iadd hx hb dL_law_826 ?_
  refine W.eq (g2 := F0 m 827 ls [.int (nI (7 * j + 1)), .ref b, .ref (bd 0)]) (by rw [show (1 : Int32) = nI 1 from rfl, nI_add]) ?_
  refine va_sld hx hb hX hbl hbA hS (vp_in_nI (show 7 * j + 1 < L by omega) (by omega)) dL_law_827 ?_
  refine W.eq (g2 := F0 m 828 ls [.int (xs (7 * j + 1)), .ref (bd 0)]) (by rw [nI_clamp (n := 7 * j + 1) (by omega)]) ?_
  refine lv_aload_n hx hb dL_law_828 rfl (lv_at hl 2 rfl) ?_
  refine lv_iload hx hb dL_law_829 (lv_at hl 1 rfl) ?_
  refine lv_iconst (v := 2) hx hb dL_law_831 (by decide) ?_
  refine lv_iadd hx hb dL_law_832 ?_
  refine W.eq (g2 := F0 m 833 ls [.int (nI (7 * j + 2)), .ref b, .int (xs (7 * j + 1)), .ref (bd 0)]) (by rw [show (2 : Int32) = nI 2 from rfl, nI_add]) ?_
  refine va_sld hx hb hX hbl hbA hS (vp_in_nI (show 7 * j + 2 < L by omega) (by omega)) dL_law_833 ?_
  refine W.eq (g2 := F0 m 834 ls [.int (xs (7 * j + 2)), .int (xs (7 * j + 1)), .ref (bd 0)]) (by rw [nI_clamp (n := 7 * j + 2) (by omega)]) ?_
  refine lv_aload_n hx hb dL_law_834 rfl (lv_at hl 2 rfl) ?_
  refine lv_iload hx hb dL_law_835 (lv_at hl 1 rfl) ?_
  refine lv_iconst (v := 3) hx hb dL_law_837 (by decide) ?_
  refine lv_iadd hx hb dL_law_838 ?_
  refine W.eq (g2 := F0 m 839 ls [.int (nI (7 * j + 3)), .ref b, .int (xs (7 * j + 2)), .int (xs (7 * j + 1)), .ref (bd 0)]) (by rw [show (3 : Int32) = nI 3 from rfl, nI_add]) ?_
  refine va_sld hx hb hX hbl hbA hS (vp_in_nI (show 7 * j + 3 < L by omega) (by omega)) dL_law_839 ?_
  refine W.eq (g2 := F0 m 840 ls [.int (xs (7 * j + 3)), .int (xs (7 * j + 2)), .int (xs (7 * j + 1)), .ref (bd 0)]) (by rw [nI_clamp (n := 7 * j + 3) (by omega)]) ?_
  refine fk_callV (As := [.int (xs (7 * j + 1)), .int (xs (7 * j + 2)), .int (xs (7 * j + 3))]) (rest := []) ⟨hx, hb, hml, hown, hts⟩ (hM9 _) (cwV 3 hts gL_law_X3_lock rfl rfl rfl (by decide +kernel) ⟨Nat.le_of_ble_eq_true rfl, Nat.le_of_ble_eq_true rfl⟩) (fk_rvM hK hP) hK hP hD hS hA rfl hl.1 rfl (Nat.le_of_ble_eq_true rfl) dL_law_840 ⟨by show 60 + j + 1 ≤ 653130; omega, by show 900 + 6 * j + 6 ≤ 7136714; omega⟩ (fun H locs hP hD hS => ?_)
  refine W.eq (g2 := F0 m 843 ls [.int r]) rfl ?_
  refine lv_istore (lv' := [(6, .int r), (5, .int (nI k)), (4, .int (nI (7 * j))), (0, .ref b), (1, .ref (ad 0)), (2, .ref (bd 0)), (3, .ref o)]) hx hb dL_law_843 hl (by decide) rfl (fun ls hl => ?_)
  refine lv_aload_n hx hb dL_law_845 rfl (lv_at hl 5 rfl) ?_
  refine fk_callV (As := []) (rest := []) ⟨hx, hb, hml, hown, hts⟩ (mc_thrown l D bd cI cT cJ _ M') (cwV 0 hts gL_law_X3_thrown rfl rfl rfl (by decide +kernel) ⟨Nat.le_of_ble_eq_true rfl, Nat.le_of_ble_eq_true rfl⟩) (fk_rvM hK hP) hK hP hD hS hA rfl hl.1 rfl (Nat.le_of_ble_eq_true rfl) dL_law_846 ⟨by show 60 + j + 1 ≤ 653130; omega, by show 900 + 6 * j + 6 ≤ 7136714; omega⟩ (fun H locs hP hD hS => ?_)
  refine W.eq (g2 := F0 m 849 ls [.int (nI k)]) (by rw [h4]; rfl) ?_
  have hP := fk_LWP.mpr hP
  have hD := fk_LWD.mpr hD
  refine lv_iload hx hb dL_law_849 (lv_at hl 1 rfl) ?_
  refine lv_icmp_eq (tgt := 856) hx hb dL_law_851 (by decide) (fun _ => ?_) (fun c => absurd rfl c)
  refine lv_iload hx hb dL_law_856 (lv_at hl 1 rfl) ?_
  refine lv_if_ne (tgt := 873) hx hb dL_law_858 (by decide) (fun _ => ?_) (fun ck => ?_)
  · refine lv_goto (tgt := 1818) hx hb dL_law_873 (by decide) ?_
    exact W.widen (k := 60 + (j + 1)) (n := 900 + 6 * (j + 1)) (by omega) (by omega) (hk _ _ H locs ls hI9 hP hD hS (lv_sub hl [2, 3, 4, 5, 6] rfl))
  · have hk0 : k = 0 := (nI_eq (a := k) (b := 0) (by omega) (by decide)).mp ck
    refine lv_aload_n hx hb dL_law_861 rfl (lv_at hl 6 rfl) ?_
    refine lv_iconst (v := 0) hx hb dL_law_862 (by decide) ?_
    refine va_lald hx hb hK hP 27 2 fk_at27 rfl fk_v01 dL_law_863 ?_
    refine W.eq (g2 := F0 m 864 ls [.long r.toInt64]) (by rw [← hf hk0]; rfl) ?_
    refine lv_iload hx hb dL_law_864 (lv_at hl 0 rfl) ?_
    refine lv_i2l hx hb dL_law_866 rfl ?_
    refine W.lcmp hx hb dL_law_867 ?_
    refine lv_if_eq (tgt := 873) hx hb dL_law_868 (by decide) (fun _ => ?_) (fun c => absurd (fk_lcmp_self _) c)
    refine lv_goto (tgt := 1818) hx hb dL_law_873 (by decide) ?_
    exact W.widen (k := 60 + (j + 1)) (n := 900 + 6 * (j + 1)) (by omega) (by omega) (hk _ _ H locs ls hI9 hP hD hS (lv_sub hl [2, 3, 4, 5, 6] rfl))

set_option maxHeartbeats 4000000 in
set_option maxRecDepth 100000 in
theorem law_c8 {p : Program} {l : Launch} {e : Env} {s : State} {m : MethodId} {below : List Frame} {meth : Method} {c : Code} {D : va_G} {ad bd : Nat → Nat} {cI cT cJ : ClassId} {b o L : Nat} {xs : Nat → Int32} {j : Nat} (hst : l.stackTraces = false) (C0 : lw_At p s m meth c b L xs) (hK : va_K D vwCl (fk_ty cI cT cJ) s) (hZ : fk_Zs (lw_A s) s s.heap) (hN : fk_Nc s) (hL : L ≤ 3584) (hj : 7 * j + 7 ≤ L) (hk : lw_Go p l e s m below meth c D ad bd cI cT cJ b o (j + 1) j 1818) : lw_Go p l e s m below meth c D ad bd cI cT cJ b o j j 876 := by
  obtain ⟨hx, hb, hr, hml, hown, hts0, hX, hbl, hlocks, hgv⟩ := C0
  have hts : ∀ w ∈ wsL_law, w.before #[Value.ref b] s = true := fun w h => hts0 w (wsL_law_in w h)
  have hA : ∀ q : Nat, s.heap.size ≤ q → lw_A s q := fun _ h => h
  have hbA : ¬ lw_A s b := Nat.not_le.mpr hbl
  intro M f H locs ls hI hP hD hS hl
  obtain ⟨k, M', f', r, hk3, h4, hI9, hf, hL9, hM9⟩ := op_unlock (l := l) (D := D) (ad := ad) (bd := bd) (cI := cI) (cT := cT) (cJ := cJ) (o := o) (f := f) hI (by omega) (by omega) hst (xs (7 * j + 1)) (xs (7 * j + 2))
  have hI9 : fk_I (8 * (j + 1)) (1000 * (j + 1)) M' := hI9.wk (by omega) (by omega)
  refine lv_aload_n hx hb dL_law_876 rfl (lv_at hl 2 rfl) ?_
  refine lv_aload_n hx hb dL_law_877 rfl (lv_at hl 1 rfl) ?_
  refine lv_iload hx hb dL_law_878 (lv_at hl 0 rfl) ?_
  refine lv_iconst (v := 1) hx hb dL_law_880 (by decide) ?_
  refine lv_iadd hx hb dL_law_881 ?_
  refine W.eq (g2 := F0 m 882 ls [.int (nI (7 * j + 1)), .ref b, .ref (ad 0)]) (by rw [show (1 : Int32) = nI 1 from rfl, nI_add]) ?_
  refine va_sld hx hb hX hbl hbA hS (vp_in_nI (show 7 * j + 1 < L by omega) (by omega)) dL_law_882 ?_
  refine W.eq (g2 := F0 m 883 ls [.int (xs (7 * j + 1)), .ref (ad 0)]) (by rw [nI_clamp (n := 7 * j + 1) (by omega)]) ?_
  refine lv_aload_n hx hb dL_law_883 rfl (lv_at hl 1 rfl) ?_
  refine lv_iload hx hb dL_law_884 (lv_at hl 0 rfl) ?_
  refine lv_iconst (v := 2) hx hb dL_law_886 (by decide) ?_
  refine lv_iadd hx hb dL_law_887 ?_
  refine W.eq (g2 := F0 m 888 ls [.int (nI (7 * j + 2)), .ref b, .int (xs (7 * j + 1)), .ref (ad 0)]) (by rw [show (2 : Int32) = nI 2 from rfl, nI_add]) ?_
  refine va_sld hx hb hX hbl hbA hS (vp_in_nI (show 7 * j + 2 < L by omega) (by omega)) dL_law_888 ?_
  refine W.eq (g2 := F0 m 889 ls [.int (xs (7 * j + 2)), .int (xs (7 * j + 1)), .ref (ad 0)]) (by rw [nI_clamp (n := 7 * j + 2) (by omega)]) ?_
  refine lv_aload_n hx hb dL_law_889 rfl (lv_at hl 4 rfl) ?_
  refine fk_lcallS (As := [.ref (ad 0), .int (xs (7 * j + 1)), .int (xs (7 * j + 2)), .ref o]) (rest := []) ⟨hx, hb, hml, hown, hts⟩ (hL9 (fk_mW bd cI M)) (vx_cwSW 4 hts gL_law_L_unlock rfl rfl rfl (by decide +kernel) ⟨Nat.le_of_ble_eq_true rfl, Nat.le_of_ble_eq_true rfl⟩) hK hP hD hS hA hZ hN rfl hl.1 rfl (Nat.le_of_ble_eq_true rfl) dL_law_890 ⟨by show 60 + j + 1 ≤ 653130; omega, by show 900 + 6 * j + 6 ≤ 7136714; omega⟩ (fun H locs hP hD hS => ?_)
  refine W.eq (g2 := F0 m 893 ls [.int (nI k)]) rfl ?_
  have hP := fk_LWP.mp (show va_P D vwCl (fk_LW ad bd cI cT cJ (fk_kOf M') M o f') H from hP)
  have hD := fk_LWD.mp (show va_D (lw_A s) (fk_LW ad bd cI cT cJ (fk_kOf M') M o f') from hD)
  refine lv_istore (lv' := [(5, .int (nI k)), (4, .int (nI (7 * j))), (0, .ref b), (1, .ref (ad 0)), (2, .ref (bd 0)), (3, .ref o)]) hx hb dL_law_893 hl (by decide) rfl (fun ls hl => ?_)
  refine lv_aload_n hx hb dL_law_895 rfl (lv_at hl 4 rfl) ?_
  refine lv_aload_n hx hb dL_law_896 rfl (lv_at hl 2 rfl) ?_
  refine lv_iload hx hb dL_law_897 (lv_at hl 1 rfl) ?_
  refine lv_iconst (v := 1) hx hb dL_law_899 (by decide) ?_
  refine lv_iadd hx hb dL_law_900 ?_
  refine W.eq (g2 := F0 m 901 ls [.int (nI (7 * j + 1)), .ref b, .ref (bd 0)]) (by rw [show (1 : Int32) = nI 1 from rfl, nI_add]) ?_
  refine va_sld hx hb hX hbl hbA hS (vp_in_nI (show 7 * j + 1 < L by omega) (by omega)) dL_law_901 ?_
  refine W.eq (g2 := F0 m 902 ls [.int (xs (7 * j + 1)), .ref (bd 0)]) (by rw [nI_clamp (n := 7 * j + 1) (by omega)]) ?_
  refine lv_aload_n hx hb dL_law_902 rfl (lv_at hl 2 rfl) ?_
  refine lv_iload hx hb dL_law_903 (lv_at hl 1 rfl) ?_
  refine lv_iconst (v := 2) hx hb dL_law_905 (by decide) ?_
  refine lv_iadd hx hb dL_law_906 ?_
  refine W.eq (g2 := F0 m 907 ls [.int (nI (7 * j + 2)), .ref b, .int (xs (7 * j + 1)), .ref (bd 0)]) (by rw [show (2 : Int32) = nI 2 from rfl, nI_add]) ?_
  refine va_sld hx hb hX hbl hbA hS (vp_in_nI (show 7 * j + 2 < L by omega) (by omega)) dL_law_907 ?_
  refine W.eq (g2 := F0 m 908 ls [.int (xs (7 * j + 2)), .int (xs (7 * j + 1)), .ref (bd 0)]) (by rw [nI_clamp (n := 7 * j + 2) (by omega)]) ?_
  refine fk_callV (As := [.int (xs (7 * j + 1)), .int (xs (7 * j + 2))]) (rest := []) ⟨hx, hb, hml, hown, hts⟩ (hM9 _) (cwV 2 hts gL_law_X3_unlock rfl rfl rfl (by decide +kernel) ⟨Nat.le_of_ble_eq_true rfl, Nat.le_of_ble_eq_true rfl⟩) (fk_rvM hK hP) hK hP hD hS hA rfl hl.1 rfl (Nat.le_of_ble_eq_true rfl) dL_law_908 ⟨by show 60 + j + 1 ≤ 653130; omega, by show 900 + 6 * j + 6 ≤ 7136714; omega⟩ (fun H locs hP hD hS => ?_)
  refine W.eq (g2 := F0 m 911 ls [.int r]) rfl ?_
  refine lv_istore (lv' := [(6, .int r), (5, .int (nI k)), (4, .int (nI (7 * j))), (0, .ref b), (1, .ref (ad 0)), (2, .ref (bd 0)), (3, .ref o)]) hx hb dL_law_911 hl (by decide) rfl (fun ls hl => ?_)
  refine lv_aload_n hx hb dL_law_913 rfl (lv_at hl 5 rfl) ?_
  refine fk_callV (As := []) (rest := []) ⟨hx, hb, hml, hown, hts⟩ (mc_thrown l D bd cI cT cJ _ M') (cwV 0 hts gL_law_X3_thrown rfl rfl rfl (by decide +kernel) ⟨Nat.le_of_ble_eq_true rfl, Nat.le_of_ble_eq_true rfl⟩) (fk_rvM hK hP) hK hP hD hS hA rfl hl.1 rfl (Nat.le_of_ble_eq_true rfl) dL_law_914 ⟨by show 60 + j + 1 ≤ 653130; omega, by show 900 + 6 * j + 6 ≤ 7136714; omega⟩ (fun H locs hP hD hS => ?_)
  refine W.eq (g2 := F0 m 917 ls [.int (nI k)]) (by rw [h4]; rfl) ?_
  have hP := fk_LWP.mpr hP
  have hD := fk_LWD.mpr hD
  refine lv_iload hx hb dL_law_917 (lv_at hl 1 rfl) ?_
  refine lv_icmp_eq (tgt := 924) hx hb dL_law_919 (by decide) (fun _ => ?_) (fun c => absurd rfl c)
  refine lv_iload hx hb dL_law_924 (lv_at hl 1 rfl) ?_
  refine lv_if_ne (tgt := 941) hx hb dL_law_926 (by decide) (fun _ => ?_) (fun ck => ?_)
  · refine lv_goto (tgt := 1818) hx hb dL_law_941 (by decide) ?_
    exact W.widen (k := 60 + (j + 1)) (n := 900 + 6 * (j + 1)) (by omega) (by omega) (hk _ _ H locs ls hI9 hP hD hS (lv_sub hl [2, 3, 4, 5, 6] rfl))
  · have hk0 : k = 0 := (nI_eq (a := k) (b := 0) (by omega) (by decide)).mp ck
    refine lv_aload_n hx hb dL_law_929 rfl (lv_at hl 6 rfl) ?_
    refine lv_iconst (v := 0) hx hb dL_law_930 (by decide) ?_
    refine va_lald hx hb hK hP 27 2 fk_at27 rfl fk_v01 dL_law_931 ?_
    refine W.eq (g2 := F0 m 932 ls [.long r.toInt64]) (by rw [← hf hk0]; rfl) ?_
    refine lv_iload hx hb dL_law_932 (lv_at hl 0 rfl) ?_
    refine lv_i2l hx hb dL_law_934 rfl ?_
    refine W.lcmp hx hb dL_law_935 ?_
    refine lv_if_eq (tgt := 941) hx hb dL_law_936 (by decide) (fun _ => ?_) (fun c => absurd (fk_lcmp_self _) c)
    refine lv_goto (tgt := 1818) hx hb dL_law_941 (by decide) ?_
    exact W.widen (k := 60 + (j + 1)) (n := 900 + 6 * (j + 1)) (by omega) (by omega) (hk _ _ H locs ls hI9 hP hD hS (lv_sub hl [2, 3, 4, 5, 6] rfl))
