set_option maxHeartbeats 4000000 in
set_option maxRecDepth 100000 in
theorem kx_requeue_1 (l : Launch) (D : va_G) (ad : Nat → Nat) (cI cT cJ : ClassId) (X : va_W) (S : fk_S) (hst : l.stackTraces = false) (th av x wk bv mv : Int32) (h : fk_isT th = false) : fk_X l D (fk_ty cI cT cJ) yX2_requeue wsX2_requeue rx_pub [.ref (ad 0), .int th, .int av, .int x, .int wk, .int bv, .int mv] (fk_kW ad cI cT S ++ X) "java/lang/IndexOutOfBoundsException" := by
  refine fk_X_of (cc := cX2_requeue) (maxL := 9) (ret := (some .int)) (own := RX2) (by decide) rfl rfl (Nat.le_of_ble_eq_true rfl) ?_
  intro p e s m below meth c A ls hx hb hout hlocks hml hts hown hA hP hK hD hZ hl
  have hS : va_S A s.heap s.heap [] := va_S.rf
  have hl : lv_has ls 9 [(0, .ref (ad 0)), (1, .int th), (2, .int av), (3, .int x), (4, .int wk), (5, .int bv), (6, .int mv)] := hl
  refine lv_aload_n hx hb dX2_requeue_0 rfl (lv_at hl 0 rfl) ?_
  refine lv_iload_n hx hb dX2_requeue_1 rfl (lv_at hl 1 rfl) ?_
  exact fk_xcallV (As := [.int th]) (rest := []) ⟨hx, hb, hml, hown, hts⟩ (kx_taskOf l D ad cI cT cJ X S hst th h) (cwV 1 hts gX2_requeue_X2_taskOf rfl rfl rfl (by decide +kernel) ⟨Nat.le_of_ble_eq_true rfl, Nat.le_of_ble_eq_true rfl⟩) (fk_rvK hK hP) hK hP hD hS hA hZ rfl hl.1 rfl (Nat.le_of_ble_eq_true rfl) dX2_requeue_2 ⟨Nat.le_of_ble_eq_true rfl, Nat.le_of_ble_eq_true rfl⟩ (fk_thru hout hlocks hK hD)

set_option maxHeartbeats 4000000 in
set_option maxRecDepth 100000 in
theorem kx_requeue_2 (l : Launch) (D : va_G) (ad : Nat → Nat) (cI cT cJ : ClassId) (X : va_W) (S : fk_S) (hst : l.stackTraces = false) (t : Nat) (ht : t < 8) (av x wk bv mv : Int32) (h : fk_isA av = false) : fk_X l D (fk_ty cI cT cJ) yX2_requeue wsX2_requeue rx_pub [.ref (ad 0), .int (nI t), .int av, .int x, .int wk, .int bv, .int mv] (fk_kW ad cI cT S ++ X) "java/lang/IndexOutOfBoundsException" := by
  refine fk_X_of (cc := cX2_requeue) (maxL := 9) (ret := (some .int)) (own := RX2) (by decide) rfl rfl (Nat.le_of_ble_eq_true rfl) ?_
  intro p e s m below meth c A ls hx hb hout hlocks hml hts hown hA hP hK hD hZ hl
  have hS : va_S A s.heap s.heap [] := va_S.rf
  have hl : lv_has ls 9 [(0, .ref (ad 0)), (1, .int (nI t)), (2, .int av), (3, .int x), (4, .int wk), (5, .int bv), (6, .int mv)] := hl
  refine lv_aload_n hx hb dX2_requeue_0 rfl (lv_at hl 0 rfl) ?_
  refine lv_iload_n hx hb dX2_requeue_1 rfl (lv_at hl 1 rfl) ?_
  refine fk_callV (As := [.int (nI t)]) (rest := []) ⟨hx, hb, hml, hown, hts⟩ (kc_taskOf l D ad cI cT cJ X S t ht) (cwV 1 hts gX2_requeue_X2_taskOf rfl rfl rfl (by decide +kernel) ⟨Nat.le_of_ble_eq_true rfl, Nat.le_of_ble_eq_true rfl⟩) (fk_rvK hK hP) hK hP hD hS hA rfl hl.1 rfl (Nat.le_of_ble_eq_true rfl) dX2_requeue_2 ⟨Nat.le_of_ble_eq_true rfl, Nat.le_of_ble_eq_true rfl⟩ (fun H locs hP hD hS => ?_)
  refine W.eq (g2 := F0 m 5 ls [.ref (ad (3 + t))]) rfl ?_
  refine lv_astore (lv' := [(7, .ref (ad (3 + t))), (0, .ref (ad 0)), (1, .int (nI t)), (2, .int av), (3, .int x), (4, .int wk), (5, .int bv), (6, .int mv)]) hx hb dX2_requeue_5 hl (by decide) rfl (fun ls hl => ?_)
  refine lv_iload_n hx hb dX2_requeue_7 rfl (lv_at hl 3 rfl) ?_
  exact fk_xcallS (As := [.int av]) (rest := []) ⟨hx, hb, hml, hown, hts⟩ (kx_requireAddress l D ad cI cT cJ X S hst av h) (va_cwS 1 hts gX2_requeue_X2_requireAddress rfl rfl rfl (by decide +kernel) ⟨Nat.le_of_ble_eq_true rfl, Nat.le_of_ble_eq_true rfl⟩) hK hP hD hS hA hZ rfl hl.1 rfl (Nat.le_of_ble_eq_true rfl) dX2_requeue_8 ⟨Nat.le_of_ble_eq_true rfl, Nat.le_of_ble_eq_true rfl⟩ (fk_thru hout hlocks hK hD)

set_option maxHeartbeats 4000000 in
set_option maxRecDepth 100000 in
theorem kx_requeue_3 (l : Launch) (D : va_G) (ad : Nat → Nat) (cI cT cJ : ClassId) (X : va_W) (S : fk_S) (hst : l.stackTraces = false) (t : Nat) (ht : t < 8) (a : Nat) (ha : a < 16) (x wk bv mv : Int32) (h : fk_isA bv = false) : fk_X l D (fk_ty cI cT cJ) yX2_requeue wsX2_requeue rx_pub [.ref (ad 0), .int (nI t), .int (nI a), .int x, .int wk, .int bv, .int mv] (fk_kW ad cI cT S ++ X) "java/lang/IndexOutOfBoundsException" := by
  refine fk_X_of (cc := cX2_requeue) (maxL := 9) (ret := (some .int)) (own := RX2) (by decide) rfl rfl (Nat.le_of_ble_eq_true rfl) ?_
  intro p e s m below meth c A ls hx hb hout hlocks hml hts hown hA hP hK hD hZ hl
  have hS : va_S A s.heap s.heap [] := va_S.rf
  have hl : lv_has ls 9 [(0, .ref (ad 0)), (1, .int (nI t)), (2, .int (nI a)), (3, .int x), (4, .int wk), (5, .int bv), (6, .int mv)] := hl
  refine lv_aload_n hx hb dX2_requeue_0 rfl (lv_at hl 0 rfl) ?_
  refine lv_iload_n hx hb dX2_requeue_1 rfl (lv_at hl 1 rfl) ?_
  refine fk_callV (As := [.int (nI t)]) (rest := []) ⟨hx, hb, hml, hown, hts⟩ (kc_taskOf l D ad cI cT cJ X S t ht) (cwV 1 hts gX2_requeue_X2_taskOf rfl rfl rfl (by decide +kernel) ⟨Nat.le_of_ble_eq_true rfl, Nat.le_of_ble_eq_true rfl⟩) (fk_rvK hK hP) hK hP hD hS hA rfl hl.1 rfl (Nat.le_of_ble_eq_true rfl) dX2_requeue_2 ⟨Nat.le_of_ble_eq_true rfl, Nat.le_of_ble_eq_true rfl⟩ (fun H locs hP hD hS => ?_)
  refine W.eq (g2 := F0 m 5 ls [.ref (ad (3 + t))]) rfl ?_
  refine lv_astore (lv' := [(7, .ref (ad (3 + t))), (0, .ref (ad 0)), (1, .int (nI t)), (2, .int (nI a)), (3, .int x), (4, .int wk), (5, .int bv), (6, .int mv)]) hx hb dX2_requeue_5 hl (by decide) rfl (fun ls hl => ?_)
  refine lv_iload_n hx hb dX2_requeue_7 rfl (lv_at hl 3 rfl) ?_
  refine fk_callS (As := [.int (nI a)]) (rest := []) ⟨hx, hb, hml, hown, hts⟩ (kc_requireAddress l D ad cI cT cJ X S a (by omega)) (va_cwS 1 hts gX2_requeue_X2_requireAddress rfl rfl rfl (by decide +kernel) ⟨Nat.le_of_ble_eq_true rfl, Nat.le_of_ble_eq_true rfl⟩) hK hP hD hS hA rfl hl.1 rfl (Nat.le_of_ble_eq_true rfl) dX2_requeue_8 ⟨Nat.le_of_ble_eq_true rfl, Nat.le_of_ble_eq_true rfl⟩ (fun H locs hP hD hS => ?_)
  refine W.eq (g2 := F0 m 11 ls []) rfl ?_
  refine lv_iload hx hb dX2_requeue_11 (lv_at hl 6 rfl) ?_
  exact fk_xcallS (As := [.int bv]) (rest := []) ⟨hx, hb, hml, hown, hts⟩ (kx_requireAddress l D ad cI cT cJ X S hst bv h) (va_cwS 1 hts gX2_requeue_X2_requireAddress rfl rfl rfl (by decide +kernel) ⟨Nat.le_of_ble_eq_true rfl, Nat.le_of_ble_eq_true rfl⟩) hK hP hD hS hA hZ rfl hl.1 rfl (Nat.le_of_ble_eq_true rfl) dX2_requeue_13 ⟨Nat.le_of_ble_eq_true rfl, Nat.le_of_ble_eq_true rfl⟩ (fk_thru hout hlocks hK hD)

set_option maxHeartbeats 4000000 in
set_option maxRecDepth 100000 in
theorem kx_requeue_4 (l : Launch) (D : va_G) (ad : Nat → Nat) (cI cT cJ : ClassId) (X : va_W) (S : fk_S) (hst : l.stackTraces = false) (t : Nat) (ht : t < 8) (a : Nat) (ha : a < 16) (x wk mv : Int32) : fk_X l D (fk_ty cI cT cJ) yX2_requeue wsX2_requeue rx_pub [.ref (ad 0), .int (nI t), .int (nI a), .int x, .int wk, .int (nI a), .int mv] (fk_kW ad cI cT S ++ X) "java/lang/IllegalArgumentException" := by
  refine fk_X_of (cc := cX2_requeue) (maxL := 9) (ret := (some .int)) (own := RX2) (by decide) rfl rfl (Nat.le_of_ble_eq_true rfl) ?_
  intro p e s m below meth c A ls hx hb hout hlocks hml hts hown hA hP hK hD hZ hl
  have hS : va_S A s.heap s.heap [] := va_S.rf
  have hl : lv_has ls 9 [(0, .ref (ad 0)), (1, .int (nI t)), (2, .int (nI a)), (3, .int x), (4, .int wk), (5, .int (nI a)), (6, .int mv)] := hl
  refine lv_aload_n hx hb dX2_requeue_0 rfl (lv_at hl 0 rfl) ?_
  refine lv_iload_n hx hb dX2_requeue_1 rfl (lv_at hl 1 rfl) ?_
  refine fk_callV (As := [.int (nI t)]) (rest := []) ⟨hx, hb, hml, hown, hts⟩ (kc_taskOf l D ad cI cT cJ X S t ht) (cwV 1 hts gX2_requeue_X2_taskOf rfl rfl rfl (by decide +kernel) ⟨Nat.le_of_ble_eq_true rfl, Nat.le_of_ble_eq_true rfl⟩) (fk_rvK hK hP) hK hP hD hS hA rfl hl.1 rfl (Nat.le_of_ble_eq_true rfl) dX2_requeue_2 ⟨Nat.le_of_ble_eq_true rfl, Nat.le_of_ble_eq_true rfl⟩ (fun H locs hP hD hS => ?_)
  refine W.eq (g2 := F0 m 5 ls [.ref (ad (3 + t))]) rfl ?_
  refine lv_astore (lv' := [(7, .ref (ad (3 + t))), (0, .ref (ad 0)), (1, .int (nI t)), (2, .int (nI a)), (3, .int x), (4, .int wk), (5, .int (nI a)), (6, .int mv)]) hx hb dX2_requeue_5 hl (by decide) rfl (fun ls hl => ?_)
  refine lv_iload_n hx hb dX2_requeue_7 rfl (lv_at hl 3 rfl) ?_
  refine fk_callS (As := [.int (nI a)]) (rest := []) ⟨hx, hb, hml, hown, hts⟩ (kc_requireAddress l D ad cI cT cJ X S a (by omega)) (va_cwS 1 hts gX2_requeue_X2_requireAddress rfl rfl rfl (by decide +kernel) ⟨Nat.le_of_ble_eq_true rfl, Nat.le_of_ble_eq_true rfl⟩) hK hP hD hS hA rfl hl.1 rfl (Nat.le_of_ble_eq_true rfl) dX2_requeue_8 ⟨Nat.le_of_ble_eq_true rfl, Nat.le_of_ble_eq_true rfl⟩ (fun H locs hP hD hS => ?_)
  refine W.eq (g2 := F0 m 11 ls []) rfl ?_
  refine lv_iload hx hb dX2_requeue_11 (lv_at hl 6 rfl) ?_
  refine fk_callS (As := [.int (nI a)]) (rest := []) ⟨hx, hb, hml, hown, hts⟩ (kc_requireAddress l D ad cI cT cJ X S a (by omega)) (va_cwS 1 hts gX2_requeue_X2_requireAddress rfl rfl rfl (by decide +kernel) ⟨Nat.le_of_ble_eq_true rfl, Nat.le_of_ble_eq_true rfl⟩) hK hP hD hS hA rfl hl.1 rfl (Nat.le_of_ble_eq_true rfl) dX2_requeue_13 ⟨Nat.le_of_ble_eq_true rfl, Nat.le_of_ble_eq_true rfl⟩ (fun H locs hP hD hS => ?_)
  refine W.eq (g2 := F0 m 16 ls []) rfl ?_
  refine lv_iload_n hx hb dX2_requeue_16 rfl (lv_at hl 3 rfl) ?_
  refine lv_iload hx hb dX2_requeue_17 (lv_at hl 6 rfl) ?_
  refine lv_icmp_ne (tgt := 32) hx hb dX2_requeue_19 (by decide) (fun c => absurd rfl c) (fun c_1 => ?_)
  exact fk_throw (cls := "java/lang/IllegalArgumentException") (text := "from and to are the same") (ik := 58) (is := 60) (ic := 62) (rest := []) hx hb hst hown (by decide +kernel) (hts _ (List.mem_of_getElem? (i := 1) rfl)) (hts _ (List.mem_of_getElem? (i := 2) rfl)) (by decide +kernel) (vx_hat (fun w h => hts w (List.mem_cons_of_mem _ (List.mem_append_left _ (List.mem_append_left _ (List.mem_append_right _ h))))) fk_b62 (fun w h => va_Nw.use (fk_dc_on (fk_bad_dc w h)) (hZ.2.2.2 w h))) fk_b62g hZ hK hP hD hS (hl.1.trans hml.symm) hout hlocks dX2_requeue_22 dX2_requeue_25 dX2_requeue_26 dX2_requeue_28 dX2_requeue_31 ⟨Nat.le_of_ble_eq_true rfl, Nat.le_of_ble_eq_true rfl, Nat.le_of_ble_eq_true rfl, Nat.le_of_ble_eq_true rfl⟩

set_option maxHeartbeats 4000000 in
set_option maxRecDepth 100000 in
theorem kx_requeue_5 (l : Launch) (D : va_G) (ad : Nat → Nat) (cI cT cJ : ClassId) (X : va_W) (S : fk_S) (hst : l.stackTraces = false) (t : Nat) (ht : t < 8) (a : Nat) (ha : a < 16) (b : Nat) (hb9 : b < 16) (hab : ¬ a = b) (x wk mv : Int32) (h : fk_btw wk 0 8 = false) : fk_X l D (fk_ty cI cT cJ) yX2_requeue wsX2_requeue rx_pub [.ref (ad 0), .int (nI t), .int (nI a), .int x, .int wk, .int (nI b), .int mv] (fk_kW ad cI cT S ++ X) "java/lang/IllegalArgumentException" := by
  refine fk_X_of (cc := cX2_requeue) (maxL := 9) (ret := (some .int)) (own := RX2) (by decide) rfl rfl (Nat.le_of_ble_eq_true rfl) ?_
  intro p e s m below meth c A ls hx hb hout hlocks hml hts hown hA hP hK hD hZ hl
  have hS : va_S A s.heap s.heap [] := va_S.rf
  have hl : lv_has ls 9 [(0, .ref (ad 0)), (1, .int (nI t)), (2, .int (nI a)), (3, .int x), (4, .int wk), (5, .int (nI b)), (6, .int mv)] := hl
  refine lv_aload_n hx hb dX2_requeue_0 rfl (lv_at hl 0 rfl) ?_
  refine lv_iload_n hx hb dX2_requeue_1 rfl (lv_at hl 1 rfl) ?_
  refine fk_callV (As := [.int (nI t)]) (rest := []) ⟨hx, hb, hml, hown, hts⟩ (kc_taskOf l D ad cI cT cJ X S t ht) (cwV 1 hts gX2_requeue_X2_taskOf rfl rfl rfl (by decide +kernel) ⟨Nat.le_of_ble_eq_true rfl, Nat.le_of_ble_eq_true rfl⟩) (fk_rvK hK hP) hK hP hD hS hA rfl hl.1 rfl (Nat.le_of_ble_eq_true rfl) dX2_requeue_2 ⟨Nat.le_of_ble_eq_true rfl, Nat.le_of_ble_eq_true rfl⟩ (fun H locs hP hD hS => ?_)
  refine W.eq (g2 := F0 m 5 ls [.ref (ad (3 + t))]) rfl ?_
  refine lv_astore (lv' := [(7, .ref (ad (3 + t))), (0, .ref (ad 0)), (1, .int (nI t)), (2, .int (nI a)), (3, .int x), (4, .int wk), (5, .int (nI b)), (6, .int mv)]) hx hb dX2_requeue_5 hl (by decide) rfl (fun ls hl => ?_)
  refine lv_iload_n hx hb dX2_requeue_7 rfl (lv_at hl 3 rfl) ?_
  refine fk_callS (As := [.int (nI a)]) (rest := []) ⟨hx, hb, hml, hown, hts⟩ (kc_requireAddress l D ad cI cT cJ X S a (by omega)) (va_cwS 1 hts gX2_requeue_X2_requireAddress rfl rfl rfl (by decide +kernel) ⟨Nat.le_of_ble_eq_true rfl, Nat.le_of_ble_eq_true rfl⟩) hK hP hD hS hA rfl hl.1 rfl (Nat.le_of_ble_eq_true rfl) dX2_requeue_8 ⟨Nat.le_of_ble_eq_true rfl, Nat.le_of_ble_eq_true rfl⟩ (fun H locs hP hD hS => ?_)
  refine W.eq (g2 := F0 m 11 ls []) rfl ?_
  refine lv_iload hx hb dX2_requeue_11 (lv_at hl 6 rfl) ?_
  refine fk_callS (As := [.int (nI b)]) (rest := []) ⟨hx, hb, hml, hown, hts⟩ (kc_requireAddress l D ad cI cT cJ X S b (by omega)) (va_cwS 1 hts gX2_requeue_X2_requireAddress rfl rfl rfl (by decide +kernel) ⟨Nat.le_of_ble_eq_true rfl, Nat.le_of_ble_eq_true rfl⟩) hK hP hD hS hA rfl hl.1 rfl (Nat.le_of_ble_eq_true rfl) dX2_requeue_13 ⟨Nat.le_of_ble_eq_true rfl, Nat.le_of_ble_eq_true rfl⟩ (fun H locs hP hD hS => ?_)
  refine W.eq (g2 := F0 m 16 ls []) rfl ?_
  refine lv_iload_n hx hb dX2_requeue_16 rfl (lv_at hl 3 rfl) ?_
  refine lv_iload hx hb dX2_requeue_17 (lv_at hl 6 rfl) ?_
  refine lv_icmp_ne (tgt := 32) hx hb dX2_requeue_19 (by decide) (fun c_1 => ?_) (fun c => absurd ((nI_eq (by omega) (by omega)).mp c) hab)
  refine lv_iload hx hb dX2_requeue_32 (lv_at hl 5 rfl) ?_
  refine lv_iconst (v := 0) hx hb dX2_requeue_34 (by decide) ?_
  refine lv_bipush (v := 8) hx hb dX2_requeue_35 (by decide) ?_
  exact fk_xcallS (As := [.int wk, .int 0, .int 8]) (rest := []) ⟨hx, hb, hml, hown, hts⟩ (kx_requireBetween l D ad cI cT cJ X S hst wk 0 8 h) (va_cwS 3 hts gX2_requeue_X2_requireBetween rfl rfl rfl (by decide +kernel) ⟨Nat.le_of_ble_eq_true rfl, Nat.le_of_ble_eq_true rfl⟩) hK hP hD hS hA hZ rfl hl.1 rfl (Nat.le_of_ble_eq_true rfl) dX2_requeue_37 ⟨Nat.le_of_ble_eq_true rfl, Nat.le_of_ble_eq_true rfl⟩ (fk_thru hout hlocks hK hD)

set_option maxHeartbeats 4000000 in
set_option maxRecDepth 100000 in
theorem kx_requeue_6 (l : Launch) (D : va_G) (ad : Nat → Nat) (cI cT cJ : ClassId) (X : va_W) (S : fk_S) (hst : l.stackTraces = false) (t : Nat) (ht : t < 8) (a : Nat) (ha : a < 16) (b : Nat) (hb9 : b < 16) (hab : ¬ a = b) (x wk mv : Int32) (hm0 : fk_btw wk 0 8 = true) (h : fk_btw mv 0 8 = false) : fk_X l D (fk_ty cI cT cJ) yX2_requeue wsX2_requeue rx_pub [.ref (ad 0), .int (nI t), .int (nI a), .int x, .int wk, .int (nI b), .int mv] (fk_kW ad cI cT S ++ X) "java/lang/IllegalArgumentException" := by
  refine fk_X_of (cc := cX2_requeue) (maxL := 9) (ret := (some .int)) (own := RX2) (by decide) rfl rfl (Nat.le_of_ble_eq_true rfl) ?_
  intro p e s m below meth c A ls hx hb hout hlocks hml hts hown hA hP hK hD hZ hl
  have hS : va_S A s.heap s.heap [] := va_S.rf
  have hl : lv_has ls 9 [(0, .ref (ad 0)), (1, .int (nI t)), (2, .int (nI a)), (3, .int x), (4, .int wk), (5, .int (nI b)), (6, .int mv)] := hl
  refine lv_aload_n hx hb dX2_requeue_0 rfl (lv_at hl 0 rfl) ?_
  refine lv_iload_n hx hb dX2_requeue_1 rfl (lv_at hl 1 rfl) ?_
  refine fk_callV (As := [.int (nI t)]) (rest := []) ⟨hx, hb, hml, hown, hts⟩ (kc_taskOf l D ad cI cT cJ X S t ht) (cwV 1 hts gX2_requeue_X2_taskOf rfl rfl rfl (by decide +kernel) ⟨Nat.le_of_ble_eq_true rfl, Nat.le_of_ble_eq_true rfl⟩) (fk_rvK hK hP) hK hP hD hS hA rfl hl.1 rfl (Nat.le_of_ble_eq_true rfl) dX2_requeue_2 ⟨Nat.le_of_ble_eq_true rfl, Nat.le_of_ble_eq_true rfl⟩ (fun H locs hP hD hS => ?_)
  refine W.eq (g2 := F0 m 5 ls [.ref (ad (3 + t))]) rfl ?_
  refine lv_astore (lv' := [(7, .ref (ad (3 + t))), (0, .ref (ad 0)), (1, .int (nI t)), (2, .int (nI a)), (3, .int x), (4, .int wk), (5, .int (nI b)), (6, .int mv)]) hx hb dX2_requeue_5 hl (by decide) rfl (fun ls hl => ?_)
  refine lv_iload_n hx hb dX2_requeue_7 rfl (lv_at hl 3 rfl) ?_
  refine fk_callS (As := [.int (nI a)]) (rest := []) ⟨hx, hb, hml, hown, hts⟩ (kc_requireAddress l D ad cI cT cJ X S a (by omega)) (va_cwS 1 hts gX2_requeue_X2_requireAddress rfl rfl rfl (by decide +kernel) ⟨Nat.le_of_ble_eq_true rfl, Nat.le_of_ble_eq_true rfl⟩) hK hP hD hS hA rfl hl.1 rfl (Nat.le_of_ble_eq_true rfl) dX2_requeue_8 ⟨Nat.le_of_ble_eq_true rfl, Nat.le_of_ble_eq_true rfl⟩ (fun H locs hP hD hS => ?_)
  refine W.eq (g2 := F0 m 11 ls []) rfl ?_
  refine lv_iload hx hb dX2_requeue_11 (lv_at hl 6 rfl) ?_
  refine fk_callS (As := [.int (nI b)]) (rest := []) ⟨hx, hb, hml, hown, hts⟩ (kc_requireAddress l D ad cI cT cJ X S b (by omega)) (va_cwS 1 hts gX2_requeue_X2_requireAddress rfl rfl rfl (by decide +kernel) ⟨Nat.le_of_ble_eq_true rfl, Nat.le_of_ble_eq_true rfl⟩) hK hP hD hS hA rfl hl.1 rfl (Nat.le_of_ble_eq_true rfl) dX2_requeue_13 ⟨Nat.le_of_ble_eq_true rfl, Nat.le_of_ble_eq_true rfl⟩ (fun H locs hP hD hS => ?_)
  refine W.eq (g2 := F0 m 16 ls []) rfl ?_
  refine lv_iload_n hx hb dX2_requeue_16 rfl (lv_at hl 3 rfl) ?_
  refine lv_iload hx hb dX2_requeue_17 (lv_at hl 6 rfl) ?_
  refine lv_icmp_ne (tgt := 32) hx hb dX2_requeue_19 (by decide) (fun c_1 => ?_) (fun c => absurd ((nI_eq (by omega) (by omega)).mp c) hab)
  refine lv_iload hx hb dX2_requeue_32 (lv_at hl 5 rfl) ?_
  refine lv_iconst (v := 0) hx hb dX2_requeue_34 (by decide) ?_
  refine lv_bipush (v := 8) hx hb dX2_requeue_35 (by decide) ?_
  refine fk_callS (As := [.int wk, .int 0, .int 8]) (rest := []) ⟨hx, hb, hml, hown, hts⟩ (kc_requireBetween l D ad cI cT cJ X S wk 0 8 hm0) (va_cwS 3 hts gX2_requeue_X2_requireBetween rfl rfl rfl (by decide +kernel) ⟨Nat.le_of_ble_eq_true rfl, Nat.le_of_ble_eq_true rfl⟩) hK hP hD hS hA rfl hl.1 rfl (Nat.le_of_ble_eq_true rfl) dX2_requeue_37 ⟨Nat.le_of_ble_eq_true rfl, Nat.le_of_ble_eq_true rfl⟩ (fun H locs hP hD hS => ?_)
  refine W.eq (g2 := F0 m 40 ls []) rfl ?_
  refine lv_iload hx hb dX2_requeue_40 (lv_at hl 7 rfl) ?_
  refine lv_iconst (v := 0) hx hb dX2_requeue_42 (by decide) ?_
  refine lv_bipush (v := 8) hx hb dX2_requeue_43 (by decide) ?_
  exact fk_xcallS (As := [.int mv, .int 0, .int 8]) (rest := []) ⟨hx, hb, hml, hown, hts⟩ (kx_requireBetween l D ad cI cT cJ X S hst mv 0 8 h) (va_cwS 3 hts gX2_requeue_X2_requireBetween rfl rfl rfl (by decide +kernel) ⟨Nat.le_of_ble_eq_true rfl, Nat.le_of_ble_eq_true rfl⟩) hK hP hD hS hA hZ rfl hl.1 rfl (Nat.le_of_ble_eq_true rfl) dX2_requeue_45 ⟨Nat.le_of_ble_eq_true rfl, Nat.le_of_ble_eq_true rfl⟩ (fk_thru hout hlocks hK hD)

set_option maxHeartbeats 4000000 in
set_option maxRecDepth 100000 in
theorem kx_requeue_7 (l : Launch) (D : va_G) (ad : Nat → Nat) (cI cT cJ : ClassId) (X : va_W) (S : fk_S) (hst : l.stackTraces = false) (t : Nat) (ht : t < 8) (a : Nat) (ha : a < 16) (b : Nat) (hb9 : b < 16) (hab : ¬ a = b) (x wk mv : Int32) (hm0 : fk_btw wk 0 8 = true) (hm1 : fk_btw mv 0 8 = true) (h : ¬ S 1 t = 0) : fk_X l D (fk_ty cI cT cJ) yX2_requeue wsX2_requeue rx_pub [.ref (ad 0), .int (nI t), .int (nI a), .int x, .int wk, .int (nI b), .int mv] (fk_kW ad cI cT S ++ X) "java/lang/IllegalStateException" := by
  refine fk_X_of (cc := cX2_requeue) (maxL := 9) (ret := (some .int)) (own := RX2) (by decide) rfl rfl (Nat.le_of_ble_eq_true rfl) ?_
  intro p e s m below meth c A ls hx hb hout hlocks hml hts hown hA hP hK hD hZ hl
  have hS : va_S A s.heap s.heap [] := va_S.rf
  have hl : lv_has ls 9 [(0, .ref (ad 0)), (1, .int (nI t)), (2, .int (nI a)), (3, .int x), (4, .int wk), (5, .int (nI b)), (6, .int mv)] := hl
  refine lv_aload_n hx hb dX2_requeue_0 rfl (lv_at hl 0 rfl) ?_
  refine lv_iload_n hx hb dX2_requeue_1 rfl (lv_at hl 1 rfl) ?_
  refine fk_callV (As := [.int (nI t)]) (rest := []) ⟨hx, hb, hml, hown, hts⟩ (kc_taskOf l D ad cI cT cJ X S t ht) (cwV 1 hts gX2_requeue_X2_taskOf rfl rfl rfl (by decide +kernel) ⟨Nat.le_of_ble_eq_true rfl, Nat.le_of_ble_eq_true rfl⟩) (fk_rvK hK hP) hK hP hD hS hA rfl hl.1 rfl (Nat.le_of_ble_eq_true rfl) dX2_requeue_2 ⟨Nat.le_of_ble_eq_true rfl, Nat.le_of_ble_eq_true rfl⟩ (fun H locs hP hD hS => ?_)
  refine W.eq (g2 := F0 m 5 ls [.ref (ad (3 + t))]) rfl ?_
  refine lv_astore (lv' := [(7, .ref (ad (3 + t))), (0, .ref (ad 0)), (1, .int (nI t)), (2, .int (nI a)), (3, .int x), (4, .int wk), (5, .int (nI b)), (6, .int mv)]) hx hb dX2_requeue_5 hl (by decide) rfl (fun ls hl => ?_)
  refine lv_iload_n hx hb dX2_requeue_7 rfl (lv_at hl 3 rfl) ?_
  refine fk_callS (As := [.int (nI a)]) (rest := []) ⟨hx, hb, hml, hown, hts⟩ (kc_requireAddress l D ad cI cT cJ X S a (by omega)) (va_cwS 1 hts gX2_requeue_X2_requireAddress rfl rfl rfl (by decide +kernel) ⟨Nat.le_of_ble_eq_true rfl, Nat.le_of_ble_eq_true rfl⟩) hK hP hD hS hA rfl hl.1 rfl (Nat.le_of_ble_eq_true rfl) dX2_requeue_8 ⟨Nat.le_of_ble_eq_true rfl, Nat.le_of_ble_eq_true rfl⟩ (fun H locs hP hD hS => ?_)
  refine W.eq (g2 := F0 m 11 ls []) rfl ?_
  refine lv_iload hx hb dX2_requeue_11 (lv_at hl 6 rfl) ?_
  refine fk_callS (As := [.int (nI b)]) (rest := []) ⟨hx, hb, hml, hown, hts⟩ (kc_requireAddress l D ad cI cT cJ X S b (by omega)) (va_cwS 1 hts gX2_requeue_X2_requireAddress rfl rfl rfl (by decide +kernel) ⟨Nat.le_of_ble_eq_true rfl, Nat.le_of_ble_eq_true rfl⟩) hK hP hD hS hA rfl hl.1 rfl (Nat.le_of_ble_eq_true rfl) dX2_requeue_13 ⟨Nat.le_of_ble_eq_true rfl, Nat.le_of_ble_eq_true rfl⟩ (fun H locs hP hD hS => ?_)
  refine W.eq (g2 := F0 m 16 ls []) rfl ?_
  refine lv_iload_n hx hb dX2_requeue_16 rfl (lv_at hl 3 rfl) ?_
  refine lv_iload hx hb dX2_requeue_17 (lv_at hl 6 rfl) ?_
  refine lv_icmp_ne (tgt := 32) hx hb dX2_requeue_19 (by decide) (fun c_1 => ?_) (fun c => absurd ((nI_eq (by omega) (by omega)).mp c) hab)
  refine lv_iload hx hb dX2_requeue_32 (lv_at hl 5 rfl) ?_
  refine lv_iconst (v := 0) hx hb dX2_requeue_34 (by decide) ?_
  refine lv_bipush (v := 8) hx hb dX2_requeue_35 (by decide) ?_
  refine fk_callS (As := [.int wk, .int 0, .int 8]) (rest := []) ⟨hx, hb, hml, hown, hts⟩ (kc_requireBetween l D ad cI cT cJ X S wk 0 8 hm0) (va_cwS 3 hts gX2_requeue_X2_requireBetween rfl rfl rfl (by decide +kernel) ⟨Nat.le_of_ble_eq_true rfl, Nat.le_of_ble_eq_true rfl⟩) hK hP hD hS hA rfl hl.1 rfl (Nat.le_of_ble_eq_true rfl) dX2_requeue_37 ⟨Nat.le_of_ble_eq_true rfl, Nat.le_of_ble_eq_true rfl⟩ (fun H locs hP hD hS => ?_)
  refine W.eq (g2 := F0 m 40 ls []) rfl ?_
  refine lv_iload hx hb dX2_requeue_40 (lv_at hl 7 rfl) ?_
  refine lv_iconst (v := 0) hx hb dX2_requeue_42 (by decide) ?_
  refine lv_bipush (v := 8) hx hb dX2_requeue_43 (by decide) ?_
  refine fk_callS (As := [.int mv, .int 0, .int 8]) (rest := []) ⟨hx, hb, hml, hown, hts⟩ (kc_requireBetween l D ad cI cT cJ X S mv 0 8 hm1) (va_cwS 3 hts gX2_requeue_X2_requireBetween rfl rfl rfl (by decide +kernel) ⟨Nat.le_of_ble_eq_true rfl, Nat.le_of_ble_eq_true rfl⟩) hK hP hD hS hA rfl hl.1 rfl (Nat.le_of_ble_eq_true rfl) dX2_requeue_45 ⟨Nat.le_of_ble_eq_true rfl, Nat.le_of_ble_eq_true rfl⟩ (fun H locs hP hD hS => ?_)
  refine W.eq (g2 := F0 m 48 ls []) rfl ?_
  refine lv_aload hx hb dX2_requeue_48 (lv_at hl 0 rfl) ?_
  exact fk_xcallS (As := [.ref (ad (3 + t))]) (rest := []) ⟨hx, hb, hml, hown, hts⟩ (kx_requireRunning l D ad cI cT cJ X S hst t ht h) (va_cwS 1 hts gX2_requeue_X2_requireRunning rfl rfl rfl (by decide +kernel) ⟨Nat.le_of_ble_eq_true rfl, Nat.le_of_ble_eq_true rfl⟩) hK hP hD hS hA hZ rfl hl.1 rfl (Nat.le_of_ble_eq_true rfl) dX2_requeue_50 ⟨Nat.le_of_ble_eq_true rfl, Nat.le_of_ble_eq_true rfl⟩ (fk_thru hout hlocks hK hD)

abbrev rmX2_requeue : Room := { frames := 6, cells := 0, slots := 0, locals := 141 }
set_option maxHeartbeats 4000000 in
set_option maxRecDepth 100000 in
theorem kc_requeue (l : Launch) (D : va_G) (ad : Nat → Nat) (cI cT cJ : ClassId) (X : va_W) (S : fk_S) (t : Nat) (ht : t < 8) (a : Nat) (ha : a < 16) (b : Nat) (hb9 : b < 16) (hab : ¬ a = b) (k j : Nat) (hk : k ≤ 8) (hj : j ≤ 8) (x : Int32) (hr0 : S 1 t = 0) (hm0 : fk_btw (nI k) 0 8 = true) (hm1 : fk_btw (nI j) 0 8 = true) : fk_C l D (fk_ty cI cT cJ) yX2_requeue wsX2_requeue rmX2_requeue [.ref (ad 0), .int (nI t), .int (nI a), .int x, .int (nI k), .int (nI b), .int (nI j)] (fk_kW ad cI cT S ++ X) (some (.int (kk_requeueR S a b x k j))) (fk_kW ad cI cT (kk_requeue S a b x k j) ++ X) := by
  refine fk_C_of (cc := cX2_requeue) (maxL := 9) (ret := (some .int)) (own := RX2) (by decide) rfl rfl (Nat.le_of_ble_eq_true rfl) ?_
  intro p e s m below meth c A ls hx hb hr hlocks hml hts hown hA hP hK hD hl
  have hS : va_S A s.heap s.heap [] := va_S.rf
  have hl : lv_has ls 9 [(0, .ref (ad 0)), (1, .int (nI t)), (2, .int (nI a)), (3, .int x), (4, .int (nI k)), (5, .int (nI b)), (6, .int (nI j))] := hl
  have hiX2 : ∀ w ∈ u_ws RX2 TX2 6, w ∈ wsX2_requeue := by decide +kernel
  refine lv_aload_n hx hb dX2_requeue_0 rfl (lv_at hl 0 rfl) ?_
  refine lv_iload_n hx hb dX2_requeue_1 rfl (lv_at hl 1 rfl) ?_
  refine fk_callV (As := [.int (nI t)]) (rest := []) ⟨hx, hb, hml, hown, hts⟩ (kc_taskOf l D ad cI cT cJ X S t ht) (cwV 1 hts gX2_requeue_X2_taskOf rfl rfl rfl (by decide +kernel) ⟨Nat.le_of_ble_eq_true rfl, Nat.le_of_ble_eq_true rfl⟩) (fk_rvK hK hP) hK hP hD hS hA rfl hl.1 rfl (Nat.le_of_ble_eq_true rfl) dX2_requeue_2 ⟨Nat.le_of_ble_eq_true rfl, Nat.le_of_ble_eq_true rfl⟩ (fun H locs hP hD hS => ?_)
  refine W.eq (g2 := F0 m 5 ls [.ref (ad (3 + t))]) rfl ?_
  refine lv_astore (lv' := [(7, .ref (ad (3 + t))), (0, .ref (ad 0)), (1, .int (nI t)), (2, .int (nI a)), (3, .int x), (4, .int (nI k)), (5, .int (nI b)), (6, .int (nI j))]) hx hb dX2_requeue_5 hl (by decide) rfl (fun ls hl => ?_)
  refine lv_iload_n hx hb dX2_requeue_7 rfl (lv_at hl 3 rfl) ?_
  refine fk_callS (As := [.int (nI a)]) (rest := []) ⟨hx, hb, hml, hown, hts⟩ (kc_requireAddress l D ad cI cT cJ X S a (by omega)) (va_cwS 1 hts gX2_requeue_X2_requireAddress rfl rfl rfl (by decide +kernel) ⟨Nat.le_of_ble_eq_true rfl, Nat.le_of_ble_eq_true rfl⟩) hK hP hD hS hA rfl hl.1 rfl (Nat.le_of_ble_eq_true rfl) dX2_requeue_8 ⟨Nat.le_of_ble_eq_true rfl, Nat.le_of_ble_eq_true rfl⟩ (fun H locs hP hD hS => ?_)
  refine W.eq (g2 := F0 m 11 ls []) rfl ?_
  refine lv_iload hx hb dX2_requeue_11 (lv_at hl 6 rfl) ?_
  refine fk_callS (As := [.int (nI b)]) (rest := []) ⟨hx, hb, hml, hown, hts⟩ (kc_requireAddress l D ad cI cT cJ X S b (by omega)) (va_cwS 1 hts gX2_requeue_X2_requireAddress rfl rfl rfl (by decide +kernel) ⟨Nat.le_of_ble_eq_true rfl, Nat.le_of_ble_eq_true rfl⟩) hK hP hD hS hA rfl hl.1 rfl (Nat.le_of_ble_eq_true rfl) dX2_requeue_13 ⟨Nat.le_of_ble_eq_true rfl, Nat.le_of_ble_eq_true rfl⟩ (fun H locs hP hD hS => ?_)
  refine W.eq (g2 := F0 m 16 ls []) rfl ?_
  refine lv_iload_n hx hb dX2_requeue_16 rfl (lv_at hl 3 rfl) ?_
  refine lv_iload hx hb dX2_requeue_17 (lv_at hl 6 rfl) ?_
  refine lv_icmp_ne (tgt := 32) hx hb dX2_requeue_19 (by decide) (fun c_1 => ?_) (fun c => absurd ((nI_eq (by omega) (by omega)).mp c) hab)
  refine lv_iload hx hb dX2_requeue_32 (lv_at hl 5 rfl) ?_
  refine lv_iconst (v := 0) hx hb dX2_requeue_34 (by decide) ?_
  refine lv_bipush (v := 8) hx hb dX2_requeue_35 (by decide) ?_
  refine fk_callS (As := [.int (nI k), .int 0, .int 8]) (rest := []) ⟨hx, hb, hml, hown, hts⟩ (kc_requireBetween l D ad cI cT cJ X S (nI k) 0 8 hm0) (va_cwS 3 hts gX2_requeue_X2_requireBetween rfl rfl rfl (by decide +kernel) ⟨Nat.le_of_ble_eq_true rfl, Nat.le_of_ble_eq_true rfl⟩) hK hP hD hS hA rfl hl.1 rfl (Nat.le_of_ble_eq_true rfl) dX2_requeue_37 ⟨Nat.le_of_ble_eq_true rfl, Nat.le_of_ble_eq_true rfl⟩ (fun H locs hP hD hS => ?_)
  refine W.eq (g2 := F0 m 40 ls []) rfl ?_
  refine lv_iload hx hb dX2_requeue_40 (lv_at hl 7 rfl) ?_
  refine lv_iconst (v := 0) hx hb dX2_requeue_42 (by decide) ?_
  refine lv_bipush (v := 8) hx hb dX2_requeue_43 (by decide) ?_
  refine fk_callS (As := [.int (nI j), .int 0, .int 8]) (rest := []) ⟨hx, hb, hml, hown, hts⟩ (kc_requireBetween l D ad cI cT cJ X S (nI j) 0 8 hm1) (va_cwS 3 hts gX2_requeue_X2_requireBetween rfl rfl rfl (by decide +kernel) ⟨Nat.le_of_ble_eq_true rfl, Nat.le_of_ble_eq_true rfl⟩) hK hP hD hS hA rfl hl.1 rfl (Nat.le_of_ble_eq_true rfl) dX2_requeue_45 ⟨Nat.le_of_ble_eq_true rfl, Nat.le_of_ble_eq_true rfl⟩ (fun H locs hP hD hS => ?_)
  refine W.eq (g2 := F0 m 48 ls []) rfl ?_
  refine lv_aload hx hb dX2_requeue_48 (lv_at hl 0 rfl) ?_
  refine fk_callS (As := [.ref (ad (3 + t))]) (rest := []) ⟨hx, hb, hml, hown, hts⟩ (kc_requireRunning l D ad cI cT cJ X S t ht hr0) (va_cwS 1 hts gX2_requeue_X2_requireRunning rfl rfl rfl (by decide +kernel) ⟨Nat.le_of_ble_eq_true rfl, Nat.le_of_ble_eq_true rfl⟩) hK hP hD hS hA rfl hl.1 rfl (Nat.le_of_ble_eq_true rfl) dX2_requeue_50 ⟨Nat.le_of_ble_eq_true rfl, Nat.le_of_ble_eq_true rfl⟩ (fun H locs hP hD hS => ?_)
  refine W.eq (g2 := F0 m 53 ls []) rfl ?_
  refine lv_aload_n hx hb dX2_requeue_53 rfl (lv_at hl 1 rfl) ?_
  refine fk_getK hx hb hts hiX2 hown hK hP 0 (by decide) (v := .ref (ad 1)) rfl (List.mem_of_getElem? (i := 3) rfl) rfl dX2_requeue_54 ?_
  refine lv_iload_n hx hb dX2_requeue_57 rfl (lv_at hl 3 rfl) ?_
  refine fk_ldW hx hb hK hP (vp_in_nI (show a < 16 from (by omega)) (by decide)) dX2_requeue_58 ?_
  refine W.eq (g2 := F0 m 59 ls [.int (S 0 a)]) (by rw [nI_clamp (by omega)]) ?_
  refine lv_iload_n hx hb dX2_requeue_59 rfl (lv_at hl 4 rfl) ?_
  refine lv_icmp_eq (tgt := 65) hx hb dX2_requeue_60 (by decide) (fun c_2 => ?_) (fun c_2 => ?_)
  · refine lv_aload_n hx hb dX2_requeue_65 rfl (lv_at hl 1 rfl) ?_
    refine lv_iload_n hx hb dX2_requeue_66 rfl (lv_at hl 3 rfl) ?_
    refine lv_iload hx hb dX2_requeue_67 (lv_at hl 5 rfl) ?_
    refine lv_sipush (v := 255) hx hb dX2_requeue_69 (by decide) ?_
    refine fk_callV (As := [.int (nI a), .int (nI k), .int 255]) (rest := []) ⟨hx, hb, hml, hown, hts⟩ (kc_wakeFirst l D ad cI cT cJ X S (nI a) 255 k (by omega)) (cwV 3 hts gX2_requeue_X2_wakeFirst rfl rfl rfl (by decide +kernel) ⟨Nat.le_of_ble_eq_true rfl, Nat.le_of_ble_eq_true rfl⟩) (fk_rvK hK hP) hK hP hD hS hA rfl hl.1 rfl (Nat.le_of_ble_eq_true rfl) dX2_requeue_72 ⟨Nat.le_of_ble_eq_true rfl, Nat.le_of_ble_eq_true rfl⟩ (fun H locs hP hD hS => ?_)
    refine W.eq (g2 := F0 m 75 ls [.int (nI ((kk_wake (nI a) 255 k S).1))]) rfl ?_
    refine lv_istore (lv' := [(8, .int (nI ((kk_wake (nI a) 255 k S).1))), (7, .ref (ad (3 + t))), (0, .ref (ad 0)), (1, .int (nI t)), (2, .int (nI a)), (3, .int x), (4, .int (nI k)), (5, .int (nI b)), (6, .int (nI j))]) hx hb dX2_requeue_75 hl (by decide) rfl (fun ls hl => ?_)
    refine lv_iload hx hb dX2_requeue_77 (lv_at hl 0 rfl) ?_
    refine lv_aload_n hx hb dX2_requeue_79 rfl (lv_at hl 2 rfl) ?_
    refine lv_iload_n hx hb dX2_requeue_80 rfl (lv_at hl 4 rfl) ?_
    refine lv_iload hx hb dX2_requeue_81 (lv_at hl 7 rfl) ?_
    refine lv_iload hx hb dX2_requeue_83 (lv_at hl 8 rfl) ?_
    refine fk_callV (As := [.int (nI a), .int (nI b), .int (nI j)]) (rest := [.int (nI ((kk_wake (nI a) 255 k S).1))]) ⟨hx, hb, hml, hown, hts⟩ (kc_moveFirst l D ad cI cT cJ X ((kk_wake (nI a) 255 k S).2) (nI a) (nI b) j (by omega)) (cwV 3 hts gX2_requeue_X2_moveFirst rfl rfl rfl (by decide +kernel) ⟨Nat.le_of_ble_eq_true rfl, Nat.le_of_ble_eq_true rfl⟩) (fk_rvK hK hP) hK hP hD hS hA rfl hl.1 rfl (Nat.le_of_ble_eq_true rfl) dX2_requeue_85 ⟨Nat.le_of_ble_eq_true rfl, Nat.le_of_ble_eq_true rfl⟩ (fun H locs hP hD hS => ?_)
    refine W.eq (g2 := F0 m 88 ls [.int (nI ((kk_move (nI a) (nI b) j ((kk_wake (nI a) 255 k S).2)).1)), .int (nI ((kk_wake (nI a) 255 k S).1))]) rfl ?_
    refine lv_iadd hx hb dX2_requeue_88 ?_
    refine W.eq (g2 := F0 m 89 ls [.int (nI ((kk_wake (nI a) 255 k S).1 + (kk_move (nI a) (nI b) j ((kk_wake (nI a) 255 k S).2)).1))]) (by rw [nI_add]) ?_
    exact fk_iret hx hb hr hlocks hP hK hD hS (congrArg (fun z => fk_kW ad cI cT z ++ X) (by first | rfl | simp [kk_requeue, c_1, c_2])) (by first | rfl | simp [kk_requeueR, c_1, c_2]) dX2_requeue_89
  · refine lv_iconst (v := (-1)) hx hb dX2_requeue_63 (by decide) ?_
    exact fk_iret hx hb hr hlocks hP hK hD hS (congrArg (fun z => fk_kW ad cI cT z ++ X) (by first | rfl | simp [kk_requeue, c_1, c_2])) (by first | rfl | simp [kk_requeueR, c_1, c_2]) dX2_requeue_64

set_option maxHeartbeats 4000000 in
set_option maxRecDepth 100000 in
theorem kx_lock_1 (l : Launch) (D : va_G) (ad : Nat → Nat) (cI cT cJ : ClassId) (X : va_W) (S : fk_S) (hst : l.stackTraces = false) (th av : Int32) (to : Int32) (h : fk_isT th = false) : fk_X l D (fk_ty cI cT cJ) yX2_lock wsX2_lock rx_pub [.ref (ad 0), .int th, .int av, .int to] (fk_kW ad cI cT S ++ X) "java/lang/IndexOutOfBoundsException" := by
  refine fk_X_of (cc := cX2_lock) (maxL := 7) (ret := (some .int)) (own := RX2) (by decide) rfl rfl (Nat.le_of_ble_eq_true rfl) ?_
  intro p e s m below meth c A ls hx hb hout hlocks hml hts hown hA hP hK hD hZ hl
  have hS : va_S A s.heap s.heap [] := va_S.rf
  have hl : lv_has ls 7 [(0, .ref (ad 0)), (1, .int th), (2, .int av), (3, .int to)] := hl
  refine lv_aload_n hx hb dX2_lock_0 rfl (lv_at hl 0 rfl) ?_
  refine lv_iload_n hx hb dX2_lock_1 rfl (lv_at hl 1 rfl) ?_
  exact fk_xcallV (As := [.int th]) (rest := []) ⟨hx, hb, hml, hown, hts⟩ (kx_taskOf l D ad cI cT cJ X S hst th h) (cwV 1 hts gX2_lock_X2_taskOf rfl rfl rfl (by decide +kernel) ⟨Nat.le_of_ble_eq_true rfl, Nat.le_of_ble_eq_true rfl⟩) (fk_rvK hK hP) hK hP hD hS hA hZ rfl hl.1 rfl (Nat.le_of_ble_eq_true rfl) dX2_lock_2 ⟨Nat.le_of_ble_eq_true rfl, Nat.le_of_ble_eq_true rfl⟩ (fk_thru hout hlocks hK hD)

set_option maxHeartbeats 4000000 in
set_option maxRecDepth 100000 in
theorem kx_lock_2 (l : Launch) (D : va_G) (ad : Nat → Nat) (cI cT cJ : ClassId) (X : va_W) (S : fk_S) (hst : l.stackTraces = false) (t : Nat) (ht : t < 8) (av : Int32) (to : Int32) (h : fk_isA av = false) : fk_X l D (fk_ty cI cT cJ) yX2_lock wsX2_lock rx_pub [.ref (ad 0), .int (nI t), .int av, .int to] (fk_kW ad cI cT S ++ X) "java/lang/IndexOutOfBoundsException" := by
  refine fk_X_of (cc := cX2_lock) (maxL := 7) (ret := (some .int)) (own := RX2) (by decide) rfl rfl (Nat.le_of_ble_eq_true rfl) ?_
  intro p e s m below meth c A ls hx hb hout hlocks hml hts hown hA hP hK hD hZ hl
  have hS : va_S A s.heap s.heap [] := va_S.rf
  have hl : lv_has ls 7 [(0, .ref (ad 0)), (1, .int (nI t)), (2, .int av), (3, .int to)] := hl
  refine lv_aload_n hx hb dX2_lock_0 rfl (lv_at hl 0 rfl) ?_
  refine lv_iload_n hx hb dX2_lock_1 rfl (lv_at hl 1 rfl) ?_
  refine fk_callV (As := [.int (nI t)]) (rest := []) ⟨hx, hb, hml, hown, hts⟩ (kc_taskOf l D ad cI cT cJ X S t ht) (cwV 1 hts gX2_lock_X2_taskOf rfl rfl rfl (by decide +kernel) ⟨Nat.le_of_ble_eq_true rfl, Nat.le_of_ble_eq_true rfl⟩) (fk_rvK hK hP) hK hP hD hS hA rfl hl.1 rfl (Nat.le_of_ble_eq_true rfl) dX2_lock_2 ⟨Nat.le_of_ble_eq_true rfl, Nat.le_of_ble_eq_true rfl⟩ (fun H locs hP hD hS => ?_)
  refine W.eq (g2 := F0 m 5 ls [.ref (ad (3 + t))]) rfl ?_
  refine lv_astore (lv' := [(4, .ref (ad (3 + t))), (0, .ref (ad 0)), (1, .int (nI t)), (2, .int av), (3, .int to)]) hx hb dX2_lock_5 hl (by decide) rfl (fun ls hl => ?_)
  refine lv_iload_n hx hb dX2_lock_7 rfl (lv_at hl 3 rfl) ?_
  exact fk_xcallS (As := [.int av]) (rest := []) ⟨hx, hb, hml, hown, hts⟩ (kx_requireAddress l D ad cI cT cJ X S hst av h) (va_cwS 1 hts gX2_lock_X2_requireAddress rfl rfl rfl (by decide +kernel) ⟨Nat.le_of_ble_eq_true rfl, Nat.le_of_ble_eq_true rfl⟩) hK hP hD hS hA hZ rfl hl.1 rfl (Nat.le_of_ble_eq_true rfl) dX2_lock_8 ⟨Nat.le_of_ble_eq_true rfl, Nat.le_of_ble_eq_true rfl⟩ (fk_thru hout hlocks hK hD)

set_option maxHeartbeats 4000000 in
set_option maxRecDepth 100000 in
theorem kx_lock_3 (l : Launch) (D : va_G) (ad : Nat → Nat) (cI cT cJ : ClassId) (X : va_W) (S : fk_S) (hst : l.stackTraces = false) (t : Nat) (ht : t < 8) (a : Nat) (ha : a < 16) (to : Int32)  (h : fk_btw to 0 10000 = false) : fk_X l D (fk_ty cI cT cJ) yX2_lock wsX2_lock rx_pub [.ref (ad 0), .int (nI t), .int (nI a), .int to] (fk_kW ad cI cT S ++ X) "java/lang/IllegalArgumentException" := by
  refine fk_X_of (cc := cX2_lock) (maxL := 7) (ret := (some .int)) (own := RX2) (by decide) rfl rfl (Nat.le_of_ble_eq_true rfl) ?_
  intro p e s m below meth c A ls hx hb hout hlocks hml hts hown hA hP hK hD hZ hl
  have hS : va_S A s.heap s.heap [] := va_S.rf
  have hl : lv_has ls 7 [(0, .ref (ad 0)), (1, .int (nI t)), (2, .int (nI a)), (3, .int to)] := hl
  refine lv_aload_n hx hb dX2_lock_0 rfl (lv_at hl 0 rfl) ?_
  refine lv_iload_n hx hb dX2_lock_1 rfl (lv_at hl 1 rfl) ?_
  refine fk_callV (As := [.int (nI t)]) (rest := []) ⟨hx, hb, hml, hown, hts⟩ (kc_taskOf l D ad cI cT cJ X S t ht) (cwV 1 hts gX2_lock_X2_taskOf rfl rfl rfl (by decide +kernel) ⟨Nat.le_of_ble_eq_true rfl, Nat.le_of_ble_eq_true rfl⟩) (fk_rvK hK hP) hK hP hD hS hA rfl hl.1 rfl (Nat.le_of_ble_eq_true rfl) dX2_lock_2 ⟨Nat.le_of_ble_eq_true rfl, Nat.le_of_ble_eq_true rfl⟩ (fun H locs hP hD hS => ?_)
  refine W.eq (g2 := F0 m 5 ls [.ref (ad (3 + t))]) rfl ?_
  refine lv_astore (lv' := [(4, .ref (ad (3 + t))), (0, .ref (ad 0)), (1, .int (nI t)), (2, .int (nI a)), (3, .int to)]) hx hb dX2_lock_5 hl (by decide) rfl (fun ls hl => ?_)
  refine lv_iload_n hx hb dX2_lock_7 rfl (lv_at hl 3 rfl) ?_
  refine fk_callS (As := [.int (nI a)]) (rest := []) ⟨hx, hb, hml, hown, hts⟩ (kc_requireAddress l D ad cI cT cJ X S a (by omega)) (va_cwS 1 hts gX2_lock_X2_requireAddress rfl rfl rfl (by decide +kernel) ⟨Nat.le_of_ble_eq_true rfl, Nat.le_of_ble_eq_true rfl⟩) hK hP hD hS hA rfl hl.1 rfl (Nat.le_of_ble_eq_true rfl) dX2_lock_8 ⟨Nat.le_of_ble_eq_true rfl, Nat.le_of_ble_eq_true rfl⟩ (fun H locs hP hD hS => ?_)
  refine W.eq (g2 := F0 m 11 ls []) rfl ?_
  refine lv_iload_n hx hb dX2_lock_11 rfl (lv_at hl 4 rfl) ?_
  refine lv_iconst (v := 0) hx hb dX2_lock_12 (by decide) ?_
  refine lv_sipush (v := 10000) hx hb dX2_lock_13 (by decide) ?_
  exact fk_xcallS (As := [.int to, .int 0, .int 10000]) (rest := []) ⟨hx, hb, hml, hown, hts⟩ (kx_requireBetween l D ad cI cT cJ X S hst to 0 10000 h) (va_cwS 3 hts gX2_lock_X2_requireBetween rfl rfl rfl (by decide +kernel) ⟨Nat.le_of_ble_eq_true rfl, Nat.le_of_ble_eq_true rfl⟩) hK hP hD hS hA hZ rfl hl.1 rfl (Nat.le_of_ble_eq_true rfl) dX2_lock_16 ⟨Nat.le_of_ble_eq_true rfl, Nat.le_of_ble_eq_true rfl⟩ (fk_thru hout hlocks hK hD)

set_option maxHeartbeats 4000000 in
set_option maxRecDepth 100000 in
theorem kx_lock_4 (l : Launch) (D : va_G) (ad : Nat → Nat) (cI cT cJ : ClassId) (X : va_W) (S : fk_S) (hst : l.stackTraces = false) (t : Nat) (ht : t < 8) (a : Nat) (ha : a < 16) (to : Int32)  (hm0 : fk_btw to 0 10000 = true) (h : ¬ S 1 t = 0) : fk_X l D (fk_ty cI cT cJ) yX2_lock wsX2_lock rx_pub [.ref (ad 0), .int (nI t), .int (nI a), .int to] (fk_kW ad cI cT S ++ X) "java/lang/IllegalStateException" := by
  refine fk_X_of (cc := cX2_lock) (maxL := 7) (ret := (some .int)) (own := RX2) (by decide) rfl rfl (Nat.le_of_ble_eq_true rfl) ?_
  intro p e s m below meth c A ls hx hb hout hlocks hml hts hown hA hP hK hD hZ hl
  have hS : va_S A s.heap s.heap [] := va_S.rf
  have hl : lv_has ls 7 [(0, .ref (ad 0)), (1, .int (nI t)), (2, .int (nI a)), (3, .int to)] := hl
  refine lv_aload_n hx hb dX2_lock_0 rfl (lv_at hl 0 rfl) ?_
  refine lv_iload_n hx hb dX2_lock_1 rfl (lv_at hl 1 rfl) ?_
  refine fk_callV (As := [.int (nI t)]) (rest := []) ⟨hx, hb, hml, hown, hts⟩ (kc_taskOf l D ad cI cT cJ X S t ht) (cwV 1 hts gX2_lock_X2_taskOf rfl rfl rfl (by decide +kernel) ⟨Nat.le_of_ble_eq_true rfl, Nat.le_of_ble_eq_true rfl⟩) (fk_rvK hK hP) hK hP hD hS hA rfl hl.1 rfl (Nat.le_of_ble_eq_true rfl) dX2_lock_2 ⟨Nat.le_of_ble_eq_true rfl, Nat.le_of_ble_eq_true rfl⟩ (fun H locs hP hD hS => ?_)
  refine W.eq (g2 := F0 m 5 ls [.ref (ad (3 + t))]) rfl ?_
  refine lv_astore (lv' := [(4, .ref (ad (3 + t))), (0, .ref (ad 0)), (1, .int (nI t)), (2, .int (nI a)), (3, .int to)]) hx hb dX2_lock_5 hl (by decide) rfl (fun ls hl => ?_)
  refine lv_iload_n hx hb dX2_lock_7 rfl (lv_at hl 3 rfl) ?_
  refine fk_callS (As := [.int (nI a)]) (rest := []) ⟨hx, hb, hml, hown, hts⟩ (kc_requireAddress l D ad cI cT cJ X S a (by omega)) (va_cwS 1 hts gX2_lock_X2_requireAddress rfl rfl rfl (by decide +kernel) ⟨Nat.le_of_ble_eq_true rfl, Nat.le_of_ble_eq_true rfl⟩) hK hP hD hS hA rfl hl.1 rfl (Nat.le_of_ble_eq_true rfl) dX2_lock_8 ⟨Nat.le_of_ble_eq_true rfl, Nat.le_of_ble_eq_true rfl⟩ (fun H locs hP hD hS => ?_)
  refine W.eq (g2 := F0 m 11 ls []) rfl ?_
  refine lv_iload_n hx hb dX2_lock_11 rfl (lv_at hl 4 rfl) ?_
  refine lv_iconst (v := 0) hx hb dX2_lock_12 (by decide) ?_
  refine lv_sipush (v := 10000) hx hb dX2_lock_13 (by decide) ?_
  refine fk_callS (As := [.int to, .int 0, .int 10000]) (rest := []) ⟨hx, hb, hml, hown, hts⟩ (kc_requireBetween l D ad cI cT cJ X S to 0 10000 hm0) (va_cwS 3 hts gX2_lock_X2_requireBetween rfl rfl rfl (by decide +kernel) ⟨Nat.le_of_ble_eq_true rfl, Nat.le_of_ble_eq_true rfl⟩) hK hP hD hS hA rfl hl.1 rfl (Nat.le_of_ble_eq_true rfl) dX2_lock_16 ⟨Nat.le_of_ble_eq_true rfl, Nat.le_of_ble_eq_true rfl⟩ (fun H locs hP hD hS => ?_)
  refine W.eq (g2 := F0 m 19 ls []) rfl ?_
  refine lv_aload hx hb dX2_lock_19 (lv_at hl 0 rfl) ?_
  exact fk_xcallS (As := [.ref (ad (3 + t))]) (rest := []) ⟨hx, hb, hml, hown, hts⟩ (kx_requireRunning l D ad cI cT cJ X S hst t ht h) (va_cwS 1 hts gX2_lock_X2_requireRunning rfl rfl rfl (by decide +kernel) ⟨Nat.le_of_ble_eq_true rfl, Nat.le_of_ble_eq_true rfl⟩) hK hP hD hS hA hZ rfl hl.1 rfl (Nat.le_of_ble_eq_true rfl) dX2_lock_21 ⟨Nat.le_of_ble_eq_true rfl, Nat.le_of_ble_eq_true rfl⟩ (fk_thru hout hlocks hK hD)

abbrev rmX2_lock : Room := { frames := 4, cells := 0, slots := 0, locals := 95 }
set_option maxHeartbeats 4000000 in
set_option maxRecDepth 100000 in
theorem kc_lock (l : Launch) (D : va_G) (ad : Nat → Nat) (cI cT cJ : ClassId) (X : va_W) (S : fk_S) (t : Nat) (ht : t < 8) (a : Nat) (ha : a < 16) (to : Int32) (hr0 : S 1 t = 0)  (hm0 : fk_btw to 0 10000 = true) (hsz : fk_sz S) : fk_C l D (fk_ty cI cT cJ) yX2_lock wsX2_lock rmX2_lock [.ref (ad 0), .int (nI t), .int (nI a), .int to] (fk_kW ad cI cT S ++ X) (some (.int (kk_lockR S t a))) (fk_kW ad cI cT (kk_lock S t a to) ++ X) := by
  refine fk_C_of (cc := cX2_lock) (maxL := 7) (ret := (some .int)) (own := RX2) (by decide) rfl rfl (Nat.le_of_ble_eq_true rfl) ?_
  intro p e s m below meth c A ls hx hb hr hlocks hml hts hown hA hP hK hD hl
  have hS : va_S A s.heap s.heap [] := va_S.rf
  have hl : lv_has ls 7 [(0, .ref (ad 0)), (1, .int (nI t)), (2, .int (nI a)), (3, .int to)] := hl
  have hiX1 : ∀ w ∈ u_ws RX1 TX1 11, w ∈ wsX2_lock := by decide +kernel
  have hiX2 : ∀ w ∈ u_ws RX2 TX2 6, w ∈ wsX2_lock := by decide +kernel
  refine lv_aload_n hx hb dX2_lock_0 rfl (lv_at hl 0 rfl) ?_
  refine lv_iload_n hx hb dX2_lock_1 rfl (lv_at hl 1 rfl) ?_
  refine fk_callV (As := [.int (nI t)]) (rest := []) ⟨hx, hb, hml, hown, hts⟩ (kc_taskOf l D ad cI cT cJ X S t ht) (cwV 1 hts gX2_lock_X2_taskOf rfl rfl rfl (by decide +kernel) ⟨Nat.le_of_ble_eq_true rfl, Nat.le_of_ble_eq_true rfl⟩) (fk_rvK hK hP) hK hP hD hS hA rfl hl.1 rfl (Nat.le_of_ble_eq_true rfl) dX2_lock_2 ⟨Nat.le_of_ble_eq_true rfl, Nat.le_of_ble_eq_true rfl⟩ (fun H locs hP hD hS => ?_)
  refine W.eq (g2 := F0 m 5 ls [.ref (ad (3 + t))]) rfl ?_
  refine lv_astore (lv' := [(4, .ref (ad (3 + t))), (0, .ref (ad 0)), (1, .int (nI t)), (2, .int (nI a)), (3, .int to)]) hx hb dX2_lock_5 hl (by decide) rfl (fun ls hl => ?_)
  refine lv_iload_n hx hb dX2_lock_7 rfl (lv_at hl 3 rfl) ?_
  refine fk_callS (As := [.int (nI a)]) (rest := []) ⟨hx, hb, hml, hown, hts⟩ (kc_requireAddress l D ad cI cT cJ X S a (by omega)) (va_cwS 1 hts gX2_lock_X2_requireAddress rfl rfl rfl (by decide +kernel) ⟨Nat.le_of_ble_eq_true rfl, Nat.le_of_ble_eq_true rfl⟩) hK hP hD hS hA rfl hl.1 rfl (Nat.le_of_ble_eq_true rfl) dX2_lock_8 ⟨Nat.le_of_ble_eq_true rfl, Nat.le_of_ble_eq_true rfl⟩ (fun H locs hP hD hS => ?_)
  refine W.eq (g2 := F0 m 11 ls []) rfl ?_
  refine lv_iload_n hx hb dX2_lock_11 rfl (lv_at hl 4 rfl) ?_
  refine lv_iconst (v := 0) hx hb dX2_lock_12 (by decide) ?_
  refine lv_sipush (v := 10000) hx hb dX2_lock_13 (by decide) ?_
  refine fk_callS (As := [.int to, .int 0, .int 10000]) (rest := []) ⟨hx, hb, hml, hown, hts⟩ (kc_requireBetween l D ad cI cT cJ X S to 0 10000 hm0) (va_cwS 3 hts gX2_lock_X2_requireBetween rfl rfl rfl (by decide +kernel) ⟨Nat.le_of_ble_eq_true rfl, Nat.le_of_ble_eq_true rfl⟩) hK hP hD hS hA rfl hl.1 rfl (Nat.le_of_ble_eq_true rfl) dX2_lock_16 ⟨Nat.le_of_ble_eq_true rfl, Nat.le_of_ble_eq_true rfl⟩ (fun H locs hP hD hS => ?_)
  refine W.eq (g2 := F0 m 19 ls []) rfl ?_
  refine lv_aload hx hb dX2_lock_19 (lv_at hl 0 rfl) ?_
  refine fk_callS (As := [.ref (ad (3 + t))]) (rest := []) ⟨hx, hb, hml, hown, hts⟩ (kc_requireRunning l D ad cI cT cJ X S t ht hr0) (va_cwS 1 hts gX2_lock_X2_requireRunning rfl rfl rfl (by decide +kernel) ⟨Nat.le_of_ble_eq_true rfl, Nat.le_of_ble_eq_true rfl⟩) hK hP hD hS hA rfl hl.1 rfl (Nat.le_of_ble_eq_true rfl) dX2_lock_21 ⟨Nat.le_of_ble_eq_true rfl, Nat.le_of_ble_eq_true rfl⟩ (fun H locs hP hD hS => ?_)
  refine W.eq (g2 := F0 m 24 ls []) rfl ?_
  refine lv_aload_n hx hb dX2_lock_24 rfl (lv_at hl 1 rfl) ?_
  refine fk_getK hx hb hts hiX2 hown hK hP 0 (by decide) (v := .ref (ad 1)) rfl (List.mem_of_getElem? (i := 1) rfl) rfl dX2_lock_25 ?_
  refine lv_iload_n hx hb dX2_lock_28 rfl (lv_at hl 3 rfl) ?_
  refine fk_ldW hx hb hK hP (vp_in_nI (show a < 16 from (by omega)) (by decide)) dX2_lock_29 ?_
  refine W.eq (g2 := F0 m 30 ls [.int (S 0 a)]) (by rw [nI_clamp (by omega)]) ?_
  refine lv_istore (lv' := [(5, .int (S 0 a)), (4, .ref (ad (3 + t))), (0, .ref (ad 0)), (1, .int (nI t)), (2, .int (nI a)), (3, .int to)]) hx hb dX2_lock_30 hl (by decide) rfl (fun ls hl => ?_)
  refine lv_iload hx hb dX2_lock_32 (lv_at hl 0 rfl) ?_
  refine lv_sipush (v := 255) hx hb dX2_lock_34 (by decide) ?_
  refine lv_iand hx hb dX2_lock_37 ?_
  refine lv_if_ne (tgt := 67) hx hb dX2_lock_38 (by decide) (fun c_1 => ?_) (fun c_1 => ?_)
  · refine lv_aload_n hx hb dX2_lock_67 rfl (lv_at hl 2 rfl) ?_
    refine lv_iload_n hx hb dX2_lock_68 rfl (lv_at hl 4 rfl) ?_
    refine fk_callV (As := [.int (nI a)]) (rest := []) ⟨hx, hb, hml, hown, hts⟩ (kc_ownerAt l D ad cI cT cJ X S (nI a)) (cwV 1 hts gX2_lock_X2_ownerAt rfl rfl rfl (by decide +kernel) ⟨Nat.le_of_ble_eq_true rfl, Nat.le_of_ble_eq_true rfl⟩) (fk_rvK hK hP) hK hP hD hS hA rfl hl.1 rfl (Nat.le_of_ble_eq_true rfl) dX2_lock_69 ⟨Nat.le_of_ble_eq_true rfl, Nat.le_of_ble_eq_true rfl⟩ (fun H locs hP hD hS => ?_)
    rcases o_2 : kk_owner S (nI a) with _ | u3
    · refine W.eq (g2 := F0 m 72 ls [.null]) (by first | rfl | (rw [o_2]; rfl)) ?_
      refine lv_astoreN (lv' := [(6, .null), (5, .int (S 0 a)), (4, .ref (ad (3 + t))), (0, .ref (ad 0)), (1, .int (nI t)), (2, .int (nI a)), (3, .int to)]) hx hb dX2_lock_72 hl (by decide) rfl (fun ls hl => ?_)
      refine lv_aloadN hx hb dX2_lock_74 (lv_at hl 0 rfl) ?_
      refine lv_ifnullN (tgt := 88) hx hb dX2_lock_76 (by decide) ?_
      refine lv_iconst (v := 4) hx hb dX2_lock_88 (by decide) ?_
      exact fk_iret hx hb hr hlocks hP hK hD hS (congrArg (fun z => fk_kW ad cI cT z ++ X) (by first | rfl | simp [kk_lock, c_1, o_2])) (by first | rfl | simp [kk_lockR, c_1, o_2]) dX2_lock_89
    · have hu_4 : u3 < 8 := kk_owner_lt o_2
      refine W.eq (g2 := F0 m 72 ls [.ref (ad (3 + u3))]) (by first | rfl | (rw [o_2]; rfl)) ?_
      refine lv_astore (lv' := [(6, .ref (ad (3 + u3))), (5, .int (S 0 a)), (4, .ref (ad (3 + t))), (0, .ref (ad 0)), (1, .int (nI t)), (2, .int (nI a)), (3, .int to)]) hx hb dX2_lock_72 hl (by decide) rfl (fun ls hl => ?_)
      refine lv_aload hx hb dX2_lock_74 (lv_at hl 0 rfl) ?_
      refine lv_ifnull hx hb dX2_lock_76 ?_
      refine lv_aload hx hb dX2_lock_79 (lv_at hl 0 rfl) ?_
      refine fk_getT hx hb hts hiX1 hown hK hP hu_4 2 (by decide) (v := .int (S 1 u3)) rfl (List.mem_of_getElem? (i := 3) rfl) rfl dX2_lock_81 ?_
      refine lv_iconst (v := 3) hx hb dX2_lock_84 (by decide) ?_
      refine lv_icmp_ne (tgt := 90) hx hb dX2_lock_85 (by decide) (fun c_5 => ?_) (fun c_5 => ?_)
      · refine lv_aload hx hb dX2_lock_90 (lv_at hl 0 rfl) ?_
        refine lv_aload hx hb dX2_lock_92 (lv_at hl 2 rfl) ?_
        refine lv_acmp_eq (rx := (some (ad (3 + u3)))) (ry := (some (ad (3 + t)))) (tgt := 108) hx hb dX2_lock_94 (by decide) (fun c_6 => ?_) (fun c_6 => ?_)
        · have e_7 : u3 = t := fk_adT hD hu_4 ht c_6
          refine lv_iconst (v := 3) hx hb dX2_lock_108 (by decide) ?_
          exact fk_iret hx hb hr hlocks hP hK hD hS (congrArg (fun z => fk_kW ad cI cT z ++ X) (by subst e_7; first | rfl | simp [kk_lock, c_1, o_2, c_5, c_6])) (by subst e_7; first | rfl | simp [kk_lockR, c_1, o_2, c_5, c_6]) dX2_lock_109
        · have f_8 : ¬ u3 = t := fun h9 => c_6 (by rw [h9])
          refine lv_aload_n hx hb dX2_lock_97 rfl (lv_at hl 3 rfl) ?_
          refine lv_aload hx hb dX2_lock_98 (lv_at hl 0 rfl) ?_
          refine lv_aload hx hb dX2_lock_100 (lv_at hl 2 rfl) ?_
          refine fk_callV (As := [.ref (ad (3 + u3)), .ref (ad (3 + t))]) (rest := []) ⟨hx, hb, hml, hown, hts⟩ (kc_isHeldUpBy l D ad cI cT cJ X S u3 t hu_4 ht) (cwV 2 hts gX2_lock_X2_isHeldUpBy rfl rfl rfl (by decide +kernel) ⟨Nat.le_of_ble_eq_true rfl, Nat.le_of_ble_eq_true rfl⟩) (fk_rvK hK hP) hK hP hD hS hA rfl hl.1 rfl (Nat.le_of_ble_eq_true rfl) dX2_lock_102 ⟨Nat.le_of_ble_eq_true rfl, Nat.le_of_ble_eq_true rfl⟩ (fun H locs hP hD hS => ?_)
          cases b_9 : kk_held S t 8 (some u3) with
          | true =>
            refine W.eq (g2 := F0 m 105 ls [.int 1]) (by first | rfl | (rw [b_9]; rfl)) ?_
            refine lv_if_eq (tgt := 110) hx hb dX2_lock_105 (by decide) (fun c => absurd c (by decide)) (fun _ => ?_)
            refine lv_iconst (v := 3) hx hb dX2_lock_108 (by decide) ?_
            exact fk_iret hx hb hr hlocks hP hK hD hS (congrArg (fun z => fk_kW ad cI cT z ++ X) (by first | rfl | simp [kk_lock, c_1, o_2, c_5, c_6, f_8, b_9])) (by first | rfl | simp [kk_lockR, c_1, o_2, c_5, c_6, f_8, b_9]) dX2_lock_109
          | false =>
            refine W.eq (g2 := F0 m 105 ls [.int 0]) (by first | rfl | (rw [b_9]; rfl)) ?_
            refine lv_if_eq (tgt := 110) hx hb dX2_lock_105 (by decide) (fun _ => ?_) (fun c => absurd c (by decide))
            refine lv_aload_n hx hb dX2_lock_110 rfl (lv_at hl 3 rfl) ?_
            refine fk_getK hx hb hts hiX2 hown hK hP 0 (by decide) (v := .ref (ad 1)) rfl (List.mem_of_getElem? (i := 1) rfl) rfl dX2_lock_111 ?_
            refine lv_iload_n hx hb dX2_lock_114 rfl (lv_at hl 5 rfl) ?_
            refine lv_iload hx hb dX2_lock_115 (lv_at hl 1 rfl) ?_
            refine lv_ldc (own := RX2) (v := (-2147483648)) hx hb hown (hts (.constant RX2 83 (-2147483648)) (List.mem_of_getElem? (i := 4) rfl)) dX2_lock_117 ?_
            refine lv_ior hx hb dX2_lock_119 ?_
            refine fk_stW hx hb hK hP hD hS (vp_in_nI (show a < 16 from (by omega)) (by decide)) dX2_lock_120 (fun H locs hP hD hS => ?_)
            rw [show ((nI a)).toNatClampNeg = a from nI_clamp (n := a) (by omega)] at hP hD
            refine lv_aload_n hx hb dX2_lock_121 rfl (lv_at hl 3 rfl) ?_
            refine lv_aload hx hb dX2_lock_122 (lv_at hl 2 rfl) ?_
            refine lv_iconst (v := 2) hx hb dX2_lock_124 (by decide) ?_
            refine lv_iload_n hx hb dX2_lock_125 rfl (lv_at hl 5 rfl) ?_
            refine lv_sipush (v := 255) hx hb dX2_lock_126 (by decide) ?_
            refine lv_iload_n hx hb dX2_lock_129 rfl (lv_at hl 6 rfl) ?_
            refine fk_callV (As := [.ref (ad (3 + t)), .int 2, .int (nI a), .int 255, .int to]) (rest := []) ⟨hx, hb, hml, hown, hts⟩ (kc_beginWait l D ad cI cT cJ X (fk_up S 0 a ((S 0 a) ||| (-2147483648))) t 2 (nI a) 255 to ht) (cwV 5 hts gX2_lock_X2_beginWait rfl rfl rfl (by decide +kernel) ⟨Nat.le_of_ble_eq_true rfl, Nat.le_of_ble_eq_true rfl⟩) (fk_rvK hK hP) hK hP hD hS hA rfl hl.1 rfl (Nat.le_of_ble_eq_true rfl) dX2_lock_130 ⟨Nat.le_of_ble_eq_true rfl, Nat.le_of_ble_eq_true rfl⟩ (fun H locs hP hD hS => ?_)
            refine W.eq (g2 := F0 m 133 ls []) rfl ?_
            refine lv_iconst (v := 2) hx hb dX2_lock_133 (by decide) ?_
            exact fk_iret hx hb hr hlocks hP hK hD hS (congrArg (fun z => fk_kW ad cI cT z ++ X) (by first | rfl | simp [kk_lock, c_1, o_2, c_5, c_6, f_8, b_9])) (by first | rfl | simp [kk_lockR, c_1, o_2, c_5, c_6, f_8, b_9]) dX2_lock_134
      · refine lv_iconst (v := 4) hx hb dX2_lock_88 (by decide) ?_
        exact fk_iret hx hb hr hlocks hP hK hD hS (congrArg (fun z => fk_kW ad cI cT z ++ X) (by first | rfl | simp [kk_lock, c_1, o_2, c_5])) (by first | rfl | simp [kk_lockR, c_1, o_2, c_5]) dX2_lock_89
  · refine lv_aload_n hx hb dX2_lock_41 rfl (lv_at hl 2 rfl) ?_
    refine lv_aload hx hb dX2_lock_42 (lv_at hl 1 rfl) ?_
    refine lv_iload_n hx hb dX2_lock_44 rfl (lv_at hl 4 rfl) ?_
    refine lv_iload hx hb dX2_lock_45 (lv_at hl 0 rfl) ?_
    refine lv_ldc (own := RX2) (v := 1073741824) hx hb hown (hts (.constant RX2 68 (1073741824)) (List.mem_of_getElem? (i := 2) rfl)) dX2_lock_47 ?_
    refine lv_iand hx hb dX2_lock_49 ?_
    refine fk_callV (As := [.ref (ad (3 + t)), .int (nI a), .int ((S 0 a) &&& 1073741824)]) (rest := []) ⟨hx, hb, hml, hown, hts⟩ (kc_giveLock l D ad cI cT cJ X S t (nI a) ((S 0 a) &&& 1073741824) ht hsz) (cwV 3 hts gX2_lock_X2_giveLock rfl rfl rfl (by decide +kernel) ⟨Nat.le_of_ble_eq_true rfl, Nat.le_of_ble_eq_true rfl⟩) (fk_rvK hK hP) hK hP hD hS hA rfl hl.1 rfl (Nat.le_of_ble_eq_true rfl) dX2_lock_50 ⟨Nat.le_of_ble_eq_true rfl, Nat.le_of_ble_eq_true rfl⟩ (fun H locs hP hD hS => ?_)
    refine W.eq (g2 := F0 m 53 ls []) rfl ?_
    refine lv_iload hx hb dX2_lock_53 (lv_at hl 0 rfl) ?_
    refine lv_ldc (own := RX2) (v := 1073741824) hx hb hown (hts (.constant RX2 68 (1073741824)) (List.mem_of_getElem? (i := 2) rfl)) dX2_lock_55 ?_
    refine lv_iand hx hb dX2_lock_57 ?_
    refine lv_if_ne (tgt := 65) hx hb dX2_lock_58 (by decide) (fun c_12 => ?_) (fun c_12 => ?_)
    · refine lv_iconst (v := 1) hx hb dX2_lock_65 (by decide) ?_
      exact fk_iret hx hb hr hlocks hP hK hD hS (congrArg (fun z => fk_kW ad cI cT z ++ X) (by first | rfl | simp [kk_lock, c_1, c_12])) (by first | rfl | simp [kk_lockR, c_1, c_12]) dX2_lock_66
    · refine lv_iconst (v := 0) hx hb dX2_lock_61 (by decide) ?_
      refine lv_goto (tgt := 66) hx hb dX2_lock_62 (by decide) ?_
      exact fk_iret hx hb hr hlocks hP hK hD hS (congrArg (fun z => fk_kW ad cI cT z ++ X) (by first | rfl | simp [kk_lock, c_1, c_12])) (by first | rfl | simp [kk_lockR, c_1, c_12]) dX2_lock_66

set_option maxHeartbeats 4000000 in
set_option maxRecDepth 100000 in
theorem kx_unlock_1 (l : Launch) (D : va_G) (ad : Nat → Nat) (cI cT cJ : ClassId) (X : va_W) (S : fk_S) (hst : l.stackTraces = false) (th av : Int32) (h : fk_isT th = false) : fk_X l D (fk_ty cI cT cJ) yX2_unlock wsX2_unlock rx_pub [.ref (ad 0), .int th, .int av] (fk_kW ad cI cT S ++ X) "java/lang/IndexOutOfBoundsException" := by
  refine fk_X_of (cc := cX2_unlock) (maxL := 4) (ret := (some .int)) (own := RX2) (by decide) rfl rfl (Nat.le_of_ble_eq_true rfl) ?_
  intro p e s m below meth c A ls hx hb hout hlocks hml hts hown hA hP hK hD hZ hl
  have hS : va_S A s.heap s.heap [] := va_S.rf
  have hl : lv_has ls 4 [(0, .ref (ad 0)), (1, .int th), (2, .int av)] := hl
  refine lv_aload_n hx hb dX2_unlock_0 rfl (lv_at hl 0 rfl) ?_
  refine lv_iload_n hx hb dX2_unlock_1 rfl (lv_at hl 1 rfl) ?_
  exact fk_xcallV (As := [.int th]) (rest := []) ⟨hx, hb, hml, hown, hts⟩ (kx_taskOf l D ad cI cT cJ X S hst th h) (cwV 1 hts gX2_unlock_X2_taskOf rfl rfl rfl (by decide +kernel) ⟨Nat.le_of_ble_eq_true rfl, Nat.le_of_ble_eq_true rfl⟩) (fk_rvK hK hP) hK hP hD hS hA hZ rfl hl.1 rfl (Nat.le_of_ble_eq_true rfl) dX2_unlock_2 ⟨Nat.le_of_ble_eq_true rfl, Nat.le_of_ble_eq_true rfl⟩ (fk_thru hout hlocks hK hD)

set_option maxHeartbeats 4000000 in
set_option maxRecDepth 100000 in
theorem kx_unlock_2 (l : Launch) (D : va_G) (ad : Nat → Nat) (cI cT cJ : ClassId) (X : va_W) (S : fk_S) (hst : l.stackTraces = false) (t : Nat) (ht : t < 8) (av : Int32) (h : fk_isA av = false) : fk_X l D (fk_ty cI cT cJ) yX2_unlock wsX2_unlock rx_pub [.ref (ad 0), .int (nI t), .int av] (fk_kW ad cI cT S ++ X) "java/lang/IndexOutOfBoundsException" := by
  refine fk_X_of (cc := cX2_unlock) (maxL := 4) (ret := (some .int)) (own := RX2) (by decide) rfl rfl (Nat.le_of_ble_eq_true rfl) ?_
  intro p e s m below meth c A ls hx hb hout hlocks hml hts hown hA hP hK hD hZ hl
  have hS : va_S A s.heap s.heap [] := va_S.rf
  have hl : lv_has ls 4 [(0, .ref (ad 0)), (1, .int (nI t)), (2, .int av)] := hl
  refine lv_aload_n hx hb dX2_unlock_0 rfl (lv_at hl 0 rfl) ?_
  refine lv_iload_n hx hb dX2_unlock_1 rfl (lv_at hl 1 rfl) ?_
  refine fk_callV (As := [.int (nI t)]) (rest := []) ⟨hx, hb, hml, hown, hts⟩ (kc_taskOf l D ad cI cT cJ X S t ht) (cwV 1 hts gX2_unlock_X2_taskOf rfl rfl rfl (by decide +kernel) ⟨Nat.le_of_ble_eq_true rfl, Nat.le_of_ble_eq_true rfl⟩) (fk_rvK hK hP) hK hP hD hS hA rfl hl.1 rfl (Nat.le_of_ble_eq_true rfl) dX2_unlock_2 ⟨Nat.le_of_ble_eq_true rfl, Nat.le_of_ble_eq_true rfl⟩ (fun H locs hP hD hS => ?_)
  refine W.eq (g2 := F0 m 5 ls [.ref (ad (3 + t))]) rfl ?_
  refine lv_astore_n (lv' := [(3, .ref (ad (3 + t))), (0, .ref (ad 0)), (1, .int (nI t)), (2, .int av)]) hx hb dX2_unlock_5 rfl hl (by decide) rfl (fun ls hl => ?_)
  refine lv_iload_n hx hb dX2_unlock_6 rfl (lv_at hl 3 rfl) ?_
  exact fk_xcallS (As := [.int av]) (rest := []) ⟨hx, hb, hml, hown, hts⟩ (kx_requireAddress l D ad cI cT cJ X S hst av h) (va_cwS 1 hts gX2_unlock_X2_requireAddress rfl rfl rfl (by decide +kernel) ⟨Nat.le_of_ble_eq_true rfl, Nat.le_of_ble_eq_true rfl⟩) hK hP hD hS hA hZ rfl hl.1 rfl (Nat.le_of_ble_eq_true rfl) dX2_unlock_7 ⟨Nat.le_of_ble_eq_true rfl, Nat.le_of_ble_eq_true rfl⟩ (fk_thru hout hlocks hK hD)

set_option maxHeartbeats 4000000 in
set_option maxRecDepth 100000 in
theorem kx_unlock_3 (l : Launch) (D : va_G) (ad : Nat → Nat) (cI cT cJ : ClassId) (X : va_W) (S : fk_S) (hst : l.stackTraces = false) (t : Nat) (ht : t < 8) (a : Nat) (ha : a < 16) (h : ¬ S 1 t = 0) : fk_X l D (fk_ty cI cT cJ) yX2_unlock wsX2_unlock rx_pub [.ref (ad 0), .int (nI t), .int (nI a)] (fk_kW ad cI cT S ++ X) "java/lang/IllegalStateException" := by
  refine fk_X_of (cc := cX2_unlock) (maxL := 4) (ret := (some .int)) (own := RX2) (by decide) rfl rfl (Nat.le_of_ble_eq_true rfl) ?_
  intro p e s m below meth c A ls hx hb hout hlocks hml hts hown hA hP hK hD hZ hl
  have hS : va_S A s.heap s.heap [] := va_S.rf
  have hl : lv_has ls 4 [(0, .ref (ad 0)), (1, .int (nI t)), (2, .int (nI a))] := hl
  refine lv_aload_n hx hb dX2_unlock_0 rfl (lv_at hl 0 rfl) ?_
  refine lv_iload_n hx hb dX2_unlock_1 rfl (lv_at hl 1 rfl) ?_
  refine fk_callV (As := [.int (nI t)]) (rest := []) ⟨hx, hb, hml, hown, hts⟩ (kc_taskOf l D ad cI cT cJ X S t ht) (cwV 1 hts gX2_unlock_X2_taskOf rfl rfl rfl (by decide +kernel) ⟨Nat.le_of_ble_eq_true rfl, Nat.le_of_ble_eq_true rfl⟩) (fk_rvK hK hP) hK hP hD hS hA rfl hl.1 rfl (Nat.le_of_ble_eq_true rfl) dX2_unlock_2 ⟨Nat.le_of_ble_eq_true rfl, Nat.le_of_ble_eq_true rfl⟩ (fun H locs hP hD hS => ?_)
  refine W.eq (g2 := F0 m 5 ls [.ref (ad (3 + t))]) rfl ?_
  refine lv_astore_n (lv' := [(3, .ref (ad (3 + t))), (0, .ref (ad 0)), (1, .int (nI t)), (2, .int (nI a))]) hx hb dX2_unlock_5 rfl hl (by decide) rfl (fun ls hl => ?_)
  refine lv_iload_n hx hb dX2_unlock_6 rfl (lv_at hl 3 rfl) ?_
  refine fk_callS (As := [.int (nI a)]) (rest := []) ⟨hx, hb, hml, hown, hts⟩ (kc_requireAddress l D ad cI cT cJ X S a (by omega)) (va_cwS 1 hts gX2_unlock_X2_requireAddress rfl rfl rfl (by decide +kernel) ⟨Nat.le_of_ble_eq_true rfl, Nat.le_of_ble_eq_true rfl⟩) hK hP hD hS hA rfl hl.1 rfl (Nat.le_of_ble_eq_true rfl) dX2_unlock_7 ⟨Nat.le_of_ble_eq_true rfl, Nat.le_of_ble_eq_true rfl⟩ (fun H locs hP hD hS => ?_)
  refine W.eq (g2 := F0 m 10 ls []) rfl ?_
  refine lv_aload_n hx hb dX2_unlock_10 rfl (lv_at hl 0 rfl) ?_
  exact fk_xcallS (As := [.ref (ad (3 + t))]) (rest := []) ⟨hx, hb, hml, hown, hts⟩ (kx_requireRunning l D ad cI cT cJ X S hst t ht h) (va_cwS 1 hts gX2_unlock_X2_requireRunning rfl rfl rfl (by decide +kernel) ⟨Nat.le_of_ble_eq_true rfl, Nat.le_of_ble_eq_true rfl⟩) hK hP hD hS hA hZ rfl hl.1 rfl (Nat.le_of_ble_eq_true rfl) dX2_unlock_11 ⟨Nat.le_of_ble_eq_true rfl, Nat.le_of_ble_eq_true rfl⟩ (fk_thru hout hlocks hK hD)

set_option maxHeartbeats 4000000 in
set_option maxRecDepth 100000 in
theorem kx_unlock_4 (l : Launch) (D : va_G) (ad : Nat → Nat) (cI cT cJ : ClassId) (X : va_W) (S : fk_S) (hst : l.stackTraces = false) (t : Nat) (ht : t < 8) (a : Nat) (ha : a < 16) (hr0 : S 1 t = 0) (h : ¬ kk_owner S (nI a) = some t) : fk_X l D (fk_ty cI cT cJ) yX2_unlock wsX2_unlock rx_pub [.ref (ad 0), .int (nI t), .int (nI a)] (fk_kW ad cI cT S ++ X) "java/lang/IllegalStateException" := by
  refine fk_X_of (cc := cX2_unlock) (maxL := 4) (ret := (some .int)) (own := RX2) (by decide) rfl rfl (Nat.le_of_ble_eq_true rfl) ?_
  intro p e s m below meth c A ls hx hb hout hlocks hml hts hown hA hP hK hD hZ hl
  have hS : va_S A s.heap s.heap [] := va_S.rf
  have hl : lv_has ls 4 [(0, .ref (ad 0)), (1, .int (nI t)), (2, .int (nI a))] := hl
  refine lv_aload_n hx hb dX2_unlock_0 rfl (lv_at hl 0 rfl) ?_
  refine lv_iload_n hx hb dX2_unlock_1 rfl (lv_at hl 1 rfl) ?_
  refine fk_callV (As := [.int (nI t)]) (rest := []) ⟨hx, hb, hml, hown, hts⟩ (kc_taskOf l D ad cI cT cJ X S t ht) (cwV 1 hts gX2_unlock_X2_taskOf rfl rfl rfl (by decide +kernel) ⟨Nat.le_of_ble_eq_true rfl, Nat.le_of_ble_eq_true rfl⟩) (fk_rvK hK hP) hK hP hD hS hA rfl hl.1 rfl (Nat.le_of_ble_eq_true rfl) dX2_unlock_2 ⟨Nat.le_of_ble_eq_true rfl, Nat.le_of_ble_eq_true rfl⟩ (fun H locs hP hD hS => ?_)
  refine W.eq (g2 := F0 m 5 ls [.ref (ad (3 + t))]) rfl ?_
  refine lv_astore_n (lv' := [(3, .ref (ad (3 + t))), (0, .ref (ad 0)), (1, .int (nI t)), (2, .int (nI a))]) hx hb dX2_unlock_5 rfl hl (by decide) rfl (fun ls hl => ?_)
  refine lv_iload_n hx hb dX2_unlock_6 rfl (lv_at hl 3 rfl) ?_
  refine fk_callS (As := [.int (nI a)]) (rest := []) ⟨hx, hb, hml, hown, hts⟩ (kc_requireAddress l D ad cI cT cJ X S a (by omega)) (va_cwS 1 hts gX2_unlock_X2_requireAddress rfl rfl rfl (by decide +kernel) ⟨Nat.le_of_ble_eq_true rfl, Nat.le_of_ble_eq_true rfl⟩) hK hP hD hS hA rfl hl.1 rfl (Nat.le_of_ble_eq_true rfl) dX2_unlock_7 ⟨Nat.le_of_ble_eq_true rfl, Nat.le_of_ble_eq_true rfl⟩ (fun H locs hP hD hS => ?_)
  refine W.eq (g2 := F0 m 10 ls []) rfl ?_
  refine lv_aload_n hx hb dX2_unlock_10 rfl (lv_at hl 0 rfl) ?_
  refine fk_callS (As := [.ref (ad (3 + t))]) (rest := []) ⟨hx, hb, hml, hown, hts⟩ (kc_requireRunning l D ad cI cT cJ X S t ht hr0) (va_cwS 1 hts gX2_unlock_X2_requireRunning rfl rfl rfl (by decide +kernel) ⟨Nat.le_of_ble_eq_true rfl, Nat.le_of_ble_eq_true rfl⟩) hK hP hD hS hA rfl hl.1 rfl (Nat.le_of_ble_eq_true rfl) dX2_unlock_11 ⟨Nat.le_of_ble_eq_true rfl, Nat.le_of_ble_eq_true rfl⟩ (fun H locs hP hD hS => ?_)
  refine W.eq (g2 := F0 m 14 ls []) rfl ?_
  refine lv_aload_n hx hb dX2_unlock_14 rfl (lv_at hl 1 rfl) ?_
  refine lv_iload_n hx hb dX2_unlock_15 rfl (lv_at hl 3 rfl) ?_
  refine fk_callV (As := [.int (nI a)]) (rest := []) ⟨hx, hb, hml, hown, hts⟩ (kc_ownerAt l D ad cI cT cJ X S (nI a)) (cwV 1 hts gX2_unlock_X2_ownerAt rfl rfl rfl (by decide +kernel) ⟨Nat.le_of_ble_eq_true rfl, Nat.le_of_ble_eq_true rfl⟩) (fk_rvK hK hP) hK hP hD hS hA rfl hl.1 rfl (Nat.le_of_ble_eq_true rfl) dX2_unlock_16 ⟨Nat.le_of_ble_eq_true rfl, Nat.le_of_ble_eq_true rfl⟩ (fun H locs hP hD hS => ?_)
  rcases o_1 : kk_owner S (nI a) with _ | u2
  · refine W.eq (g2 := F0 m 19 ls [.null]) (by first | rfl | (rw [o_1]; rfl)) ?_
    refine lv_aload_n hx hb dX2_unlock_19 rfl (lv_at hl 0 rfl) ?_
    refine lv_acmp_eq (rx := none) (ry := (some (ad (3 + t)))) (tgt := 33) hx hb dX2_unlock_20 (by decide) (fun c => absurd c (fun h => by cases h)) (fun _ => ?_)
    exact fk_throw (cls := "java/lang/IllegalStateException") (text := "not the owner") (ik := 84) (is := 86) (ic := 88) (rest := []) hx hb hst hown (by decide +kernel) (hts _ (List.mem_of_getElem? (i := 1) rfl)) (hts _ (List.mem_of_getElem? (i := 2) rfl)) (by decide +kernel) (vx_hat (fun w h => hts w (List.mem_cons_of_mem _ (List.mem_append_left _ (List.mem_append_right _ h)))) fk_b88 (fun w h => va_Nw.use (fk_dc_on (fk_bad_dc w h)) (hZ.2.2.2 w h))) fk_b88g hZ hK hP hD hS (hl.1.trans hml.symm) hout hlocks dX2_unlock_23 dX2_unlock_26 dX2_unlock_27 dX2_unlock_29 dX2_unlock_32 ⟨Nat.le_of_ble_eq_true rfl, Nat.le_of_ble_eq_true rfl, Nat.le_of_ble_eq_true rfl, Nat.le_of_ble_eq_true rfl⟩
  · have hu_3 : u2 < 8 := kk_owner_lt o_1
    refine W.eq (g2 := F0 m 19 ls [.ref (ad (3 + u2))]) (by first | rfl | (rw [o_1]; rfl)) ?_
    refine lv_aload_n hx hb dX2_unlock_19 rfl (lv_at hl 0 rfl) ?_
    refine lv_acmp_eq (rx := (some (ad (3 + u2)))) (ry := (some (ad (3 + t)))) (tgt := 33) hx hb dX2_unlock_20 (by decide) (fun c => (h (by rw [o_1]; exact congrArg some (fk_adT hD (kk_owner_lt o_1) ht c))).elim) (fun c_4 => ?_)
    exact fk_throw (cls := "java/lang/IllegalStateException") (text := "not the owner") (ik := 84) (is := 86) (ic := 88) (rest := []) hx hb hst hown (by decide +kernel) (hts _ (List.mem_of_getElem? (i := 1) rfl)) (hts _ (List.mem_of_getElem? (i := 2) rfl)) (by decide +kernel) (vx_hat (fun w h => hts w (List.mem_cons_of_mem _ (List.mem_append_left _ (List.mem_append_right _ h)))) fk_b88 (fun w h => va_Nw.use (fk_dc_on (fk_bad_dc w h)) (hZ.2.2.2 w h))) fk_b88g hZ hK hP hD hS (hl.1.trans hml.symm) hout hlocks dX2_unlock_23 dX2_unlock_26 dX2_unlock_27 dX2_unlock_29 dX2_unlock_32 ⟨Nat.le_of_ble_eq_true rfl, Nat.le_of_ble_eq_true rfl, Nat.le_of_ble_eq_true rfl, Nat.le_of_ble_eq_true rfl⟩

abbrev rmX2_unlock : Room := { frames := 6, cells := 0, slots := 0, locals := 140 }
set_option maxHeartbeats 4000000 in
set_option maxRecDepth 100000 in
theorem kc_unlock (l : Launch) (D : va_G) (ad : Nat → Nat) (cI cT cJ : ClassId) (X : va_W) (S : fk_S) (t : Nat) (ht : t < 8) (a : Nat) (ha : a < 16) (hr0 : S 1 t = 0) (hsz : fk_sz S) (h : kk_owner S (nI a) = some t) : fk_C l D (fk_ty cI cT cJ) yX2_unlock wsX2_unlock rmX2_unlock [.ref (ad 0), .int (nI t), .int (nI a)] (fk_kW ad cI cT S ++ X) (some (.int (kk_unlockR S t a))) (fk_kW ad cI cT (kk_unlock S t a) ++ X) := by
  refine fk_C_of (cc := cX2_unlock) (maxL := 4) (ret := (some .int)) (own := RX2) (by decide) rfl rfl (Nat.le_of_ble_eq_true rfl) ?_
  intro p e s m below meth c A ls hx hb hr hlocks hml hts hown hA hP hK hD hl
  have hS : va_S A s.heap s.heap [] := va_S.rf
  have hl : lv_has ls 4 [(0, .ref (ad 0)), (1, .int (nI t)), (2, .int (nI a))] := hl
  have hiX1 : ∀ w ∈ u_ws RX1 TX1 11, w ∈ wsX2_unlock := by decide +kernel
  refine lv_aload_n hx hb dX2_unlock_0 rfl (lv_at hl 0 rfl) ?_
  refine lv_iload_n hx hb dX2_unlock_1 rfl (lv_at hl 1 rfl) ?_
  refine fk_callV (As := [.int (nI t)]) (rest := []) ⟨hx, hb, hml, hown, hts⟩ (kc_taskOf l D ad cI cT cJ X S t ht) (cwV 1 hts gX2_unlock_X2_taskOf rfl rfl rfl (by decide +kernel) ⟨Nat.le_of_ble_eq_true rfl, Nat.le_of_ble_eq_true rfl⟩) (fk_rvK hK hP) hK hP hD hS hA rfl hl.1 rfl (Nat.le_of_ble_eq_true rfl) dX2_unlock_2 ⟨Nat.le_of_ble_eq_true rfl, Nat.le_of_ble_eq_true rfl⟩ (fun H locs hP hD hS => ?_)
  refine W.eq (g2 := F0 m 5 ls [.ref (ad (3 + t))]) rfl ?_
  refine lv_astore_n (lv' := [(3, .ref (ad (3 + t))), (0, .ref (ad 0)), (1, .int (nI t)), (2, .int (nI a))]) hx hb dX2_unlock_5 rfl hl (by decide) rfl (fun ls hl => ?_)
  refine lv_iload_n hx hb dX2_unlock_6 rfl (lv_at hl 3 rfl) ?_
  refine fk_callS (As := [.int (nI a)]) (rest := []) ⟨hx, hb, hml, hown, hts⟩ (kc_requireAddress l D ad cI cT cJ X S a (by omega)) (va_cwS 1 hts gX2_unlock_X2_requireAddress rfl rfl rfl (by decide +kernel) ⟨Nat.le_of_ble_eq_true rfl, Nat.le_of_ble_eq_true rfl⟩) hK hP hD hS hA rfl hl.1 rfl (Nat.le_of_ble_eq_true rfl) dX2_unlock_7 ⟨Nat.le_of_ble_eq_true rfl, Nat.le_of_ble_eq_true rfl⟩ (fun H locs hP hD hS => ?_)
  refine W.eq (g2 := F0 m 10 ls []) rfl ?_
  refine lv_aload_n hx hb dX2_unlock_10 rfl (lv_at hl 0 rfl) ?_
  refine fk_callS (As := [.ref (ad (3 + t))]) (rest := []) ⟨hx, hb, hml, hown, hts⟩ (kc_requireRunning l D ad cI cT cJ X S t ht hr0) (va_cwS 1 hts gX2_unlock_X2_requireRunning rfl rfl rfl (by decide +kernel) ⟨Nat.le_of_ble_eq_true rfl, Nat.le_of_ble_eq_true rfl⟩) hK hP hD hS hA rfl hl.1 rfl (Nat.le_of_ble_eq_true rfl) dX2_unlock_11 ⟨Nat.le_of_ble_eq_true rfl, Nat.le_of_ble_eq_true rfl⟩ (fun H locs hP hD hS => ?_)
  refine W.eq (g2 := F0 m 14 ls []) rfl ?_
  refine lv_aload_n hx hb dX2_unlock_14 rfl (lv_at hl 1 rfl) ?_
  refine lv_iload_n hx hb dX2_unlock_15 rfl (lv_at hl 3 rfl) ?_
  refine fk_callV (As := [.int (nI a)]) (rest := []) ⟨hx, hb, hml, hown, hts⟩ (by have h9 := (kc_ownerAt l D ad cI cT cJ X S (nI a)); rw [h] at h9; exact h9) (cwV 1 hts gX2_unlock_X2_ownerAt rfl rfl rfl (by decide +kernel) ⟨Nat.le_of_ble_eq_true rfl, Nat.le_of_ble_eq_true rfl⟩) (fk_rvK hK hP) hK hP hD hS hA rfl hl.1 rfl (Nat.le_of_ble_eq_true rfl) dX2_unlock_16 ⟨Nat.le_of_ble_eq_true rfl, Nat.le_of_ble_eq_true rfl⟩ (fun H locs hP hD hS => ?_)
  refine W.eq (g2 := F0 m 19 ls [.ref (ad (3 + t))]) rfl ?_
  refine lv_aload_n hx hb dX2_unlock_19 rfl (lv_at hl 0 rfl) ?_
  refine lv_acmp_eq (rx := (some (ad (3 + t)))) (ry := (some (ad (3 + t)))) (tgt := 33) hx hb dX2_unlock_20 (by decide) (fun _ => ?_) (fun c => absurd rfl c)
  refine lv_aload_n hx hb dX2_unlock_33 rfl (lv_at hl 0 rfl) ?_
  refine fk_getT hx hb hts hiX1 hown hK hP ht 1 (by decide) (v := .ref (ad (11 + t))) rfl (List.mem_of_getElem? (i := 3) rfl) rfl dX2_unlock_34 ?_
  refine lv_iload_n hx hb dX2_unlock_37 rfl (lv_at hl 3 rfl) ?_
  refine fk_callV (As := [.int (nI a)]) (rest := []) ⟨hx, hb, hml, hown, hts⟩ (kc_drop l D ad cI cT cJ X S t (nI a) ht hsz) (cwV 1 hts gX2_unlock_X0_drop rfl rfl rfl (by decide +kernel) ⟨Nat.le_of_ble_eq_true rfl, Nat.le_of_ble_eq_true rfl⟩) (fk_rvL hK hP ht) hK hP hD hS hA rfl hl.1 rfl (Nat.le_of_ble_eq_true rfl) dX2_unlock_38 ⟨Nat.le_of_ble_eq_true rfl, Nat.le_of_ble_eq_true rfl⟩ (fun H locs hP hD hS => ?_)
  refine W.eq (g2 := F0 m 41 ls []) rfl ?_
  refine lv_aload_n hx hb dX2_unlock_41 rfl (lv_at hl 1 rfl) ?_
  refine lv_iload_n hx hb dX2_unlock_42 rfl (lv_at hl 3 rfl) ?_
  refine lv_iconst (v := 0) hx hb dX2_unlock_43 (by decide) ?_
  refine fk_callV (As := [.int (nI a), .int 0]) (rest := []) ⟨hx, hb, hml, hown, hts⟩ (kc_passOn l D ad cI cT cJ X (kk_drop S t (nI a)) (nI a) false (kk_drop_sz ht hsz)) (cwV 2 hts gX2_unlock_X2_passOn rfl rfl rfl (by decide +kernel) ⟨Nat.le_of_ble_eq_true rfl, Nat.le_of_ble_eq_true rfl⟩) (fk_rvK hK hP) hK hP hD hS hA rfl hl.1 rfl (Nat.le_of_ble_eq_true rfl) dX2_unlock_44 ⟨Nat.le_of_ble_eq_true rfl, Nat.le_of_ble_eq_true rfl⟩ (fun H locs hP hD hS => ?_)
  refine W.eq (g2 := F0 m 47 ls [.int (fk_oI (kk_lk (kk_drop S t (nI a)) (nI a)))]) rfl ?_
  exact fk_iret hx hb hr hlocks hP hK hD hS (congrArg (fun z => fk_kW ad cI cT z ++ X) (by rfl)) (by rfl) dX2_unlock_47

set_option maxHeartbeats 4000000 in
set_option maxRecDepth 100000 in
theorem kx_locks_1 (l : Launch) (D : va_G) (ad : Nat → Nat) (cI cT cJ : ClassId) (X : va_W) (S : fk_S) (hst : l.stackTraces = false) (th : Int32) (h : fk_isT th = false) : fk_X l D (fk_ty cI cT cJ) yX2_locks wsX2_locks rx_pub [.ref (ad 0), .int th] (fk_kW ad cI cT S ++ X) "java/lang/IndexOutOfBoundsException" := by
  refine fk_X_of (cc := cX2_locks) (maxL := 2) (ret := (some .int)) (own := RX2) (by decide) rfl rfl (Nat.le_of_ble_eq_true rfl) ?_
  intro p e s m below meth c A ls hx hb hout hlocks hml hts hown hA hP hK hD hZ hl
  have hS : va_S A s.heap s.heap [] := va_S.rf
  have hl : lv_has ls 2 [(0, .ref (ad 0)), (1, .int th)] := hl
  refine lv_aload_n hx hb dX2_locks_0 rfl (lv_at hl 0 rfl) ?_
  refine lv_iload_n hx hb dX2_locks_1 rfl (lv_at hl 1 rfl) ?_
  exact fk_xcallV (As := [.int th]) (rest := []) ⟨hx, hb, hml, hown, hts⟩ (kx_taskOf l D ad cI cT cJ X S hst th h) (cwV 1 hts gX2_locks_X2_taskOf rfl rfl rfl (by decide +kernel) ⟨Nat.le_of_ble_eq_true rfl, Nat.le_of_ble_eq_true rfl⟩) (fk_rvK hK hP) hK hP hD hS hA hZ rfl hl.1 rfl (Nat.le_of_ble_eq_true rfl) dX2_locks_2 ⟨Nat.le_of_ble_eq_true rfl, Nat.le_of_ble_eq_true rfl⟩ (fk_thru hout hlocks hK hD)

abbrev rmX2_locks : Room := { frames := 1, cells := 0, slots := 0, locals := 21 }
set_option maxHeartbeats 4000000 in
set_option maxRecDepth 100000 in
theorem kc_locks (l : Launch) (D : va_G) (ad : Nat → Nat) (cI cT cJ : ClassId) (X : va_W) (S : fk_S) (t : Nat) (ht : t < 8) : fk_C l D (fk_ty cI cT cJ) yX2_locks wsX2_locks rmX2_locks [.ref (ad 0), .int (nI t)] (fk_kW ad cI cT S ++ X) (some (.int (S 10 t))) (fk_kW ad cI cT S ++ X) := by
  refine fk_C_of (cc := cX2_locks) (maxL := 2) (ret := (some .int)) (own := RX2) (by decide) rfl rfl (Nat.le_of_ble_eq_true rfl) ?_
  intro p e s m below meth c A ls hx hb hr hlocks hml hts hown hA hP hK hD hl
  have hS : va_S A s.heap s.heap [] := va_S.rf
  have hl : lv_has ls 2 [(0, .ref (ad 0)), (1, .int (nI t))] := hl
  have hiX0 : ∀ w ∈ u_ws RX0 TX0 2, w ∈ wsX2_locks := by decide +kernel
  have hiX1 : ∀ w ∈ u_ws RX1 TX1 11, w ∈ wsX2_locks := by decide +kernel
  refine lv_aload_n hx hb dX2_locks_0 rfl (lv_at hl 0 rfl) ?_
  refine lv_iload_n hx hb dX2_locks_1 rfl (lv_at hl 1 rfl) ?_
  refine fk_callV (As := [.int (nI t)]) (rest := []) ⟨hx, hb, hml, hown, hts⟩ (kc_taskOf l D ad cI cT cJ X S t ht) (cwV 1 hts gX2_locks_X2_taskOf rfl rfl rfl (by decide +kernel) ⟨Nat.le_of_ble_eq_true rfl, Nat.le_of_ble_eq_true rfl⟩) (fk_rvK hK hP) hK hP hD hS hA rfl hl.1 rfl (Nat.le_of_ble_eq_true rfl) dX2_locks_2 ⟨Nat.le_of_ble_eq_true rfl, Nat.le_of_ble_eq_true rfl⟩ (fun H locs hP hD hS => ?_)
  refine W.eq (g2 := F0 m 5 ls [.ref (ad (3 + t))]) rfl ?_
  refine fk_getT hx hb hts hiX1 hown hK hP ht 1 (by decide) (v := .ref (ad (11 + t))) rfl (List.mem_of_getElem? (i := 1) rfl) rfl dX2_locks_5 ?_
  refine fk_getL hx hb hts hiX0 hown hK hP ht 1 (by decide) (v := .int (S 10 t)) rfl (List.mem_of_getElem? (i := 2) rfl) rfl dX2_locks_8 ?_
  exact fk_iret hx hb hr hlocks hP hK hD hS (congrArg (fun z => fk_kW ad cI cT z ++ X) (by first | rfl | simp [])) (by rfl) dX2_locks_11

set_option maxHeartbeats 4000000 in
set_option maxRecDepth 100000 in
theorem kx_lockAt_1 (l : Launch) (D : va_G) (ad : Nat → Nat) (cI cT cJ : ClassId) (X : va_W) (S : fk_S) (hst : l.stackTraces = false) (th q : Int32) (h : fk_isT th = false) : fk_X l D (fk_ty cI cT cJ) yX2_lockAt wsX2_lockAt rx_pub [.ref (ad 0), .int th, .int q] (fk_kW ad cI cT S ++ X) "java/lang/IndexOutOfBoundsException" := by
  refine fk_X_of (cc := cX2_lockAt) (maxL := 4) (ret := (some .int)) (own := RX2) (by decide) rfl rfl (Nat.le_of_ble_eq_true rfl) ?_
  intro p e s m below meth c A ls hx hb hout hlocks hml hts hown hA hP hK hD hZ hl
  have hS : va_S A s.heap s.heap [] := va_S.rf
  have hl : lv_has ls 4 [(0, .ref (ad 0)), (1, .int th), (2, .int q)] := hl
  refine lv_aload_n hx hb dX2_lockAt_0 rfl (lv_at hl 0 rfl) ?_
  refine lv_iload_n hx hb dX2_lockAt_1 rfl (lv_at hl 1 rfl) ?_
  exact fk_xcallV (As := [.int th]) (rest := []) ⟨hx, hb, hml, hown, hts⟩ (kx_taskOf l D ad cI cT cJ X S hst th h) (cwV 1 hts gX2_lockAt_X2_taskOf rfl rfl rfl (by decide +kernel) ⟨Nat.le_of_ble_eq_true rfl, Nat.le_of_ble_eq_true rfl⟩) (fk_rvK hK hP) hK hP hD hS hA hZ rfl hl.1 rfl (Nat.le_of_ble_eq_true rfl) dX2_lockAt_2 ⟨Nat.le_of_ble_eq_true rfl, Nat.le_of_ble_eq_true rfl⟩ (fk_thru hout hlocks hK hD)

set_option maxHeartbeats 4000000 in
set_option maxRecDepth 100000 in
theorem kx_lockAt_2 (l : Launch) (D : va_G) (ad : Nat → Nat) (cI cT cJ : ClassId) (X : va_W) (S : fk_S) (hst : l.stackTraces = false) (t : Nat) (ht : t < 8) (q : Int32) (h : ¬ (0 ≤ q ∧ q < S 10 t)) : fk_X l D (fk_ty cI cT cJ) yX2_lockAt wsX2_lockAt rx_pub [.ref (ad 0), .int (nI t), .int q] (fk_kW ad cI cT S ++ X) "java/lang/IndexOutOfBoundsException" := by
  refine fk_X_of (cc := cX2_lockAt) (maxL := 4) (ret := (some .int)) (own := RX2) (by decide) rfl rfl (Nat.le_of_ble_eq_true rfl) ?_
  intro p e s m below meth c A ls hx hb hout hlocks hml hts hown hA hP hK hD hZ hl
  have hS : va_S A s.heap s.heap [] := va_S.rf
  have hl : lv_has ls 4 [(0, .ref (ad 0)), (1, .int (nI t)), (2, .int q)] := hl
  have hiX0 : ∀ w ∈ u_ws RX0 TX0 2, w ∈ wsX2_lockAt := by decide +kernel
  have hiX1 : ∀ w ∈ u_ws RX1 TX1 11, w ∈ wsX2_lockAt := by decide +kernel
  refine lv_aload_n hx hb dX2_lockAt_0 rfl (lv_at hl 0 rfl) ?_
  refine lv_iload_n hx hb dX2_lockAt_1 rfl (lv_at hl 1 rfl) ?_
  refine fk_callV (As := [.int (nI t)]) (rest := []) ⟨hx, hb, hml, hown, hts⟩ (kc_taskOf l D ad cI cT cJ X S t ht) (cwV 1 hts gX2_lockAt_X2_taskOf rfl rfl rfl (by decide +kernel) ⟨Nat.le_of_ble_eq_true rfl, Nat.le_of_ble_eq_true rfl⟩) (fk_rvK hK hP) hK hP hD hS hA rfl hl.1 rfl (Nat.le_of_ble_eq_true rfl) dX2_lockAt_2 ⟨Nat.le_of_ble_eq_true rfl, Nat.le_of_ble_eq_true rfl⟩ (fun H locs hP hD hS => ?_)
  refine W.eq (g2 := F0 m 5 ls [.ref (ad (3 + t))]) rfl ?_
  refine fk_getT hx hb hts hiX1 hown hK hP ht 1 (by decide) (v := .ref (ad (11 + t))) rfl (List.mem_of_getElem? (i := 3) rfl) rfl dX2_lockAt_5 ?_
  refine lv_astore_n (lv' := [(3, .ref (ad (11 + t))), (0, .ref (ad 0)), (1, .int (nI t)), (2, .int q)]) hx hb dX2_lockAt_8 rfl hl (by decide) rfl (fun ls hl => ?_)
  refine lv_iload_n hx hb dX2_lockAt_9 rfl (lv_at hl 3 rfl) ?_
  refine lv_if_lt (tgt := 21) hx hb dX2_lockAt_10 (by decide) (fun c_1 => ?_) (fun c_1 => ?_)
  · exact fk_throw (cls := "java/lang/IndexOutOfBoundsException") (text := "no such place") (ik := 105) (is := 107) (ic := 109) (rest := []) hx hb hst hown (by decide +kernel) (hts _ (List.mem_of_getElem? (i := 1) rfl)) (hts _ (List.mem_of_getElem? (i := 2) rfl)) (by decide +kernel) (vx_hat (fun w h => hts w (List.mem_cons_of_mem _ (List.mem_append_right _ h))) fk_b109 (fun w h => va_Nw.use (fk_dc_on (fk_bad_dc w h)) (hZ.2.2.2 w h))) fk_b109g hZ hK hP hD hS (hl.1.trans hml.symm) hout hlocks dX2_lockAt_21 dX2_lockAt_24 dX2_lockAt_25 dX2_lockAt_27 dX2_lockAt_30 ⟨Nat.le_of_ble_eq_true rfl, Nat.le_of_ble_eq_true rfl, Nat.le_of_ble_eq_true rfl, Nat.le_of_ble_eq_true rfl⟩
  · refine lv_iload_n hx hb dX2_lockAt_13 rfl (lv_at hl 3 rfl) ?_
    refine lv_aload_n hx hb dX2_lockAt_14 rfl (lv_at hl 0 rfl) ?_
    refine fk_getL hx hb hts hiX0 hown hK hP ht 1 (by decide) (v := .int (S 10 t)) rfl (List.mem_of_getElem? (i := 4) rfl) rfl dX2_lockAt_15 ?_
    refine lv_icmp_lt (tgt := 31) hx hb dX2_lockAt_18 (by decide) (fun c_2 => absurd c_2 (fun h9 => h ⟨Int32.not_lt.mp c_1, h9⟩)) (fun c_2 => ?_)
    exact fk_throw (cls := "java/lang/IndexOutOfBoundsException") (text := "no such place") (ik := 105) (is := 107) (ic := 109) (rest := []) hx hb hst hown (by decide +kernel) (hts _ (List.mem_of_getElem? (i := 1) rfl)) (hts _ (List.mem_of_getElem? (i := 2) rfl)) (by decide +kernel) (vx_hat (fun w h => hts w (List.mem_cons_of_mem _ (List.mem_append_right _ h))) fk_b109 (fun w h => va_Nw.use (fk_dc_on (fk_bad_dc w h)) (hZ.2.2.2 w h))) fk_b109g hZ hK hP hD hS (hl.1.trans hml.symm) hout hlocks dX2_lockAt_21 dX2_lockAt_24 dX2_lockAt_25 dX2_lockAt_27 dX2_lockAt_30 ⟨Nat.le_of_ble_eq_true rfl, Nat.le_of_ble_eq_true rfl, Nat.le_of_ble_eq_true rfl, Nat.le_of_ble_eq_true rfl⟩

abbrev rmX2_lockAt : Room := { frames := 1, cells := 0, slots := 0, locals := 21 }
set_option maxHeartbeats 4000000 in
set_option maxRecDepth 100000 in
theorem kc_lockAt (l : Launch) (D : va_G) (ad : Nat → Nat) (cI cT cJ : ClassId) (X : va_W) (S : fk_S) (t : Nat) (ht : t < 8) (q : Int32) (hsz : fk_sz S) (h : 0 ≤ q ∧ q < S 10 t) : fk_C l D (fk_ty cI cT cJ) yX2_lockAt wsX2_lockAt rmX2_lockAt [.ref (ad 0), .int (nI t), .int q] (fk_kW ad cI cT S ++ X) (some (.int (kk_addrAt S t q))) (fk_kW ad cI cT S ++ X) := by
  refine fk_C_of (cc := cX2_lockAt) (maxL := 4) (ret := (some .int)) (own := RX2) (by decide) rfl rfl (Nat.le_of_ble_eq_true rfl) ?_
  intro p e s m below meth c A ls hx hb hr hlocks hml hts hown hA hP hK hD hl
  have hS : va_S A s.heap s.heap [] := va_S.rf
  have hl : lv_has ls 4 [(0, .ref (ad 0)), (1, .int (nI t)), (2, .int q)] := hl
  have hiX0 : ∀ w ∈ u_ws RX0 TX0 2, w ∈ wsX2_lockAt := by decide +kernel
  have hiX1 : ∀ w ∈ u_ws RX1 TX1 11, w ∈ wsX2_lockAt := by decide +kernel
  refine lv_aload_n hx hb dX2_lockAt_0 rfl (lv_at hl 0 rfl) ?_
  refine lv_iload_n hx hb dX2_lockAt_1 rfl (lv_at hl 1 rfl) ?_
  refine fk_callV (As := [.int (nI t)]) (rest := []) ⟨hx, hb, hml, hown, hts⟩ (kc_taskOf l D ad cI cT cJ X S t ht) (cwV 1 hts gX2_lockAt_X2_taskOf rfl rfl rfl (by decide +kernel) ⟨Nat.le_of_ble_eq_true rfl, Nat.le_of_ble_eq_true rfl⟩) (fk_rvK hK hP) hK hP hD hS hA rfl hl.1 rfl (Nat.le_of_ble_eq_true rfl) dX2_lockAt_2 ⟨Nat.le_of_ble_eq_true rfl, Nat.le_of_ble_eq_true rfl⟩ (fun H locs hP hD hS => ?_)
  refine W.eq (g2 := F0 m 5 ls [.ref (ad (3 + t))]) rfl ?_
  refine fk_getT hx hb hts hiX1 hown hK hP ht 1 (by decide) (v := .ref (ad (11 + t))) rfl (List.mem_of_getElem? (i := 3) rfl) rfl dX2_lockAt_5 ?_
  refine lv_astore_n (lv' := [(3, .ref (ad (11 + t))), (0, .ref (ad 0)), (1, .int (nI t)), (2, .int q)]) hx hb dX2_lockAt_8 rfl hl (by decide) rfl (fun ls hl => ?_)
  refine lv_iload_n hx hb dX2_lockAt_9 rfl (lv_at hl 3 rfl) ?_
  refine lv_if_lt (tgt := 21) hx hb dX2_lockAt_10 (by decide) (fun c_1 => absurd c_1 (Int32.not_lt.mpr h.1)) (fun c_1 => ?_)
  refine lv_iload_n hx hb dX2_lockAt_13 rfl (lv_at hl 3 rfl) ?_
  refine lv_aload_n hx hb dX2_lockAt_14 rfl (lv_at hl 0 rfl) ?_
  refine fk_getL hx hb hts hiX0 hown hK hP ht 1 (by decide) (v := .int (S 10 t)) rfl (List.mem_of_getElem? (i := 4) rfl) rfl dX2_lockAt_15 ?_
  refine lv_icmp_lt (tgt := 31) hx hb dX2_lockAt_18 (by decide) (fun c_2 => ?_) (fun c_2 => absurd h.2 c_2)
  refine lv_aload_n hx hb dX2_lockAt_31 rfl (lv_at hl 0 rfl) ?_
  refine lv_iload_n hx hb dX2_lockAt_32 rfl (lv_at hl 3 rfl) ?_
  refine fk_callV (As := [.int q]) (rest := []) ⟨hx, hb, hml, hown, hts⟩ (kc_addressAt l D ad cI cT cJ X S t q ht hsz) (cwV 1 hts gX2_lockAt_X0_addressAt rfl rfl rfl (by decide +kernel) ⟨Nat.le_of_ble_eq_true rfl, Nat.le_of_ble_eq_true rfl⟩) (fk_rvL hK hP ht) hK hP hD hS hA rfl hl.1 rfl (Nat.le_of_ble_eq_true rfl) dX2_lockAt_33 ⟨Nat.le_of_ble_eq_true rfl, Nat.le_of_ble_eq_true rfl⟩ (fun H locs hP hD hS => ?_)
  refine W.eq (g2 := F0 m 36 ls [.int (kk_addrAt S t q)]) rfl ?_
  exact fk_iret hx hb hr hlocks hP hK hD hS (congrArg (fun z => fk_kW ad cI cT z ++ X) (by first | rfl | simp [c_1, c_2])) (by rfl) dX2_lockAt_36

set_option maxHeartbeats 4000000 in
set_option maxRecDepth 100000 in
theorem kx_interrupt_1 (l : Launch) (D : va_G) (ad : Nat → Nat) (cI cT cJ : ClassId) (X : va_W) (S : fk_S) (hst : l.stackTraces = false) (th : Int32) (h : fk_isT th = false) : fk_X l D (fk_ty cI cT cJ) yX2_interrupt wsX2_interrupt rx_pub [.ref (ad 0), .int th] (fk_kW ad cI cT S ++ X) "java/lang/IndexOutOfBoundsException" := by
  refine fk_X_of (cc := cX2_interrupt) (maxL := 3) (ret := none) (own := RX2) (by decide) rfl rfl (Nat.le_of_ble_eq_true rfl) ?_
  intro p e s m below meth c A ls hx hb hout hlocks hml hts hown hA hP hK hD hZ hl
  have hS : va_S A s.heap s.heap [] := va_S.rf
  have hl : lv_has ls 3 [(0, .ref (ad 0)), (1, .int th)] := hl
  refine lv_aload_n hx hb dX2_interrupt_0 rfl (lv_at hl 0 rfl) ?_
  refine lv_iload_n hx hb dX2_interrupt_1 rfl (lv_at hl 1 rfl) ?_
  exact fk_xcallV (As := [.int th]) (rest := []) ⟨hx, hb, hml, hown, hts⟩ (kx_taskOf l D ad cI cT cJ X S hst th h) (cwV 1 hts gX2_interrupt_X2_taskOf rfl rfl rfl (by decide +kernel) ⟨Nat.le_of_ble_eq_true rfl, Nat.le_of_ble_eq_true rfl⟩) (fk_rvK hK hP) hK hP hD hS hA hZ rfl hl.1 rfl (Nat.le_of_ble_eq_true rfl) dX2_interrupt_2 ⟨Nat.le_of_ble_eq_true rfl, Nat.le_of_ble_eq_true rfl⟩ (fk_thru hout hlocks hK hD)

set_option maxHeartbeats 4000000 in
set_option maxRecDepth 100000 in
theorem kx_interrupt_2 (l : Launch) (D : va_G) (ad : Nat → Nat) (cI cT cJ : ClassId) (X : va_W) (S : fk_S) (hst : l.stackTraces = false) (t : Nat) (ht : t < 8) (h : kk_q S t = false) : fk_X l D (fk_ty cI cT cJ) yX2_interrupt wsX2_interrupt rx_pub [.ref (ad 0), .int (nI t)] (fk_kW ad cI cT S ++ X) "java/lang/IllegalStateException" := by
  refine fk_X_of (cc := cX2_interrupt) (maxL := 3) (ret := none) (own := RX2) (by decide) rfl rfl (Nat.le_of_ble_eq_true rfl) ?_
  intro p e s m below meth c A ls hx hb hout hlocks hml hts hown hA hP hK hD hZ hl
  have hS : va_S A s.heap s.heap [] := va_S.rf
  have hl : lv_has ls 3 [(0, .ref (ad 0)), (1, .int (nI t))] := hl
  refine lv_aload_n hx hb dX2_interrupt_0 rfl (lv_at hl 0 rfl) ?_
  refine lv_iload_n hx hb dX2_interrupt_1 rfl (lv_at hl 1 rfl) ?_
  refine fk_callV (As := [.int (nI t)]) (rest := []) ⟨hx, hb, hml, hown, hts⟩ (kc_taskOf l D ad cI cT cJ X S t ht) (cwV 1 hts gX2_interrupt_X2_taskOf rfl rfl rfl (by decide +kernel) ⟨Nat.le_of_ble_eq_true rfl, Nat.le_of_ble_eq_true rfl⟩) (fk_rvK hK hP) hK hP hD hS hA rfl hl.1 rfl (Nat.le_of_ble_eq_true rfl) dX2_interrupt_2 ⟨Nat.le_of_ble_eq_true rfl, Nat.le_of_ble_eq_true rfl⟩ (fun H locs hP hD hS => ?_)
  refine W.eq (g2 := F0 m 5 ls [.ref (ad (3 + t))]) rfl ?_
  refine lv_astore_n (lv' := [(2, .ref (ad (3 + t))), (0, .ref (ad 0)), (1, .int (nI t))]) hx hb dX2_interrupt_5 rfl hl (by decide) rfl (fun ls hl => ?_)
  refine lv_aload_n hx hb dX2_interrupt_6 rfl (lv_at hl 0 rfl) ?_
  refine fk_callV (As := []) (rest := []) ⟨hx, hb, hml, hown, hts⟩ (by have h9 := (kc_isQueued l D ad cI cT cJ X S t ht); rw [h] at h9; exact h9) (cwV 0 hts gX2_interrupt_X1_isQueued rfl rfl rfl (by decide +kernel) ⟨Nat.le_of_ble_eq_true rfl, Nat.le_of_ble_eq_true rfl⟩) (fk_rvT hK hP ht) hK hP hD hS hA rfl hl.1 rfl (Nat.le_of_ble_eq_true rfl) dX2_interrupt_7 ⟨Nat.le_of_ble_eq_true rfl, Nat.le_of_ble_eq_true rfl⟩ (fun H locs hP hD hS => ?_)
  refine W.eq (g2 := F0 m 10 ls [.int 0]) rfl ?_
  refine lv_if_ne (tgt := 23) hx hb dX2_interrupt_10 (by decide) (fun c => absurd c (by decide)) (fun _ => ?_)
  exact fk_throw (cls := "java/lang/IllegalStateException") (text := "neither WAITING nor LOCKING") (ik := 84) (is := 130) (ic := 88) (rest := []) hx hb hst hown (by decide +kernel) (hts _ (List.mem_of_getElem? (i := 1) rfl)) (hts _ (List.mem_of_getElem? (i := 2) rfl)) (by decide +kernel) (vx_hat (fun w h => hts w (List.mem_cons_of_mem _ (List.mem_append_left _ (List.mem_append_right _ h)))) fk_b88 (fun w h => va_Nw.use (fk_dc_on (fk_bad_dc w h)) (hZ.2.2.2 w h))) fk_b88g hZ hK hP hD hS (hl.1.trans hml.symm) hout hlocks dX2_interrupt_13 dX2_interrupt_16 dX2_interrupt_17 dX2_interrupt_19 dX2_interrupt_22 ⟨Nat.le_of_ble_eq_true rfl, Nat.le_of_ble_eq_true rfl, Nat.le_of_ble_eq_true rfl, Nat.le_of_ble_eq_true rfl⟩

abbrev rmX2_interrupt : Room := { frames := 5, cells := 0, slots := 0, locals := 116 }
set_option maxHeartbeats 4000000 in
set_option maxRecDepth 100000 in
theorem kc_interrupt (l : Launch) (D : va_G) (ad : Nat → Nat) (cI cT cJ : ClassId) (X : va_W) (S : fk_S) (t : Nat) (ht : t < 8) (h : kk_q S t = true) : fk_C l D (fk_ty cI cT cJ) yX2_interrupt wsX2_interrupt rmX2_interrupt [.ref (ad 0), .int (nI t)] (fk_kW ad cI cT S ++ X) none (fk_kW ad cI cT (kk_end S t 2) ++ X) := by
  refine fk_C_of (cc := cX2_interrupt) (maxL := 3) (ret := none) (own := RX2) (by decide) rfl rfl (Nat.le_of_ble_eq_true rfl) ?_
  intro p e s m below meth c A ls hx hb hr hlocks hml hts hown hA hP hK hD hl
  have hS : va_S A s.heap s.heap [] := va_S.rf
  have hl : lv_has ls 3 [(0, .ref (ad 0)), (1, .int (nI t))] := hl
  refine lv_aload_n hx hb dX2_interrupt_0 rfl (lv_at hl 0 rfl) ?_
  refine lv_iload_n hx hb dX2_interrupt_1 rfl (lv_at hl 1 rfl) ?_
  refine fk_callV (As := [.int (nI t)]) (rest := []) ⟨hx, hb, hml, hown, hts⟩ (kc_taskOf l D ad cI cT cJ X S t ht) (cwV 1 hts gX2_interrupt_X2_taskOf rfl rfl rfl (by decide +kernel) ⟨Nat.le_of_ble_eq_true rfl, Nat.le_of_ble_eq_true rfl⟩) (fk_rvK hK hP) hK hP hD hS hA rfl hl.1 rfl (Nat.le_of_ble_eq_true rfl) dX2_interrupt_2 ⟨Nat.le_of_ble_eq_true rfl, Nat.le_of_ble_eq_true rfl⟩ (fun H locs hP hD hS => ?_)
  refine W.eq (g2 := F0 m 5 ls [.ref (ad (3 + t))]) rfl ?_
  refine lv_astore_n (lv' := [(2, .ref (ad (3 + t))), (0, .ref (ad 0)), (1, .int (nI t))]) hx hb dX2_interrupt_5 rfl hl (by decide) rfl (fun ls hl => ?_)
  refine lv_aload_n hx hb dX2_interrupt_6 rfl (lv_at hl 0 rfl) ?_
  refine fk_callV (As := []) (rest := []) ⟨hx, hb, hml, hown, hts⟩ (by have h9 := (kc_isQueued l D ad cI cT cJ X S t ht); rw [h] at h9; exact h9) (cwV 0 hts gX2_interrupt_X1_isQueued rfl rfl rfl (by decide +kernel) ⟨Nat.le_of_ble_eq_true rfl, Nat.le_of_ble_eq_true rfl⟩) (fk_rvT hK hP ht) hK hP hD hS hA rfl hl.1 rfl (Nat.le_of_ble_eq_true rfl) dX2_interrupt_7 ⟨Nat.le_of_ble_eq_true rfl, Nat.le_of_ble_eq_true rfl⟩ (fun H locs hP hD hS => ?_)
  refine W.eq (g2 := F0 m 10 ls [.int 1]) rfl ?_
  refine lv_if_ne (tgt := 23) hx hb dX2_interrupt_10 (by decide) (fun _ => ?_) (fun c => absurd c (by decide))
  refine lv_aload_n hx hb dX2_interrupt_23 rfl (lv_at hl 1 rfl) ?_
  refine lv_aload_n hx hb dX2_interrupt_24 rfl (lv_at hl 0 rfl) ?_
  refine lv_iconst (v := 2) hx hb dX2_interrupt_25 (by decide) ?_
  refine fk_callV (As := [.ref (ad (3 + t)), .int 2]) (rest := []) ⟨hx, hb, hml, hown, hts⟩ (kc_endWait l D ad cI cT cJ X S t 2 ht) (cwV 2 hts gX2_interrupt_X2_endWait rfl rfl rfl (by decide +kernel) ⟨Nat.le_of_ble_eq_true rfl, Nat.le_of_ble_eq_true rfl⟩) (fk_rvK hK hP) hK hP hD hS hA rfl hl.1 rfl (Nat.le_of_ble_eq_true rfl) dX2_interrupt_26 ⟨Nat.le_of_ble_eq_true rfl, Nat.le_of_ble_eq_true rfl⟩ (fun H locs hP hD hS => ?_)
  refine W.eq (g2 := F0 m 29 ls []) rfl ?_
  exact fk_vret hx hb hr hlocks hP hK hD hS (congrArg (fun z => fk_kW ad cI cT z ++ X) (by first | rfl | simp [])) (by rfl) dX2_interrupt_29

set_option maxHeartbeats 4000000 in
set_option maxRecDepth 100000 in
theorem kx_start_1 (l : Launch) (D : va_G) (ad : Nat → Nat) (cI cT cJ : ClassId) (X : va_W) (S : fk_S) (hst : l.stackTraces = false) (th : Int32) (h : fk_isT th = false) : fk_X l D (fk_ty cI cT cJ) yX2_start wsX2_start rx_pub [.ref (ad 0), .int th] (fk_kW ad cI cT S ++ X) "java/lang/IndexOutOfBoundsException" := by
  refine fk_X_of (cc := cX2_start) (maxL := 3) (ret := none) (own := RX2) (by decide) rfl rfl (Nat.le_of_ble_eq_true rfl) ?_
  intro p e s m below meth c A ls hx hb hout hlocks hml hts hown hA hP hK hD hZ hl
  have hS : va_S A s.heap s.heap [] := va_S.rf
  have hl : lv_has ls 3 [(0, .ref (ad 0)), (1, .int th)] := hl
  refine lv_aload_n hx hb dX2_start_0 rfl (lv_at hl 0 rfl) ?_
  refine lv_iload_n hx hb dX2_start_1 rfl (lv_at hl 1 rfl) ?_
  exact fk_xcallV (As := [.int th]) (rest := []) ⟨hx, hb, hml, hown, hts⟩ (kx_taskOf l D ad cI cT cJ X S hst th h) (cwV 1 hts gX2_start_X2_taskOf rfl rfl rfl (by decide +kernel) ⟨Nat.le_of_ble_eq_true rfl, Nat.le_of_ble_eq_true rfl⟩) (fk_rvK hK hP) hK hP hD hS hA hZ rfl hl.1 rfl (Nat.le_of_ble_eq_true rfl) dX2_start_2 ⟨Nat.le_of_ble_eq_true rfl, Nat.le_of_ble_eq_true rfl⟩ (fk_thru hout hlocks hK hD)

set_option maxHeartbeats 4000000 in
set_option maxRecDepth 100000 in
theorem kx_start_2 (l : Launch) (D : va_G) (ad : Nat → Nat) (cI cT cJ : ClassId) (X : va_W) (S : fk_S) (hst : l.stackTraces = false) (t : Nat) (ht : t < 8) (h : ¬ S 1 t = 3) : fk_X l D (fk_ty cI cT cJ) yX2_start wsX2_start rx_pub [.ref (ad 0), .int (nI t)] (fk_kW ad cI cT S ++ X) "java/lang/IllegalStateException" := by
  refine fk_X_of (cc := cX2_start) (maxL := 3) (ret := none) (own := RX2) (by decide) rfl rfl (Nat.le_of_ble_eq_true rfl) ?_
  intro p e s m below meth c A ls hx hb hout hlocks hml hts hown hA hP hK hD hZ hl
  have hS : va_S A s.heap s.heap [] := va_S.rf
  have hl : lv_has ls 3 [(0, .ref (ad 0)), (1, .int (nI t))] := hl
  have hiX1 : ∀ w ∈ u_ws RX1 TX1 11, w ∈ wsX2_start := by decide +kernel
  refine lv_aload_n hx hb dX2_start_0 rfl (lv_at hl 0 rfl) ?_
  refine lv_iload_n hx hb dX2_start_1 rfl (lv_at hl 1 rfl) ?_
  refine fk_callV (As := [.int (nI t)]) (rest := []) ⟨hx, hb, hml, hown, hts⟩ (kc_taskOf l D ad cI cT cJ X S t ht) (cwV 1 hts gX2_start_X2_taskOf rfl rfl rfl (by decide +kernel) ⟨Nat.le_of_ble_eq_true rfl, Nat.le_of_ble_eq_true rfl⟩) (fk_rvK hK hP) hK hP hD hS hA rfl hl.1 rfl (Nat.le_of_ble_eq_true rfl) dX2_start_2 ⟨Nat.le_of_ble_eq_true rfl, Nat.le_of_ble_eq_true rfl⟩ (fun H locs hP hD hS => ?_)
  refine W.eq (g2 := F0 m 5 ls [.ref (ad (3 + t))]) rfl ?_
  refine lv_astore_n (lv' := [(2, .ref (ad (3 + t))), (0, .ref (ad 0)), (1, .int (nI t))]) hx hb dX2_start_5 rfl hl (by decide) rfl (fun ls hl => ?_)
  refine lv_aload_n hx hb dX2_start_6 rfl (lv_at hl 0 rfl) ?_
  refine fk_getT hx hb hts hiX1 hown hK hP ht 2 (by decide) (v := .int (S 1 t)) rfl (List.mem_of_getElem? (i := 3) rfl) rfl dX2_start_7 ?_
  refine lv_iconst (v := 3) hx hb dX2_start_10 (by decide) ?_
  refine lv_icmp_eq (tgt := 24) hx hb dX2_start_11 (by decide) (fun c_1 => absurd c_1 h) (fun c_1 => ?_)
  exact fk_throw (cls := "java/lang/IllegalStateException") (text := "not DEAD") (ik := 84) (is := 145) (ic := 88) (rest := []) hx hb hst hown (by decide +kernel) (hts _ (List.mem_of_getElem? (i := 1) rfl)) (hts _ (List.mem_of_getElem? (i := 2) rfl)) (by decide +kernel) (vx_hat (fun w h => hts w (List.mem_cons_of_mem _ (List.mem_append_left _ (List.mem_append_right _ h)))) fk_b88 (fun w h => va_Nw.use (fk_dc_on (fk_bad_dc w h)) (hZ.2.2.2 w h))) fk_b88g hZ hK hP hD hS (hl.1.trans hml.symm) hout hlocks dX2_start_14 dX2_start_17 dX2_start_18 dX2_start_20 dX2_start_23 ⟨Nat.le_of_ble_eq_true rfl, Nat.le_of_ble_eq_true rfl, Nat.le_of_ble_eq_true rfl, Nat.le_of_ble_eq_true rfl⟩

abbrev rmX2_start : Room := { frames := 1, cells := 0, slots := 0, locals := 21 }
set_option maxHeartbeats 4000000 in
set_option maxRecDepth 100000 in
theorem kc_start (l : Launch) (D : va_G) (ad : Nat → Nat) (cI cT cJ : ClassId) (X : va_W) (S : fk_S) (t : Nat) (ht : t < 8) (h : S 1 t = 3) : fk_C l D (fk_ty cI cT cJ) yX2_start wsX2_start rmX2_start [.ref (ad 0), .int (nI t)] (fk_kW ad cI cT S ++ X) none (fk_kW ad cI cT (kk_start S t) ++ X) := by
  refine fk_C_of (cc := cX2_start) (maxL := 3) (ret := none) (own := RX2) (by decide) rfl rfl (Nat.le_of_ble_eq_true rfl) ?_
  intro p e s m below meth c A ls hx hb hr hlocks hml hts hown hA hP hK hD hl
  have hS : va_S A s.heap s.heap [] := va_S.rf
  have hl : lv_has ls 3 [(0, .ref (ad 0)), (1, .int (nI t))] := hl
  have hiX1 : ∀ w ∈ u_ws RX1 TX1 11, w ∈ wsX2_start := by decide +kernel
  refine lv_aload_n hx hb dX2_start_0 rfl (lv_at hl 0 rfl) ?_
  refine lv_iload_n hx hb dX2_start_1 rfl (lv_at hl 1 rfl) ?_
  refine fk_callV (As := [.int (nI t)]) (rest := []) ⟨hx, hb, hml, hown, hts⟩ (kc_taskOf l D ad cI cT cJ X S t ht) (cwV 1 hts gX2_start_X2_taskOf rfl rfl rfl (by decide +kernel) ⟨Nat.le_of_ble_eq_true rfl, Nat.le_of_ble_eq_true rfl⟩) (fk_rvK hK hP) hK hP hD hS hA rfl hl.1 rfl (Nat.le_of_ble_eq_true rfl) dX2_start_2 ⟨Nat.le_of_ble_eq_true rfl, Nat.le_of_ble_eq_true rfl⟩ (fun H locs hP hD hS => ?_)
  refine W.eq (g2 := F0 m 5 ls [.ref (ad (3 + t))]) rfl ?_
  refine lv_astore_n (lv' := [(2, .ref (ad (3 + t))), (0, .ref (ad 0)), (1, .int (nI t))]) hx hb dX2_start_5 rfl hl (by decide) rfl (fun ls hl => ?_)
  refine lv_aload_n hx hb dX2_start_6 rfl (lv_at hl 0 rfl) ?_
  refine fk_getT hx hb hts hiX1 hown hK hP ht 2 (by decide) (v := .int (S 1 t)) rfl (List.mem_of_getElem? (i := 3) rfl) rfl dX2_start_7 ?_
  refine lv_iconst (v := 3) hx hb dX2_start_10 (by decide) ?_
  refine lv_icmp_eq (tgt := 24) hx hb dX2_start_11 (by decide) (fun c_1 => ?_) (fun c_1 => absurd h c_1)
  refine lv_aload_n hx hb dX2_start_24 rfl (lv_at hl 0 rfl) ?_
  refine lv_iconst (v := 0) hx hb dX2_start_25 (by decide) ?_
  refine fk_putT (v := 0) hx hb hts hiX1 hown hK hP hD hS ht 1 (by decide) (by decide) (by simp [fk_fT, fk_up]) (List.mem_of_getElem? (i := 3) rfl) rfl rfl (by decide +kernel) dX2_start_26 (fun H locs hP hD hS => ?_)
  refine lv_aload_n hx hb dX2_start_29 rfl (lv_at hl 0 rfl) ?_
  refine lv_iconst (v := 0) hx hb dX2_start_30 (by decide) ?_
  refine fk_putT (v := 0) hx hb hts hiX1 hown hK hP hD hS ht 2 (by decide) (by decide) (by simp [fk_fT, fk_up]) (List.mem_of_getElem? (i := 4) rfl) rfl rfl (by decide +kernel) dX2_start_31 (fun H locs hP hD hS => ?_)
  refine lv_aload_n hx hb dX2_start_34 rfl (lv_at hl 0 rfl) ?_
  refine lv_iconst (v := (-1)) hx hb dX2_start_35 (by decide) ?_
  refine fk_putT (v := (-1)) hx hb hts hiX1 hown hK hP hD hS ht 8 (by decide) (by decide) (by simp [fk_fT, fk_up]) (List.mem_of_getElem? (i := 5) rfl) rfl rfl (by decide +kernel) dX2_start_36 (fun H locs hP hD hS => ?_)
  refine lv_aload_n hx hb dX2_start_39 rfl (lv_at hl 0 rfl) ?_
  refine lv_iconst (v := 0) hx hb dX2_start_40 (by decide) ?_
  refine fk_putT (v := 0) hx hb hts hiX1 hown hK hP hD hS ht 9 (by decide) (by decide) (by simp [fk_fT, fk_up]) (List.mem_of_getElem? (i := 6) rfl) rfl rfl (by decide +kernel) dX2_start_41 (fun H locs hP hD hS => ?_)
  exact fk_vret hx hb hr hlocks hP hK hD hS (congrArg (fun z => fk_kW ad cI cT z ++ X) (by first | rfl | simp [c_1])) (by rfl) dX2_start_44

set_option maxHeartbeats 4000000 in
set_option maxRecDepth 100000 in
theorem kx_setPriority_1 (l : Launch) (D : va_G) (ad : Nat → Nat) (cI cT cJ : ClassId) (X : va_W) (S : fk_S) (hst : l.stackTraces = false) (th v : Int32) (h : fk_isT th = false) : fk_X l D (fk_ty cI cT cJ) yX2_setPriority wsX2_setPriority rx_pub [.ref (ad 0), .int th, .int v] (fk_kW ad cI cT S ++ X) "java/lang/IndexOutOfBoundsException" := by
  refine fk_X_of (cc := cX2_setPriority) (maxL := 5) (ret := (some .int)) (own := RX2) (by decide) rfl rfl (Nat.le_of_ble_eq_true rfl) ?_
  intro p e s m below meth c A ls hx hb hout hlocks hml hts hown hA hP hK hD hZ hl
  have hS : va_S A s.heap s.heap [] := va_S.rf
  have hl : lv_has ls 5 [(0, .ref (ad 0)), (1, .int th), (2, .int v)] := hl
  refine lv_aload_n hx hb dX2_setPriority_0 rfl (lv_at hl 0 rfl) ?_
  refine lv_iload_n hx hb dX2_setPriority_1 rfl (lv_at hl 1 rfl) ?_
  exact fk_xcallV (As := [.int th]) (rest := []) ⟨hx, hb, hml, hown, hts⟩ (kx_taskOf l D ad cI cT cJ X S hst th h) (cwV 1 hts gX2_setPriority_X2_taskOf rfl rfl rfl (by decide +kernel) ⟨Nat.le_of_ble_eq_true rfl, Nat.le_of_ble_eq_true rfl⟩) (fk_rvK hK hP) hK hP hD hS hA hZ rfl hl.1 rfl (Nat.le_of_ble_eq_true rfl) dX2_setPriority_2 ⟨Nat.le_of_ble_eq_true rfl, Nat.le_of_ble_eq_true rfl⟩ (fk_thru hout hlocks hK hD)

set_option maxHeartbeats 4000000 in
set_option maxRecDepth 100000 in
theorem kx_setPriority_2 (l : Launch) (D : va_G) (ad : Nat → Nat) (cI cT cJ : ClassId) (X : va_W) (S : fk_S) (hst : l.stackTraces = false) (t : Nat) (ht : t < 8) (v : Int32) (h : fk_btw v 0 9 = false) : fk_X l D (fk_ty cI cT cJ) yX2_setPriority wsX2_setPriority rx_pub [.ref (ad 0), .int (nI t), .int v] (fk_kW ad cI cT S ++ X) "java/lang/IllegalArgumentException" := by
  refine fk_X_of (cc := cX2_setPriority) (maxL := 5) (ret := (some .int)) (own := RX2) (by decide) rfl rfl (Nat.le_of_ble_eq_true rfl) ?_
  intro p e s m below meth c A ls hx hb hout hlocks hml hts hown hA hP hK hD hZ hl
  have hS : va_S A s.heap s.heap [] := va_S.rf
  have hl : lv_has ls 5 [(0, .ref (ad 0)), (1, .int (nI t)), (2, .int v)] := hl
  refine lv_aload_n hx hb dX2_setPriority_0 rfl (lv_at hl 0 rfl) ?_
  refine lv_iload_n hx hb dX2_setPriority_1 rfl (lv_at hl 1 rfl) ?_
  refine fk_callV (As := [.int (nI t)]) (rest := []) ⟨hx, hb, hml, hown, hts⟩ (kc_taskOf l D ad cI cT cJ X S t ht) (cwV 1 hts gX2_setPriority_X2_taskOf rfl rfl rfl (by decide +kernel) ⟨Nat.le_of_ble_eq_true rfl, Nat.le_of_ble_eq_true rfl⟩) (fk_rvK hK hP) hK hP hD hS hA rfl hl.1 rfl (Nat.le_of_ble_eq_true rfl) dX2_setPriority_2 ⟨Nat.le_of_ble_eq_true rfl, Nat.le_of_ble_eq_true rfl⟩ (fun H locs hP hD hS => ?_)
  refine W.eq (g2 := F0 m 5 ls [.ref (ad (3 + t))]) rfl ?_
  refine lv_astore_n (lv' := [(3, .ref (ad (3 + t))), (0, .ref (ad 0)), (1, .int (nI t)), (2, .int v)]) hx hb dX2_setPriority_5 rfl hl (by decide) rfl (fun ls hl => ?_)
  refine lv_iload_n hx hb dX2_setPriority_6 rfl (lv_at hl 3 rfl) ?_
  refine lv_iconst (v := 0) hx hb dX2_setPriority_7 (by decide) ?_
  refine lv_bipush (v := 9) hx hb dX2_setPriority_8 (by decide) ?_
  exact fk_xcallS (As := [.int v, .int 0, .int 9]) (rest := []) ⟨hx, hb, hml, hown, hts⟩ (kx_requireBetween l D ad cI cT cJ X S hst v 0 9 h) (va_cwS 3 hts gX2_setPriority_X2_requireBetween rfl rfl rfl (by decide +kernel) ⟨Nat.le_of_ble_eq_true rfl, Nat.le_of_ble_eq_true rfl⟩) hK hP hD hS hA hZ rfl hl.1 rfl (Nat.le_of_ble_eq_true rfl) dX2_setPriority_10 ⟨Nat.le_of_ble_eq_true rfl, Nat.le_of_ble_eq_true rfl⟩ (fk_thru hout hlocks hK hD)

set_option maxHeartbeats 4000000 in
set_option maxRecDepth 100000 in
theorem kx_setPriority_3 (l : Launch) (D : va_G) (ad : Nat → Nat) (cI cT cJ : ClassId) (X : va_W) (S : fk_S) (hst : l.stackTraces = false) (t : Nat) (ht : t < 8) (v : Int32) (hm0 : fk_btw v 0 9 = true) (h : S 1 t = 3) : fk_X l D (fk_ty cI cT cJ) yX2_setPriority wsX2_setPriority rx_pub [.ref (ad 0), .int (nI t), .int v] (fk_kW ad cI cT S ++ X) "java/lang/IllegalStateException" := by
  refine fk_X_of (cc := cX2_setPriority) (maxL := 5) (ret := (some .int)) (own := RX2) (by decide) rfl rfl (Nat.le_of_ble_eq_true rfl) ?_
  intro p e s m below meth c A ls hx hb hout hlocks hml hts hown hA hP hK hD hZ hl
  have hS : va_S A s.heap s.heap [] := va_S.rf
  have hl : lv_has ls 5 [(0, .ref (ad 0)), (1, .int (nI t)), (2, .int v)] := hl
  refine lv_aload_n hx hb dX2_setPriority_0 rfl (lv_at hl 0 rfl) ?_
  refine lv_iload_n hx hb dX2_setPriority_1 rfl (lv_at hl 1 rfl) ?_
  refine fk_callV (As := [.int (nI t)]) (rest := []) ⟨hx, hb, hml, hown, hts⟩ (kc_taskOf l D ad cI cT cJ X S t ht) (cwV 1 hts gX2_setPriority_X2_taskOf rfl rfl rfl (by decide +kernel) ⟨Nat.le_of_ble_eq_true rfl, Nat.le_of_ble_eq_true rfl⟩) (fk_rvK hK hP) hK hP hD hS hA rfl hl.1 rfl (Nat.le_of_ble_eq_true rfl) dX2_setPriority_2 ⟨Nat.le_of_ble_eq_true rfl, Nat.le_of_ble_eq_true rfl⟩ (fun H locs hP hD hS => ?_)
  refine W.eq (g2 := F0 m 5 ls [.ref (ad (3 + t))]) rfl ?_
  refine lv_astore_n (lv' := [(3, .ref (ad (3 + t))), (0, .ref (ad 0)), (1, .int (nI t)), (2, .int v)]) hx hb dX2_setPriority_5 rfl hl (by decide) rfl (fun ls hl => ?_)
  refine lv_iload_n hx hb dX2_setPriority_6 rfl (lv_at hl 3 rfl) ?_
  refine lv_iconst (v := 0) hx hb dX2_setPriority_7 (by decide) ?_
  refine lv_bipush (v := 9) hx hb dX2_setPriority_8 (by decide) ?_
  refine fk_callS (As := [.int v, .int 0, .int 9]) (rest := []) ⟨hx, hb, hml, hown, hts⟩ (kc_requireBetween l D ad cI cT cJ X S v 0 9 hm0) (va_cwS 3 hts gX2_setPriority_X2_requireBetween rfl rfl rfl (by decide +kernel) ⟨Nat.le_of_ble_eq_true rfl, Nat.le_of_ble_eq_true rfl⟩) hK hP hD hS hA rfl hl.1 rfl (Nat.le_of_ble_eq_true rfl) dX2_setPriority_10 ⟨Nat.le_of_ble_eq_true rfl, Nat.le_of_ble_eq_true rfl⟩ (fun H locs hP hD hS => ?_)
  refine W.eq (g2 := F0 m 13 ls []) rfl ?_
  refine lv_aload_n hx hb dX2_setPriority_13 rfl (lv_at hl 0 rfl) ?_
  exact fk_xcallS (As := [.ref (ad (3 + t))]) (rest := []) ⟨hx, hb, hml, hown, hts⟩ (kx_requireAlive l D ad cI cT cJ X S hst t ht h) (va_cwS 1 hts gX2_setPriority_X2_requireAlive rfl rfl rfl (by decide +kernel) ⟨Nat.le_of_ble_eq_true rfl, Nat.le_of_ble_eq_true rfl⟩) hK hP hD hS hA hZ rfl hl.1 rfl (Nat.le_of_ble_eq_true rfl) dX2_setPriority_14 ⟨Nat.le_of_ble_eq_true rfl, Nat.le_of_ble_eq_true rfl⟩ (fk_thru hout hlocks hK hD)

abbrev rmX2_setPriority : Room := { frames := 1, cells := 0, slots := 0, locals := 22 }
set_option maxHeartbeats 4000000 in
set_option maxRecDepth 100000 in
theorem kc_setPriority (l : Launch) (D : va_G) (ad : Nat → Nat) (cI cT cJ : ClassId) (X : va_W) (S : fk_S) (t : Nat) (ht : t < 8) (v : Int32) (hm0 : fk_btw v 0 9 = true) (h : ¬ S 1 t = 3) : fk_C l D (fk_ty cI cT cJ) yX2_setPriority wsX2_setPriority rmX2_setPriority [.ref (ad 0), .int (nI t), .int v] (fk_kW ad cI cT S ++ X) (some (.int (S 2 t))) (fk_kW ad cI cT (kk_prio S t v) ++ X) := by
  refine fk_C_of (cc := cX2_setPriority) (maxL := 5) (ret := (some .int)) (own := RX2) (by decide) rfl rfl (Nat.le_of_ble_eq_true rfl) ?_
  intro p e s m below meth c A ls hx hb hr hlocks hml hts hown hA hP hK hD hl
  have hS : va_S A s.heap s.heap [] := va_S.rf
  have hl : lv_has ls 5 [(0, .ref (ad 0)), (1, .int (nI t)), (2, .int v)] := hl
  have hiX1 : ∀ w ∈ u_ws RX1 TX1 11, w ∈ wsX2_setPriority := by decide +kernel
  refine lv_aload_n hx hb dX2_setPriority_0 rfl (lv_at hl 0 rfl) ?_
  refine lv_iload_n hx hb dX2_setPriority_1 rfl (lv_at hl 1 rfl) ?_
  refine fk_callV (As := [.int (nI t)]) (rest := []) ⟨hx, hb, hml, hown, hts⟩ (kc_taskOf l D ad cI cT cJ X S t ht) (cwV 1 hts gX2_setPriority_X2_taskOf rfl rfl rfl (by decide +kernel) ⟨Nat.le_of_ble_eq_true rfl, Nat.le_of_ble_eq_true rfl⟩) (fk_rvK hK hP) hK hP hD hS hA rfl hl.1 rfl (Nat.le_of_ble_eq_true rfl) dX2_setPriority_2 ⟨Nat.le_of_ble_eq_true rfl, Nat.le_of_ble_eq_true rfl⟩ (fun H locs hP hD hS => ?_)
  refine W.eq (g2 := F0 m 5 ls [.ref (ad (3 + t))]) rfl ?_
  refine lv_astore_n (lv' := [(3, .ref (ad (3 + t))), (0, .ref (ad 0)), (1, .int (nI t)), (2, .int v)]) hx hb dX2_setPriority_5 rfl hl (by decide) rfl (fun ls hl => ?_)
  refine lv_iload_n hx hb dX2_setPriority_6 rfl (lv_at hl 3 rfl) ?_
  refine lv_iconst (v := 0) hx hb dX2_setPriority_7 (by decide) ?_
  refine lv_bipush (v := 9) hx hb dX2_setPriority_8 (by decide) ?_
  refine fk_callS (As := [.int v, .int 0, .int 9]) (rest := []) ⟨hx, hb, hml, hown, hts⟩ (kc_requireBetween l D ad cI cT cJ X S v 0 9 hm0) (va_cwS 3 hts gX2_setPriority_X2_requireBetween rfl rfl rfl (by decide +kernel) ⟨Nat.le_of_ble_eq_true rfl, Nat.le_of_ble_eq_true rfl⟩) hK hP hD hS hA rfl hl.1 rfl (Nat.le_of_ble_eq_true rfl) dX2_setPriority_10 ⟨Nat.le_of_ble_eq_true rfl, Nat.le_of_ble_eq_true rfl⟩ (fun H locs hP hD hS => ?_)
  refine W.eq (g2 := F0 m 13 ls []) rfl ?_
  refine lv_aload_n hx hb dX2_setPriority_13 rfl (lv_at hl 0 rfl) ?_
  refine fk_callS (As := [.ref (ad (3 + t))]) (rest := []) ⟨hx, hb, hml, hown, hts⟩ (kc_requireAlive l D ad cI cT cJ X S t ht h) (va_cwS 1 hts gX2_setPriority_X2_requireAlive rfl rfl rfl (by decide +kernel) ⟨Nat.le_of_ble_eq_true rfl, Nat.le_of_ble_eq_true rfl⟩) hK hP hD hS hA rfl hl.1 rfl (Nat.le_of_ble_eq_true rfl) dX2_setPriority_14 ⟨Nat.le_of_ble_eq_true rfl, Nat.le_of_ble_eq_true rfl⟩ (fun H locs hP hD hS => ?_)
  refine W.eq (g2 := F0 m 17 ls []) rfl ?_
  refine lv_aload_n hx hb dX2_setPriority_17 rfl (lv_at hl 0 rfl) ?_
  refine fk_getT hx hb hts hiX1 hown hK hP ht 3 (by decide) (v := .int (S 2 t)) rfl (List.mem_of_getElem? (i := 1) rfl) rfl dX2_setPriority_18 ?_
  refine lv_istore (lv' := [(4, .int (S 2 t)), (3, .ref (ad (3 + t))), (0, .ref (ad 0)), (1, .int (nI t)), (2, .int v)]) hx hb dX2_setPriority_21 hl (by decide) rfl (fun ls hl => ?_)
  refine lv_iload_n hx hb dX2_setPriority_23 rfl (lv_at hl 4 rfl) ?_
  refine lv_iload hx hb dX2_setPriority_24 (lv_at hl 0 rfl) ?_
  refine lv_icmp_eq (tgt := 50) hx hb dX2_setPriority_26 (by decide) (fun c_1 => ?_) (fun c_1 => ?_)
  · refine lv_iload hx hb dX2_setPriority_50 (lv_at hl 0 rfl) ?_
    exact fk_iret hx hb hr hlocks hP hK hD hS (congrArg (fun z => fk_kW ad cI cT z ++ X) (by first | rfl | simp [kk_prio, c_1])) (by rfl) dX2_setPriority_52
  · refine lv_aload_n hx hb dX2_setPriority_29 rfl (lv_at hl 1 rfl) ?_
    refine lv_iload_n hx hb dX2_setPriority_30 rfl (lv_at hl 4 rfl) ?_
    refine fk_putT (v := v) hx hb hts hiX1 hown hK hP hD hS ht 2 (by decide) (by decide) (by simp [fk_fT, fk_up]) (List.mem_of_getElem? (i := 1) rfl) rfl rfl (by decide +kernel) dX2_setPriority_31 (fun H locs hP hD hS => ?_)
    refine lv_aload_n hx hb dX2_setPriority_34 rfl (lv_at hl 1 rfl) ?_
    refine fk_callV (As := []) (rest := []) ⟨hx, hb, hml, hown, hts⟩ (kc_isQueued l D ad cI cT cJ X (fk_up S 2 t v) t ht) (cwV 0 hts gX2_setPriority_X1_isQueued rfl rfl rfl (by decide +kernel) ⟨Nat.le_of_ble_eq_true rfl, Nat.le_of_ble_eq_true rfl⟩) (fk_rvT hK hP ht) hK hP hD hS hA rfl hl.1 rfl (Nat.le_of_ble_eq_true rfl) dX2_setPriority_35 ⟨Nat.le_of_ble_eq_true rfl, Nat.le_of_ble_eq_true rfl⟩ (fun H locs hP hD hS => ?_)
    cases b_2 : kk_q (fk_up S 2 t v) t with
    | true =>
      refine W.eq (g2 := F0 m 38 ls [.int 1]) (by first | rfl | (rw [b_2]; rfl)) ?_
      refine lv_if_eq (tgt := 50) hx hb dX2_setPriority_38 (by decide) (fun c => absurd c (by decide)) (fun _ => ?_)
      refine lv_aload_n hx hb dX2_setPriority_41 rfl (lv_at hl 2 rfl) ?_
      refine lv_aload_n hx hb dX2_setPriority_42 rfl (lv_at hl 1 rfl) ?_
      refine lv_aload_n hx hb dX2_setPriority_43 rfl (lv_at hl 1 rfl) ?_
      refine fk_getT hx hb hts hiX1 hown hK hP ht 4 (by decide) (v := .int (S 3 t)) (by simp [fk_fT, fk_up]) (List.mem_of_getElem? (i := 2) rfl) rfl dX2_setPriority_44 ?_
      refine fk_callV (As := [.ref (ad (3 + t)), .int (S 3 t)]) (rest := []) ⟨hx, hb, hml, hown, hts⟩ (kc_joinQueue l D ad cI cT cJ X (fk_up S 2 t v) t (S 3 t) ht) (cwV 2 hts gX2_setPriority_X2_joinQueue rfl rfl rfl (by decide +kernel) ⟨Nat.le_of_ble_eq_true rfl, Nat.le_of_ble_eq_true rfl⟩) (fk_rvK hK hP) hK hP hD hS hA rfl hl.1 rfl (Nat.le_of_ble_eq_true rfl) dX2_setPriority_47 ⟨Nat.le_of_ble_eq_true rfl, Nat.le_of_ble_eq_true rfl⟩ (fun H locs hP hD hS => ?_)
      refine W.eq (g2 := F0 m 50 ls []) rfl ?_
      refine lv_iload hx hb dX2_setPriority_50 (lv_at hl 0 rfl) ?_
      exact fk_iret hx hb hr hlocks hP hK hD hS (congrArg (fun z => fk_kW ad cI cT z ++ X) (by first | rfl | simp [kk_prio, c_1, b_2])) (by rfl) dX2_setPriority_52
    | false =>
      refine W.eq (g2 := F0 m 38 ls [.int 0]) (by first | rfl | (rw [b_2]; rfl)) ?_
      refine lv_if_eq (tgt := 50) hx hb dX2_setPriority_38 (by decide) (fun _ => ?_) (fun c => absurd c (by decide))
      refine lv_iload hx hb dX2_setPriority_50 (lv_at hl 0 rfl) ?_
      exact fk_iret hx hb hr hlocks hP hK hD hS (congrArg (fun z => fk_kW ad cI cT z ++ X) (by first | rfl | simp [kk_prio, c_1, b_2])) (by rfl) dX2_setPriority_52

set_option maxHeartbeats 4000000 in
set_option maxRecDepth 100000 in
theorem kx_stateOf_1 (l : Launch) (D : va_G) (ad : Nat → Nat) (cI cT cJ : ClassId) (X : va_W) (S : fk_S) (hst : l.stackTraces = false) (th : Int32) (h : fk_isT th = false) : fk_X l D (fk_ty cI cT cJ) yX2_stateOf wsX2_stateOf rx_pub [.ref (ad 0), .int th] (fk_kW ad cI cT S ++ X) "java/lang/IndexOutOfBoundsException" := by
  refine fk_X_of (cc := cX2_stateOf) (maxL := 2) (ret := (some .int)) (own := RX2) (by decide) rfl rfl (Nat.le_of_ble_eq_true rfl) ?_
  intro p e s m below meth c A ls hx hb hout hlocks hml hts hown hA hP hK hD hZ hl
  have hS : va_S A s.heap s.heap [] := va_S.rf
  have hl : lv_has ls 2 [(0, .ref (ad 0)), (1, .int th)] := hl
  refine lv_aload_n hx hb dX2_stateOf_0 rfl (lv_at hl 0 rfl) ?_
  refine lv_iload_n hx hb dX2_stateOf_1 rfl (lv_at hl 1 rfl) ?_
  exact fk_xcallV (As := [.int th]) (rest := []) ⟨hx, hb, hml, hown, hts⟩ (kx_taskOf l D ad cI cT cJ X S hst th h) (cwV 1 hts gX2_stateOf_X2_taskOf rfl rfl rfl (by decide +kernel) ⟨Nat.le_of_ble_eq_true rfl, Nat.le_of_ble_eq_true rfl⟩) (fk_rvK hK hP) hK hP hD hS hA hZ rfl hl.1 rfl (Nat.le_of_ble_eq_true rfl) dX2_stateOf_2 ⟨Nat.le_of_ble_eq_true rfl, Nat.le_of_ble_eq_true rfl⟩ (fk_thru hout hlocks hK hD)

abbrev rmX2_stateOf : Room := { frames := 1, cells := 0, slots := 0, locals := 21 }
set_option maxHeartbeats 4000000 in
set_option maxRecDepth 100000 in
theorem kc_stateOf (l : Launch) (D : va_G) (ad : Nat → Nat) (cI cT cJ : ClassId) (X : va_W) (S : fk_S) (t : Nat) (ht : t < 8) : fk_C l D (fk_ty cI cT cJ) yX2_stateOf wsX2_stateOf rmX2_stateOf [.ref (ad 0), .int (nI t)] (fk_kW ad cI cT S ++ X) (some (.int (S 1 t))) (fk_kW ad cI cT S ++ X) := by
  refine fk_C_of (cc := cX2_stateOf) (maxL := 2) (ret := (some .int)) (own := RX2) (by decide) rfl rfl (Nat.le_of_ble_eq_true rfl) ?_
  intro p e s m below meth c A ls hx hb hr hlocks hml hts hown hA hP hK hD hl
  have hS : va_S A s.heap s.heap [] := va_S.rf
  have hl : lv_has ls 2 [(0, .ref (ad 0)), (1, .int (nI t))] := hl
  have hiX1 : ∀ w ∈ u_ws RX1 TX1 11, w ∈ wsX2_stateOf := by decide +kernel
  refine lv_aload_n hx hb dX2_stateOf_0 rfl (lv_at hl 0 rfl) ?_
  refine lv_iload_n hx hb dX2_stateOf_1 rfl (lv_at hl 1 rfl) ?_
  refine fk_callV (As := [.int (nI t)]) (rest := []) ⟨hx, hb, hml, hown, hts⟩ (kc_taskOf l D ad cI cT cJ X S t ht) (cwV 1 hts gX2_stateOf_X2_taskOf rfl rfl rfl (by decide +kernel) ⟨Nat.le_of_ble_eq_true rfl, Nat.le_of_ble_eq_true rfl⟩) (fk_rvK hK hP) hK hP hD hS hA rfl hl.1 rfl (Nat.le_of_ble_eq_true rfl) dX2_stateOf_2 ⟨Nat.le_of_ble_eq_true rfl, Nat.le_of_ble_eq_true rfl⟩ (fun H locs hP hD hS => ?_)
  refine W.eq (g2 := F0 m 5 ls [.ref (ad (3 + t))]) rfl ?_
  refine fk_getT hx hb hts hiX1 hown hK hP ht 2 (by decide) (v := .int (S 1 t)) rfl (List.mem_of_getElem? (i := 1) rfl) rfl dX2_stateOf_5 ?_
  exact fk_iret hx hb hr hlocks hP hK hD hS (congrArg (fun z => fk_kW ad cI cT z ++ X) (by first | rfl | simp [])) (by rfl) dX2_stateOf_8

set_option maxHeartbeats 4000000 in
set_option maxRecDepth 100000 in
theorem kx_addressOf_1 (l : Launch) (D : va_G) (ad : Nat → Nat) (cI cT cJ : ClassId) (X : va_W) (S : fk_S) (hst : l.stackTraces = false) (th : Int32) (h : fk_isT th = false) : fk_X l D (fk_ty cI cT cJ) yX2_addressOf wsX2_addressOf rx_pub [.ref (ad 0), .int th] (fk_kW ad cI cT S ++ X) "java/lang/IndexOutOfBoundsException" := by
  refine fk_X_of (cc := cX2_addressOf) (maxL := 2) (ret := (some .int)) (own := RX2) (by decide) rfl rfl (Nat.le_of_ble_eq_true rfl) ?_
  intro p e s m below meth c A ls hx hb hout hlocks hml hts hown hA hP hK hD hZ hl
  have hS : va_S A s.heap s.heap [] := va_S.rf
  have hl : lv_has ls 2 [(0, .ref (ad 0)), (1, .int th)] := hl
  refine lv_aload_n hx hb dX2_addressOf_0 rfl (lv_at hl 0 rfl) ?_
  refine lv_iload_n hx hb dX2_addressOf_1 rfl (lv_at hl 1 rfl) ?_
  exact fk_xcallV (As := [.int th]) (rest := []) ⟨hx, hb, hml, hown, hts⟩ (kx_taskOf l D ad cI cT cJ X S hst th h) (cwV 1 hts gX2_addressOf_X2_taskOf rfl rfl rfl (by decide +kernel) ⟨Nat.le_of_ble_eq_true rfl, Nat.le_of_ble_eq_true rfl⟩) (fk_rvK hK hP) hK hP hD hS hA hZ rfl hl.1 rfl (Nat.le_of_ble_eq_true rfl) dX2_addressOf_2 ⟨Nat.le_of_ble_eq_true rfl, Nat.le_of_ble_eq_true rfl⟩ (fk_thru hout hlocks hK hD)

abbrev rmX2_addressOf : Room := { frames := 1, cells := 0, slots := 0, locals := 21 }
set_option maxHeartbeats 4000000 in
set_option maxRecDepth 100000 in
theorem kc_addressOf (l : Launch) (D : va_G) (ad : Nat → Nat) (cI cT cJ : ClassId) (X : va_W) (S : fk_S) (t : Nat) (ht : t < 8) : fk_C l D (fk_ty cI cT cJ) yX2_addressOf wsX2_addressOf rmX2_addressOf [.ref (ad 0), .int (nI t)] (fk_kW ad cI cT S ++ X) (some (.int (S 3 t))) (fk_kW ad cI cT S ++ X) := by
  refine fk_C_of (cc := cX2_addressOf) (maxL := 2) (ret := (some .int)) (own := RX2) (by decide) rfl rfl (Nat.le_of_ble_eq_true rfl) ?_
  intro p e s m below meth c A ls hx hb hr hlocks hml hts hown hA hP hK hD hl
  have hS : va_S A s.heap s.heap [] := va_S.rf
  have hl : lv_has ls 2 [(0, .ref (ad 0)), (1, .int (nI t))] := hl
  have hiX1 : ∀ w ∈ u_ws RX1 TX1 11, w ∈ wsX2_addressOf := by decide +kernel
  refine lv_aload_n hx hb dX2_addressOf_0 rfl (lv_at hl 0 rfl) ?_
  refine lv_iload_n hx hb dX2_addressOf_1 rfl (lv_at hl 1 rfl) ?_
  refine fk_callV (As := [.int (nI t)]) (rest := []) ⟨hx, hb, hml, hown, hts⟩ (kc_taskOf l D ad cI cT cJ X S t ht) (cwV 1 hts gX2_addressOf_X2_taskOf rfl rfl rfl (by decide +kernel) ⟨Nat.le_of_ble_eq_true rfl, Nat.le_of_ble_eq_true rfl⟩) (fk_rvK hK hP) hK hP hD hS hA rfl hl.1 rfl (Nat.le_of_ble_eq_true rfl) dX2_addressOf_2 ⟨Nat.le_of_ble_eq_true rfl, Nat.le_of_ble_eq_true rfl⟩ (fun H locs hP hD hS => ?_)
  refine W.eq (g2 := F0 m 5 ls [.ref (ad (3 + t))]) rfl ?_
  refine fk_getT hx hb hts hiX1 hown hK hP ht 4 (by decide) (v := .int (S 3 t)) rfl (List.mem_of_getElem? (i := 1) rfl) rfl dX2_addressOf_5 ?_
  exact fk_iret hx hb hr hlocks hP hK hD hS (congrArg (fun z => fk_kW ad cI cT z ++ X) (by first | rfl | simp [])) (by rfl) dX2_addressOf_8

set_option maxHeartbeats 4000000 in
set_option maxRecDepth 100000 in
theorem kx_resultOf_1 (l : Launch) (D : va_G) (ad : Nat → Nat) (cI cT cJ : ClassId) (X : va_W) (S : fk_S) (hst : l.stackTraces = false) (th : Int32) (h : fk_isT th = false) : fk_X l D (fk_ty cI cT cJ) yX2_resultOf wsX2_resultOf rx_pub [.ref (ad 0), .int th] (fk_kW ad cI cT S ++ X) "java/lang/IndexOutOfBoundsException" := by
  refine fk_X_of (cc := cX2_resultOf) (maxL := 2) (ret := (some .int)) (own := RX2) (by decide) rfl rfl (Nat.le_of_ble_eq_true rfl) ?_
  intro p e s m below meth c A ls hx hb hout hlocks hml hts hown hA hP hK hD hZ hl
  have hS : va_S A s.heap s.heap [] := va_S.rf
  have hl : lv_has ls 2 [(0, .ref (ad 0)), (1, .int th)] := hl
  refine lv_aload_n hx hb dX2_resultOf_0 rfl (lv_at hl 0 rfl) ?_
  refine lv_iload_n hx hb dX2_resultOf_1 rfl (lv_at hl 1 rfl) ?_
  exact fk_xcallV (As := [.int th]) (rest := []) ⟨hx, hb, hml, hown, hts⟩ (kx_taskOf l D ad cI cT cJ X S hst th h) (cwV 1 hts gX2_resultOf_X2_taskOf rfl rfl rfl (by decide +kernel) ⟨Nat.le_of_ble_eq_true rfl, Nat.le_of_ble_eq_true rfl⟩) (fk_rvK hK hP) hK hP hD hS hA hZ rfl hl.1 rfl (Nat.le_of_ble_eq_true rfl) dX2_resultOf_2 ⟨Nat.le_of_ble_eq_true rfl, Nat.le_of_ble_eq_true rfl⟩ (fk_thru hout hlocks hK hD)

abbrev rmX2_resultOf : Room := { frames := 1, cells := 0, slots := 0, locals := 21 }
set_option maxHeartbeats 4000000 in
set_option maxRecDepth 100000 in
theorem kc_resultOf (l : Launch) (D : va_G) (ad : Nat → Nat) (cI cT cJ : ClassId) (X : va_W) (S : fk_S) (t : Nat) (ht : t < 8) : fk_C l D (fk_ty cI cT cJ) yX2_resultOf wsX2_resultOf rmX2_resultOf [.ref (ad 0), .int (nI t)] (fk_kW ad cI cT S ++ X) (some (.int (S 8 t))) (fk_kW ad cI cT S ++ X) := by
  refine fk_C_of (cc := cX2_resultOf) (maxL := 2) (ret := (some .int)) (own := RX2) (by decide) rfl rfl (Nat.le_of_ble_eq_true rfl) ?_
  intro p e s m below meth c A ls hx hb hr hlocks hml hts hown hA hP hK hD hl
  have hS : va_S A s.heap s.heap [] := va_S.rf
  have hl : lv_has ls 2 [(0, .ref (ad 0)), (1, .int (nI t))] := hl
  have hiX1 : ∀ w ∈ u_ws RX1 TX1 11, w ∈ wsX2_resultOf := by decide +kernel
  refine lv_aload_n hx hb dX2_resultOf_0 rfl (lv_at hl 0 rfl) ?_
  refine lv_iload_n hx hb dX2_resultOf_1 rfl (lv_at hl 1 rfl) ?_
  refine fk_callV (As := [.int (nI t)]) (rest := []) ⟨hx, hb, hml, hown, hts⟩ (kc_taskOf l D ad cI cT cJ X S t ht) (cwV 1 hts gX2_resultOf_X2_taskOf rfl rfl rfl (by decide +kernel) ⟨Nat.le_of_ble_eq_true rfl, Nat.le_of_ble_eq_true rfl⟩) (fk_rvK hK hP) hK hP hD hS hA rfl hl.1 rfl (Nat.le_of_ble_eq_true rfl) dX2_resultOf_2 ⟨Nat.le_of_ble_eq_true rfl, Nat.le_of_ble_eq_true rfl⟩ (fun H locs hP hD hS => ?_)
  refine W.eq (g2 := F0 m 5 ls [.ref (ad (3 + t))]) rfl ?_
  refine fk_getT hx hb hts hiX1 hown hK hP ht 9 (by decide) (v := .int (S 8 t)) rfl (List.mem_of_getElem? (i := 1) rfl) rfl dX2_resultOf_5 ?_
  exact fk_iret hx hb hr hlocks hP hK hD hS (congrArg (fun z => fk_kW ad cI cT z ++ X) (by first | rfl | simp [])) (by rfl) dX2_resultOf_8

set_option maxHeartbeats 4000000 in
set_option maxRecDepth 100000 in
theorem kx_serialOf_1 (l : Launch) (D : va_G) (ad : Nat → Nat) (cI cT cJ : ClassId) (X : va_W) (S : fk_S) (hst : l.stackTraces = false) (th : Int32) (h : fk_isT th = false) : fk_X l D (fk_ty cI cT cJ) yX2_serialOf wsX2_serialOf rx_pub [.ref (ad 0), .int th] (fk_kW ad cI cT S ++ X) "java/lang/IndexOutOfBoundsException" := by
  refine fk_X_of (cc := cX2_serialOf) (maxL := 2) (ret := (some .int)) (own := RX2) (by decide) rfl rfl (Nat.le_of_ble_eq_true rfl) ?_
  intro p e s m below meth c A ls hx hb hout hlocks hml hts hown hA hP hK hD hZ hl
  have hS : va_S A s.heap s.heap [] := va_S.rf
  have hl : lv_has ls 2 [(0, .ref (ad 0)), (1, .int th)] := hl
  refine lv_aload_n hx hb dX2_serialOf_0 rfl (lv_at hl 0 rfl) ?_
  refine lv_iload_n hx hb dX2_serialOf_1 rfl (lv_at hl 1 rfl) ?_
  exact fk_xcallV (As := [.int th]) (rest := []) ⟨hx, hb, hml, hown, hts⟩ (kx_taskOf l D ad cI cT cJ X S hst th h) (cwV 1 hts gX2_serialOf_X2_taskOf rfl rfl rfl (by decide +kernel) ⟨Nat.le_of_ble_eq_true rfl, Nat.le_of_ble_eq_true rfl⟩) (fk_rvK hK hP) hK hP hD hS hA hZ rfl hl.1 rfl (Nat.le_of_ble_eq_true rfl) dX2_serialOf_2 ⟨Nat.le_of_ble_eq_true rfl, Nat.le_of_ble_eq_true rfl⟩ (fk_thru hout hlocks hK hD)

abbrev rmX2_serialOf : Room := { frames := 1, cells := 0, slots := 0, locals := 21 }
set_option maxHeartbeats 4000000 in
set_option maxRecDepth 100000 in
theorem kc_serialOf (l : Launch) (D : va_G) (ad : Nat → Nat) (cI cT cJ : ClassId) (X : va_W) (S : fk_S) (t : Nat) (ht : t < 8) : fk_C l D (fk_ty cI cT cJ) yX2_serialOf wsX2_serialOf rmX2_serialOf [.ref (ad 0), .int (nI t)] (fk_kW ad cI cT S ++ X) (some (.int (S 9 t))) (fk_kW ad cI cT S ++ X) := by
  refine fk_C_of (cc := cX2_serialOf) (maxL := 2) (ret := (some .int)) (own := RX2) (by decide) rfl rfl (Nat.le_of_ble_eq_true rfl) ?_
  intro p e s m below meth c A ls hx hb hr hlocks hml hts hown hA hP hK hD hl
  have hS : va_S A s.heap s.heap [] := va_S.rf
  have hl : lv_has ls 2 [(0, .ref (ad 0)), (1, .int (nI t))] := hl
  have hiX1 : ∀ w ∈ u_ws RX1 TX1 11, w ∈ wsX2_serialOf := by decide +kernel
  refine lv_aload_n hx hb dX2_serialOf_0 rfl (lv_at hl 0 rfl) ?_
  refine lv_iload_n hx hb dX2_serialOf_1 rfl (lv_at hl 1 rfl) ?_
  refine fk_callV (As := [.int (nI t)]) (rest := []) ⟨hx, hb, hml, hown, hts⟩ (kc_taskOf l D ad cI cT cJ X S t ht) (cwV 1 hts gX2_serialOf_X2_taskOf rfl rfl rfl (by decide +kernel) ⟨Nat.le_of_ble_eq_true rfl, Nat.le_of_ble_eq_true rfl⟩) (fk_rvK hK hP) hK hP hD hS hA rfl hl.1 rfl (Nat.le_of_ble_eq_true rfl) dX2_serialOf_2 ⟨Nat.le_of_ble_eq_true rfl, Nat.le_of_ble_eq_true rfl⟩ (fun H locs hP hD hS => ?_)
  refine W.eq (g2 := F0 m 5 ls [.ref (ad (3 + t))]) rfl ?_
  refine fk_getT hx hb hts hiX1 hown hK hP ht 10 (by decide) (v := .int (S 9 t)) rfl (List.mem_of_getElem? (i := 1) rfl) rfl dX2_serialOf_5 ?_
  exact fk_iret hx hb hr hlocks hP hK hD hS (congrArg (fun z => fk_kW ad cI cT z ++ X) (by first | rfl | simp [])) (by rfl) dX2_serialOf_8

abbrev rmX2_now : Room := { frames := 0, cells := 0, slots := 0, locals := 0 }
set_option maxHeartbeats 4000000 in
set_option maxRecDepth 100000 in
theorem kc_now (l : Launch) (D : va_G) (ad : Nat → Nat) (cI cT cJ : ClassId) (X : va_W) (S : fk_S)  : fk_C l D (fk_ty cI cT cJ) yX2_now wsX2_now rmX2_now [.ref (ad 0)] (fk_kW ad cI cT S ++ X) (some (.int (S 12 0))) (fk_kW ad cI cT S ++ X) := by
  refine fk_C_of (cc := cX2_now) (maxL := 1) (ret := (some .int)) (own := RX2) (by decide) rfl rfl (Nat.le_of_ble_eq_true rfl) ?_
  intro p e s m below meth c A ls hx hb hr hlocks hml hts hown hA hP hK hD hl
  have hS : va_S A s.heap s.heap [] := va_S.rf
  have hl : lv_has ls 1 [(0, .ref (ad 0))] := hl
  have hiX2 : ∀ w ∈ u_ws RX2 TX2 6, w ∈ wsX2_now := by decide +kernel
  refine lv_aload_n hx hb dX2_now_0 rfl (lv_at hl 0 rfl) ?_
  refine fk_getK hx hb hts hiX2 hown hK hP 2 (by decide) (v := .int (S 12 0)) rfl (List.mem_of_getElem? (i := 1) rfl) rfl dX2_now_1 ?_
  exact fk_iret hx hb hr hlocks hP hK hD hS (congrArg (fun z => fk_kW ad cI cT z ++ X) (by first | rfl | simp [])) (by rfl) dX2_now_4

abbrev rmX2_nextTimeout : Room := { frames := 2, cells := 0, slots := 0, locals := 46 }
set_option maxHeartbeats 4000000 in
set_option maxRecDepth 100000 in
theorem kc_nextTimeout (l : Launch) (D : va_G) (ad : Nat → Nat) (cI cT cJ : ClassId) (X : va_W) (S : fk_S)  : fk_C l D (fk_ty cI cT cJ) yX2_nextTimeout wsX2_nextTimeout rmX2_nextTimeout [.ref (ad 0)] (fk_kW ad cI cT S ++ X) (some (.int (kk_nextR S))) (fk_kW ad cI cT S ++ X) := by
  refine fk_C_of (cc := cX2_nextTimeout) (maxL := 2) (ret := (some .int)) (own := RX2) (by decide) rfl rfl (Nat.le_of_ble_eq_true rfl) ?_
  intro p e s m below meth c A ls hx hb hr hlocks hml hts hown hA hP hK hD hl
  have hS : va_S A s.heap s.heap [] := va_S.rf
  have hl : lv_has ls 2 [(0, .ref (ad 0))] := hl
  have hiX1 : ∀ w ∈ u_ws RX1 TX1 11, w ∈ wsX2_nextTimeout := by decide +kernel
  have hiX2 : ∀ w ∈ u_ws RX2 TX2 6, w ∈ wsX2_nextTimeout := by decide +kernel
  refine lv_aload_n hx hb dX2_nextTimeout_0 rfl (lv_at hl 0 rfl) ?_
  refine fk_callV (As := []) (rest := []) ⟨hx, hb, hml, hown, hts⟩ (kc_firstToTimeOut l D ad cI cT cJ X S) (cwV 0 hts gX2_nextTimeout_X2_firstToTimeOut rfl rfl rfl (by decide +kernel) ⟨Nat.le_of_ble_eq_true rfl, Nat.le_of_ble_eq_true rfl⟩) (fk_rvK hK hP) hK hP hD hS hA rfl hl.1 rfl (Nat.le_of_ble_eq_true rfl) dX2_nextTimeout_1 ⟨Nat.le_of_ble_eq_true rfl, Nat.le_of_ble_eq_true rfl⟩ (fun H locs hP hD hS => ?_)
  rcases o_1 : kk_next S with _ | u2
  · refine W.eq (g2 := F0 m 4 ls [.null]) (by first | rfl | (rw [o_1]; rfl)) ?_
    refine lv_astore_nN (lv' := [(1, .null), (0, .ref (ad 0))]) hx hb dX2_nextTimeout_4 rfl hl (by decide) rfl (fun ls hl => ?_)
    refine lv_aload_nN hx hb dX2_nextTimeout_5 rfl (lv_at hl 0 rfl) ?_
    refine lv_ifnonnullN hx hb dX2_nextTimeout_6 ?_
    refine lv_iconst (v := (-1)) hx hb dX2_nextTimeout_9 (by decide) ?_
    refine lv_goto (tgt := 22) hx hb dX2_nextTimeout_10 (by decide) ?_
    exact fk_iret hx hb hr hlocks hP hK hD hS (congrArg (fun z => fk_kW ad cI cT z ++ X) (by first | rfl | simp [o_1])) (by first | rfl | simp [kk_nextR, o_1]) dX2_nextTimeout_22
  · have hu_3 : u2 < 8 := kk_next_lt o_1
    refine W.eq (g2 := F0 m 4 ls [.ref (ad (3 + u2))]) (by first | rfl | (rw [o_1]; rfl)) ?_
    refine lv_astore_n (lv' := [(1, .ref (ad (3 + u2))), (0, .ref (ad 0))]) hx hb dX2_nextTimeout_4 rfl hl (by decide) rfl (fun ls hl => ?_)
    refine lv_aload_n hx hb dX2_nextTimeout_5 rfl (lv_at hl 0 rfl) ?_
    refine lv_ifnonnull (tgt := 13) hx hb dX2_nextTimeout_6 (by decide) ?_
    refine lv_aload_n hx hb dX2_nextTimeout_13 rfl (lv_at hl 0 rfl) ?_
    refine fk_getT hx hb hts hiX1 hown hK hP hu_3 6 (by decide) (v := .int (S 5 u2)) rfl (List.mem_of_getElem? (i := 1) rfl) rfl dX2_nextTimeout_14 ?_
    refine lv_aload_n hx hb dX2_nextTimeout_17 rfl (lv_at hl 1 rfl) ?_
    refine fk_getK hx hb hts hiX2 hown hK hP 2 (by decide) (v := .int (S 12 0)) rfl (List.mem_of_getElem? (i := 2) rfl) rfl dX2_nextTimeout_18 ?_
    refine lv_isub hx hb dX2_nextTimeout_21 ?_
    exact fk_iret hx hb hr hlocks hP hK hD hS (congrArg (fun z => fk_kW ad cI cT z ++ X) (by first | rfl | simp [o_1])) (by first | rfl | simp [kk_nextR, o_1]) dX2_nextTimeout_22
