set_option maxHeartbeats 4000000 in
set_option maxRecDepth 100000 in
theorem kx_store_1 (l : Launch) (D : va_G) (ad : Nat → Nat) (cI cT cJ : ClassId) (X : va_W) (S : fk_S) (hst : l.stackTraces = false) (th av : Int32) (v : Int32) (h : fk_isT th = false) : fk_X l D (fk_ty cI cT cJ) yX2_store wsX2_store rx_pub [.ref (ad 0), .int th, .int av, .int v] (fk_kW ad cI cT S ++ X) "java/lang/IndexOutOfBoundsException" := by
  refine fk_X_of (cc := cX2_store) (maxL := 6) (ret := (some .int)) (own := RX2) (by decide) rfl rfl (Nat.le_of_ble_eq_true rfl) ?_
  intro p e s m below meth c A ls hx hb hout hlocks hml hts hown hA hP hK hD hZ hl
  have hS : va_S A s.heap s.heap [] := va_S.rf
  have hl : lv_has ls 6 [(0, .ref (ad 0)), (1, .int th), (2, .int av), (3, .int v)] := hl
  refine lv_aload_n hx hb dX2_store_0 rfl (lv_at hl 0 rfl) ?_
  refine lv_iload_n hx hb dX2_store_1 rfl (lv_at hl 1 rfl) ?_
  exact fk_xcallV (As := [.int th]) (rest := []) ⟨hx, hb, hml, hown, hts⟩ (kx_taskOf l D ad cI cT cJ X S hst th h) (cwV 1 hts gX2_store_X2_taskOf rfl rfl rfl (by decide +kernel) ⟨Nat.le_of_ble_eq_true rfl, Nat.le_of_ble_eq_true rfl⟩) (fk_rvK hK hP) hK hP hD hS hA hZ rfl hl.1 rfl (Nat.le_of_ble_eq_true rfl) dX2_store_2 ⟨Nat.le_of_ble_eq_true rfl, Nat.le_of_ble_eq_true rfl⟩ (fk_thru hout hlocks hK hD)

set_option maxHeartbeats 4000000 in
set_option maxRecDepth 100000 in
theorem kx_store_2 (l : Launch) (D : va_G) (ad : Nat → Nat) (cI cT cJ : ClassId) (X : va_W) (S : fk_S) (hst : l.stackTraces = false) (t : Nat) (ht : t < 8) (av : Int32) (v : Int32) (h : fk_isA av = false) : fk_X l D (fk_ty cI cT cJ) yX2_store wsX2_store rx_pub [.ref (ad 0), .int (nI t), .int av, .int v] (fk_kW ad cI cT S ++ X) "java/lang/IndexOutOfBoundsException" := by
  refine fk_X_of (cc := cX2_store) (maxL := 6) (ret := (some .int)) (own := RX2) (by decide) rfl rfl (Nat.le_of_ble_eq_true rfl) ?_
  intro p e s m below meth c A ls hx hb hout hlocks hml hts hown hA hP hK hD hZ hl
  have hS : va_S A s.heap s.heap [] := va_S.rf
  have hl : lv_has ls 6 [(0, .ref (ad 0)), (1, .int (nI t)), (2, .int av), (3, .int v)] := hl
  refine lv_aload_n hx hb dX2_store_0 rfl (lv_at hl 0 rfl) ?_
  refine lv_iload_n hx hb dX2_store_1 rfl (lv_at hl 1 rfl) ?_
  refine fk_callV (As := [.int (nI t)]) (rest := []) ⟨hx, hb, hml, hown, hts⟩ (kc_taskOf l D ad cI cT cJ X S t ht) (cwV 1 hts gX2_store_X2_taskOf rfl rfl rfl (by decide +kernel) ⟨Nat.le_of_ble_eq_true rfl, Nat.le_of_ble_eq_true rfl⟩) (fk_rvK hK hP) hK hP hD hS hA rfl hl.1 rfl (Nat.le_of_ble_eq_true rfl) dX2_store_2 ⟨Nat.le_of_ble_eq_true rfl, Nat.le_of_ble_eq_true rfl⟩ (fun H locs hP hD hS => ?_)
  refine W.eq (g2 := F0 m 5 ls [.ref (ad (3 + t))]) rfl ?_
  refine lv_astore (lv' := [(4, .ref (ad (3 + t))), (0, .ref (ad 0)), (1, .int (nI t)), (2, .int av), (3, .int v)]) hx hb dX2_store_5 hl (by decide) rfl (fun ls hl => ?_)
  refine lv_iload_n hx hb dX2_store_7 rfl (lv_at hl 3 rfl) ?_
  exact fk_xcallS (As := [.int av]) (rest := []) ⟨hx, hb, hml, hown, hts⟩ (kx_requireAddress l D ad cI cT cJ X S hst av h) (va_cwS 1 hts gX2_store_X2_requireAddress rfl rfl rfl (by decide +kernel) ⟨Nat.le_of_ble_eq_true rfl, Nat.le_of_ble_eq_true rfl⟩) hK hP hD hS hA hZ rfl hl.1 rfl (Nat.le_of_ble_eq_true rfl) dX2_store_8 ⟨Nat.le_of_ble_eq_true rfl, Nat.le_of_ble_eq_true rfl⟩ (fk_thru hout hlocks hK hD)

set_option maxHeartbeats 4000000 in
set_option maxRecDepth 100000 in
theorem kx_store_3 (l : Launch) (D : va_G) (ad : Nat → Nat) (cI cT cJ : ClassId) (X : va_W) (S : fk_S) (hst : l.stackTraces = false) (t : Nat) (ht : t < 8) (a : Nat) (ha : a < 16) (v : Int32)  (h : ¬ S 1 t = 0) : fk_X l D (fk_ty cI cT cJ) yX2_store wsX2_store rx_pub [.ref (ad 0), .int (nI t), .int (nI a), .int v] (fk_kW ad cI cT S ++ X) "java/lang/IllegalStateException" := by
  refine fk_X_of (cc := cX2_store) (maxL := 6) (ret := (some .int)) (own := RX2) (by decide) rfl rfl (Nat.le_of_ble_eq_true rfl) ?_
  intro p e s m below meth c A ls hx hb hout hlocks hml hts hown hA hP hK hD hZ hl
  have hS : va_S A s.heap s.heap [] := va_S.rf
  have hl : lv_has ls 6 [(0, .ref (ad 0)), (1, .int (nI t)), (2, .int (nI a)), (3, .int v)] := hl
  refine lv_aload_n hx hb dX2_store_0 rfl (lv_at hl 0 rfl) ?_
  refine lv_iload_n hx hb dX2_store_1 rfl (lv_at hl 1 rfl) ?_
  refine fk_callV (As := [.int (nI t)]) (rest := []) ⟨hx, hb, hml, hown, hts⟩ (kc_taskOf l D ad cI cT cJ X S t ht) (cwV 1 hts gX2_store_X2_taskOf rfl rfl rfl (by decide +kernel) ⟨Nat.le_of_ble_eq_true rfl, Nat.le_of_ble_eq_true rfl⟩) (fk_rvK hK hP) hK hP hD hS hA rfl hl.1 rfl (Nat.le_of_ble_eq_true rfl) dX2_store_2 ⟨Nat.le_of_ble_eq_true rfl, Nat.le_of_ble_eq_true rfl⟩ (fun H locs hP hD hS => ?_)
  refine W.eq (g2 := F0 m 5 ls [.ref (ad (3 + t))]) rfl ?_
  refine lv_astore (lv' := [(4, .ref (ad (3 + t))), (0, .ref (ad 0)), (1, .int (nI t)), (2, .int (nI a)), (3, .int v)]) hx hb dX2_store_5 hl (by decide) rfl (fun ls hl => ?_)
  refine lv_iload_n hx hb dX2_store_7 rfl (lv_at hl 3 rfl) ?_
  refine fk_callS (As := [.int (nI a)]) (rest := []) ⟨hx, hb, hml, hown, hts⟩ (kc_requireAddress l D ad cI cT cJ X S a (by omega)) (va_cwS 1 hts gX2_store_X2_requireAddress rfl rfl rfl (by decide +kernel) ⟨Nat.le_of_ble_eq_true rfl, Nat.le_of_ble_eq_true rfl⟩) hK hP hD hS hA rfl hl.1 rfl (Nat.le_of_ble_eq_true rfl) dX2_store_8 ⟨Nat.le_of_ble_eq_true rfl, Nat.le_of_ble_eq_true rfl⟩ (fun H locs hP hD hS => ?_)
  refine W.eq (g2 := F0 m 11 ls []) rfl ?_
  refine lv_aload hx hb dX2_store_11 (lv_at hl 0 rfl) ?_
  exact fk_xcallS (As := [.ref (ad (3 + t))]) (rest := []) ⟨hx, hb, hml, hown, hts⟩ (kx_requireRunning l D ad cI cT cJ X S hst t ht h) (va_cwS 1 hts gX2_store_X2_requireRunning rfl rfl rfl (by decide +kernel) ⟨Nat.le_of_ble_eq_true rfl, Nat.le_of_ble_eq_true rfl⟩) hK hP hD hS hA hZ rfl hl.1 rfl (Nat.le_of_ble_eq_true rfl) dX2_store_13 ⟨Nat.le_of_ble_eq_true rfl, Nat.le_of_ble_eq_true rfl⟩ (fk_thru hout hlocks hK hD)

abbrev rmX2_store : Room := { frames := 2, cells := 0, slots := 0, locals := 40 }
set_option maxHeartbeats 4000000 in
set_option maxRecDepth 100000 in
theorem kc_store (l : Launch) (D : va_G) (ad : Nat → Nat) (cI cT cJ : ClassId) (X : va_W) (S : fk_S) (t : Nat) (ht : t < 8) (a : Nat) (ha : a < 16) (v : Int32) (hr0 : S 1 t = 0)  : fk_C l D (fk_ty cI cT cJ) yX2_store wsX2_store rmX2_store [.ref (ad 0), .int (nI t), .int (nI a), .int v] (fk_kW ad cI cT S ++ X) (some (.int (S 0 a))) (fk_kW ad cI cT (fk_up S 0 a v) ++ X) := by
  refine fk_C_of (cc := cX2_store) (maxL := 6) (ret := (some .int)) (own := RX2) (by decide) rfl rfl (Nat.le_of_ble_eq_true rfl) ?_
  intro p e s m below meth c A ls hx hb hr hlocks hml hts hown hA hP hK hD hl
  have hS : va_S A s.heap s.heap [] := va_S.rf
  have hl : lv_has ls 6 [(0, .ref (ad 0)), (1, .int (nI t)), (2, .int (nI a)), (3, .int v)] := hl
  have hiX2 : ∀ w ∈ u_ws RX2 TX2 6, w ∈ wsX2_store := by decide +kernel
  refine lv_aload_n hx hb dX2_store_0 rfl (lv_at hl 0 rfl) ?_
  refine lv_iload_n hx hb dX2_store_1 rfl (lv_at hl 1 rfl) ?_
  refine fk_callV (As := [.int (nI t)]) (rest := []) ⟨hx, hb, hml, hown, hts⟩ (kc_taskOf l D ad cI cT cJ X S t ht) (cwV 1 hts gX2_store_X2_taskOf rfl rfl rfl (by decide +kernel) ⟨Nat.le_of_ble_eq_true rfl, Nat.le_of_ble_eq_true rfl⟩) (fk_rvK hK hP) hK hP hD hS hA rfl hl.1 rfl (Nat.le_of_ble_eq_true rfl) dX2_store_2 ⟨Nat.le_of_ble_eq_true rfl, Nat.le_of_ble_eq_true rfl⟩ (fun H locs hP hD hS => ?_)
  refine W.eq (g2 := F0 m 5 ls [.ref (ad (3 + t))]) rfl ?_
  refine lv_astore (lv' := [(4, .ref (ad (3 + t))), (0, .ref (ad 0)), (1, .int (nI t)), (2, .int (nI a)), (3, .int v)]) hx hb dX2_store_5 hl (by decide) rfl (fun ls hl => ?_)
  refine lv_iload_n hx hb dX2_store_7 rfl (lv_at hl 3 rfl) ?_
  refine fk_callS (As := [.int (nI a)]) (rest := []) ⟨hx, hb, hml, hown, hts⟩ (kc_requireAddress l D ad cI cT cJ X S a (by omega)) (va_cwS 1 hts gX2_store_X2_requireAddress rfl rfl rfl (by decide +kernel) ⟨Nat.le_of_ble_eq_true rfl, Nat.le_of_ble_eq_true rfl⟩) hK hP hD hS hA rfl hl.1 rfl (Nat.le_of_ble_eq_true rfl) dX2_store_8 ⟨Nat.le_of_ble_eq_true rfl, Nat.le_of_ble_eq_true rfl⟩ (fun H locs hP hD hS => ?_)
  refine W.eq (g2 := F0 m 11 ls []) rfl ?_
  refine lv_aload hx hb dX2_store_11 (lv_at hl 0 rfl) ?_
  refine fk_callS (As := [.ref (ad (3 + t))]) (rest := []) ⟨hx, hb, hml, hown, hts⟩ (kc_requireRunning l D ad cI cT cJ X S t ht hr0) (va_cwS 1 hts gX2_store_X2_requireRunning rfl rfl rfl (by decide +kernel) ⟨Nat.le_of_ble_eq_true rfl, Nat.le_of_ble_eq_true rfl⟩) hK hP hD hS hA rfl hl.1 rfl (Nat.le_of_ble_eq_true rfl) dX2_store_13 ⟨Nat.le_of_ble_eq_true rfl, Nat.le_of_ble_eq_true rfl⟩ (fun H locs hP hD hS => ?_)
  refine W.eq (g2 := F0 m 16 ls []) rfl ?_
  refine lv_aload_n hx hb dX2_store_16 rfl (lv_at hl 1 rfl) ?_
  refine fk_getK hx hb hts hiX2 hown hK hP 0 (by decide) (v := .ref (ad 1)) rfl (List.mem_of_getElem? (i := 1) rfl) rfl dX2_store_17 ?_
  refine lv_iload_n hx hb dX2_store_20 rfl (lv_at hl 3 rfl) ?_
  refine fk_ldW hx hb hK hP (vp_in_nI (show a < 16 from (by omega)) (by decide)) dX2_store_21 ?_
  refine W.eq (g2 := F0 m 22 ls [.int (S 0 a)]) (by rw [nI_clamp (by omega)]) ?_
  refine lv_istore (lv' := [(5, .int (S 0 a)), (4, .ref (ad (3 + t))), (0, .ref (ad 0)), (1, .int (nI t)), (2, .int (nI a)), (3, .int v)]) hx hb dX2_store_22 hl (by decide) rfl (fun ls hl => ?_)
  refine lv_aload_n hx hb dX2_store_24 rfl (lv_at hl 2 rfl) ?_
  refine fk_getK hx hb hts hiX2 hown hK hP 0 (by decide) (v := .ref (ad 1)) rfl (List.mem_of_getElem? (i := 1) rfl) rfl dX2_store_25 ?_
  refine lv_iload_n hx hb dX2_store_28 rfl (lv_at hl 4 rfl) ?_
  refine lv_iload_n hx hb dX2_store_29 rfl (lv_at hl 5 rfl) ?_
  refine fk_stW hx hb hK hP hD hS (vp_in_nI (show a < 16 from (by omega)) (by decide)) dX2_store_30 (fun H locs hP hD hS => ?_)
  rw [show ((nI a)).toNatClampNeg = a from nI_clamp (n := a) (by omega)] at hP hD
  refine lv_iload hx hb dX2_store_31 (lv_at hl 0 rfl) ?_
  exact fk_iret hx hb hr hlocks hP hK hD hS (congrArg (fun z => fk_kW ad cI cT z ++ X) (by first | rfl | simp [])) (by rfl) dX2_store_33

set_option maxHeartbeats 4000000 in
set_option maxRecDepth 100000 in
theorem kx_compareAndSet_1 (l : Launch) (D : va_G) (ad : Nat → Nat) (cI cT cJ : ClassId) (X : va_W) (S : fk_S) (hst : l.stackTraces = false) (th av : Int32) (x v : Int32) (h : fk_isT th = false) : fk_X l D (fk_ty cI cT cJ) yX2_compareAndSet wsX2_compareAndSet rx_pub [.ref (ad 0), .int th, .int av, .int x, .int v] (fk_kW ad cI cT S ++ X) "java/lang/IndexOutOfBoundsException" := by
  refine fk_X_of (cc := cX2_compareAndSet) (maxL := 6) (ret := (some .boolean)) (own := RX2) (by decide) rfl rfl (Nat.le_of_ble_eq_true rfl) ?_
  intro p e s m below meth c A ls hx hb hout hlocks hml hts hown hA hP hK hD hZ hl
  have hS : va_S A s.heap s.heap [] := va_S.rf
  have hl : lv_has ls 6 [(0, .ref (ad 0)), (1, .int th), (2, .int av), (3, .int x), (4, .int v)] := hl
  refine lv_aload_n hx hb dX2_compareAndSet_0 rfl (lv_at hl 0 rfl) ?_
  refine lv_iload_n hx hb dX2_compareAndSet_1 rfl (lv_at hl 1 rfl) ?_
  exact fk_xcallV (As := [.int th]) (rest := []) ⟨hx, hb, hml, hown, hts⟩ (kx_taskOf l D ad cI cT cJ X S hst th h) (cwV 1 hts gX2_compareAndSet_X2_taskOf rfl rfl rfl (by decide +kernel) ⟨Nat.le_of_ble_eq_true rfl, Nat.le_of_ble_eq_true rfl⟩) (fk_rvK hK hP) hK hP hD hS hA hZ rfl hl.1 rfl (Nat.le_of_ble_eq_true rfl) dX2_compareAndSet_2 ⟨Nat.le_of_ble_eq_true rfl, Nat.le_of_ble_eq_true rfl⟩ (fk_thru hout hlocks hK hD)

set_option maxHeartbeats 4000000 in
set_option maxRecDepth 100000 in
theorem kx_compareAndSet_2 (l : Launch) (D : va_G) (ad : Nat → Nat) (cI cT cJ : ClassId) (X : va_W) (S : fk_S) (hst : l.stackTraces = false) (t : Nat) (ht : t < 8) (av : Int32) (x v : Int32) (h : fk_isA av = false) : fk_X l D (fk_ty cI cT cJ) yX2_compareAndSet wsX2_compareAndSet rx_pub [.ref (ad 0), .int (nI t), .int av, .int x, .int v] (fk_kW ad cI cT S ++ X) "java/lang/IndexOutOfBoundsException" := by
  refine fk_X_of (cc := cX2_compareAndSet) (maxL := 6) (ret := (some .boolean)) (own := RX2) (by decide) rfl rfl (Nat.le_of_ble_eq_true rfl) ?_
  intro p e s m below meth c A ls hx hb hout hlocks hml hts hown hA hP hK hD hZ hl
  have hS : va_S A s.heap s.heap [] := va_S.rf
  have hl : lv_has ls 6 [(0, .ref (ad 0)), (1, .int (nI t)), (2, .int av), (3, .int x), (4, .int v)] := hl
  refine lv_aload_n hx hb dX2_compareAndSet_0 rfl (lv_at hl 0 rfl) ?_
  refine lv_iload_n hx hb dX2_compareAndSet_1 rfl (lv_at hl 1 rfl) ?_
  refine fk_callV (As := [.int (nI t)]) (rest := []) ⟨hx, hb, hml, hown, hts⟩ (kc_taskOf l D ad cI cT cJ X S t ht) (cwV 1 hts gX2_compareAndSet_X2_taskOf rfl rfl rfl (by decide +kernel) ⟨Nat.le_of_ble_eq_true rfl, Nat.le_of_ble_eq_true rfl⟩) (fk_rvK hK hP) hK hP hD hS hA rfl hl.1 rfl (Nat.le_of_ble_eq_true rfl) dX2_compareAndSet_2 ⟨Nat.le_of_ble_eq_true rfl, Nat.le_of_ble_eq_true rfl⟩ (fun H locs hP hD hS => ?_)
  refine W.eq (g2 := F0 m 5 ls [.ref (ad (3 + t))]) rfl ?_
  refine lv_astore (lv' := [(5, .ref (ad (3 + t))), (0, .ref (ad 0)), (1, .int (nI t)), (2, .int av), (3, .int x), (4, .int v)]) hx hb dX2_compareAndSet_5 hl (by decide) rfl (fun ls hl => ?_)
  refine lv_iload_n hx hb dX2_compareAndSet_7 rfl (lv_at hl 3 rfl) ?_
  exact fk_xcallS (As := [.int av]) (rest := []) ⟨hx, hb, hml, hown, hts⟩ (kx_requireAddress l D ad cI cT cJ X S hst av h) (va_cwS 1 hts gX2_compareAndSet_X2_requireAddress rfl rfl rfl (by decide +kernel) ⟨Nat.le_of_ble_eq_true rfl, Nat.le_of_ble_eq_true rfl⟩) hK hP hD hS hA hZ rfl hl.1 rfl (Nat.le_of_ble_eq_true rfl) dX2_compareAndSet_8 ⟨Nat.le_of_ble_eq_true rfl, Nat.le_of_ble_eq_true rfl⟩ (fk_thru hout hlocks hK hD)

set_option maxHeartbeats 4000000 in
set_option maxRecDepth 100000 in
theorem kx_compareAndSet_3 (l : Launch) (D : va_G) (ad : Nat → Nat) (cI cT cJ : ClassId) (X : va_W) (S : fk_S) (hst : l.stackTraces = false) (t : Nat) (ht : t < 8) (a : Nat) (ha : a < 16) (x v : Int32)  (h : ¬ S 1 t = 0) : fk_X l D (fk_ty cI cT cJ) yX2_compareAndSet wsX2_compareAndSet rx_pub [.ref (ad 0), .int (nI t), .int (nI a), .int x, .int v] (fk_kW ad cI cT S ++ X) "java/lang/IllegalStateException" := by
  refine fk_X_of (cc := cX2_compareAndSet) (maxL := 6) (ret := (some .boolean)) (own := RX2) (by decide) rfl rfl (Nat.le_of_ble_eq_true rfl) ?_
  intro p e s m below meth c A ls hx hb hout hlocks hml hts hown hA hP hK hD hZ hl
  have hS : va_S A s.heap s.heap [] := va_S.rf
  have hl : lv_has ls 6 [(0, .ref (ad 0)), (1, .int (nI t)), (2, .int (nI a)), (3, .int x), (4, .int v)] := hl
  refine lv_aload_n hx hb dX2_compareAndSet_0 rfl (lv_at hl 0 rfl) ?_
  refine lv_iload_n hx hb dX2_compareAndSet_1 rfl (lv_at hl 1 rfl) ?_
  refine fk_callV (As := [.int (nI t)]) (rest := []) ⟨hx, hb, hml, hown, hts⟩ (kc_taskOf l D ad cI cT cJ X S t ht) (cwV 1 hts gX2_compareAndSet_X2_taskOf rfl rfl rfl (by decide +kernel) ⟨Nat.le_of_ble_eq_true rfl, Nat.le_of_ble_eq_true rfl⟩) (fk_rvK hK hP) hK hP hD hS hA rfl hl.1 rfl (Nat.le_of_ble_eq_true rfl) dX2_compareAndSet_2 ⟨Nat.le_of_ble_eq_true rfl, Nat.le_of_ble_eq_true rfl⟩ (fun H locs hP hD hS => ?_)
  refine W.eq (g2 := F0 m 5 ls [.ref (ad (3 + t))]) rfl ?_
  refine lv_astore (lv' := [(5, .ref (ad (3 + t))), (0, .ref (ad 0)), (1, .int (nI t)), (2, .int (nI a)), (3, .int x), (4, .int v)]) hx hb dX2_compareAndSet_5 hl (by decide) rfl (fun ls hl => ?_)
  refine lv_iload_n hx hb dX2_compareAndSet_7 rfl (lv_at hl 3 rfl) ?_
  refine fk_callS (As := [.int (nI a)]) (rest := []) ⟨hx, hb, hml, hown, hts⟩ (kc_requireAddress l D ad cI cT cJ X S a (by omega)) (va_cwS 1 hts gX2_compareAndSet_X2_requireAddress rfl rfl rfl (by decide +kernel) ⟨Nat.le_of_ble_eq_true rfl, Nat.le_of_ble_eq_true rfl⟩) hK hP hD hS hA rfl hl.1 rfl (Nat.le_of_ble_eq_true rfl) dX2_compareAndSet_8 ⟨Nat.le_of_ble_eq_true rfl, Nat.le_of_ble_eq_true rfl⟩ (fun H locs hP hD hS => ?_)
  refine W.eq (g2 := F0 m 11 ls []) rfl ?_
  refine lv_aload hx hb dX2_compareAndSet_11 (lv_at hl 0 rfl) ?_
  exact fk_xcallS (As := [.ref (ad (3 + t))]) (rest := []) ⟨hx, hb, hml, hown, hts⟩ (kx_requireRunning l D ad cI cT cJ X S hst t ht h) (va_cwS 1 hts gX2_compareAndSet_X2_requireRunning rfl rfl rfl (by decide +kernel) ⟨Nat.le_of_ble_eq_true rfl, Nat.le_of_ble_eq_true rfl⟩) hK hP hD hS hA hZ rfl hl.1 rfl (Nat.le_of_ble_eq_true rfl) dX2_compareAndSet_13 ⟨Nat.le_of_ble_eq_true rfl, Nat.le_of_ble_eq_true rfl⟩ (fk_thru hout hlocks hK hD)

abbrev rmX2_compareAndSet : Room := { frames := 2, cells := 0, slots := 0, locals := 40 }
set_option maxHeartbeats 4000000 in
set_option maxRecDepth 100000 in
theorem kc_compareAndSet (l : Launch) (D : va_G) (ad : Nat → Nat) (cI cT cJ : ClassId) (X : va_W) (S : fk_S) (t : Nat) (ht : t < 8) (a : Nat) (ha : a < 16) (x v : Int32) (hr0 : S 1 t = 0)  : fk_C l D (fk_ty cI cT cJ) yX2_compareAndSet wsX2_compareAndSet rmX2_compareAndSet [.ref (ad 0), .int (nI t), .int (nI a), .int x, .int v] (fk_kW ad cI cT S ++ X) (some (.int (fk_b (decide (S 0 a = x))))) (fk_kW ad cI cT (if S 0 a = x then fk_up S 0 a v else S) ++ X) := by
  refine fk_C_of (cc := cX2_compareAndSet) (maxL := 6) (ret := (some .boolean)) (own := RX2) (by decide) rfl rfl (Nat.le_of_ble_eq_true rfl) ?_
  intro p e s m below meth c A ls hx hb hr hlocks hml hts hown hA hP hK hD hl
  have hS : va_S A s.heap s.heap [] := va_S.rf
  have hl : lv_has ls 6 [(0, .ref (ad 0)), (1, .int (nI t)), (2, .int (nI a)), (3, .int x), (4, .int v)] := hl
  have hiX2 : ∀ w ∈ u_ws RX2 TX2 6, w ∈ wsX2_compareAndSet := by decide +kernel
  refine lv_aload_n hx hb dX2_compareAndSet_0 rfl (lv_at hl 0 rfl) ?_
  refine lv_iload_n hx hb dX2_compareAndSet_1 rfl (lv_at hl 1 rfl) ?_
  refine fk_callV (As := [.int (nI t)]) (rest := []) ⟨hx, hb, hml, hown, hts⟩ (kc_taskOf l D ad cI cT cJ X S t ht) (cwV 1 hts gX2_compareAndSet_X2_taskOf rfl rfl rfl (by decide +kernel) ⟨Nat.le_of_ble_eq_true rfl, Nat.le_of_ble_eq_true rfl⟩) (fk_rvK hK hP) hK hP hD hS hA rfl hl.1 rfl (Nat.le_of_ble_eq_true rfl) dX2_compareAndSet_2 ⟨Nat.le_of_ble_eq_true rfl, Nat.le_of_ble_eq_true rfl⟩ (fun H locs hP hD hS => ?_)
  refine W.eq (g2 := F0 m 5 ls [.ref (ad (3 + t))]) rfl ?_
  refine lv_astore (lv' := [(5, .ref (ad (3 + t))), (0, .ref (ad 0)), (1, .int (nI t)), (2, .int (nI a)), (3, .int x), (4, .int v)]) hx hb dX2_compareAndSet_5 hl (by decide) rfl (fun ls hl => ?_)
  refine lv_iload_n hx hb dX2_compareAndSet_7 rfl (lv_at hl 3 rfl) ?_
  refine fk_callS (As := [.int (nI a)]) (rest := []) ⟨hx, hb, hml, hown, hts⟩ (kc_requireAddress l D ad cI cT cJ X S a (by omega)) (va_cwS 1 hts gX2_compareAndSet_X2_requireAddress rfl rfl rfl (by decide +kernel) ⟨Nat.le_of_ble_eq_true rfl, Nat.le_of_ble_eq_true rfl⟩) hK hP hD hS hA rfl hl.1 rfl (Nat.le_of_ble_eq_true rfl) dX2_compareAndSet_8 ⟨Nat.le_of_ble_eq_true rfl, Nat.le_of_ble_eq_true rfl⟩ (fun H locs hP hD hS => ?_)
  refine W.eq (g2 := F0 m 11 ls []) rfl ?_
  refine lv_aload hx hb dX2_compareAndSet_11 (lv_at hl 0 rfl) ?_
  refine fk_callS (As := [.ref (ad (3 + t))]) (rest := []) ⟨hx, hb, hml, hown, hts⟩ (kc_requireRunning l D ad cI cT cJ X S t ht hr0) (va_cwS 1 hts gX2_compareAndSet_X2_requireRunning rfl rfl rfl (by decide +kernel) ⟨Nat.le_of_ble_eq_true rfl, Nat.le_of_ble_eq_true rfl⟩) hK hP hD hS hA rfl hl.1 rfl (Nat.le_of_ble_eq_true rfl) dX2_compareAndSet_13 ⟨Nat.le_of_ble_eq_true rfl, Nat.le_of_ble_eq_true rfl⟩ (fun H locs hP hD hS => ?_)
  refine W.eq (g2 := F0 m 16 ls []) rfl ?_
  refine lv_aload_n hx hb dX2_compareAndSet_16 rfl (lv_at hl 1 rfl) ?_
  refine fk_getK hx hb hts hiX2 hown hK hP 0 (by decide) (v := .ref (ad 1)) rfl (List.mem_of_getElem? (i := 1) rfl) rfl dX2_compareAndSet_17 ?_
  refine lv_iload_n hx hb dX2_compareAndSet_20 rfl (lv_at hl 3 rfl) ?_
  refine fk_ldW hx hb hK hP (vp_in_nI (show a < 16 from (by omega)) (by decide)) dX2_compareAndSet_21 ?_
  refine W.eq (g2 := F0 m 22 ls [.int (S 0 a)]) (by rw [nI_clamp (by omega)]) ?_
  refine lv_iload_n hx hb dX2_compareAndSet_22 rfl (lv_at hl 4 rfl) ?_
  refine lv_icmp_eq (tgt := 28) hx hb dX2_compareAndSet_23 (by decide) (fun c_1 => ?_) (fun c_1 => ?_)
  · refine lv_aload_n hx hb dX2_compareAndSet_28 rfl (lv_at hl 1 rfl) ?_
    refine fk_getK hx hb hts hiX2 hown hK hP 0 (by decide) (v := .ref (ad 1)) rfl (List.mem_of_getElem? (i := 1) rfl) rfl dX2_compareAndSet_29 ?_
    refine lv_iload_n hx hb dX2_compareAndSet_32 rfl (lv_at hl 3 rfl) ?_
    refine lv_iload hx hb dX2_compareAndSet_33 (lv_at hl 5 rfl) ?_
    refine fk_stW hx hb hK hP hD hS (vp_in_nI (show a < 16 from (by omega)) (by decide)) dX2_compareAndSet_35 (fun H locs hP hD hS => ?_)
    rw [show ((nI a)).toNatClampNeg = a from nI_clamp (n := a) (by omega)] at hP hD
    refine lv_iconst (v := 1) hx hb dX2_compareAndSet_36 (by decide) ?_
    exact fk_zret hx hb hr hlocks hP hK hD hS (congrArg (fun z => fk_kW ad cI cT z ++ X) (by first | rfl | simp [c_1])) rfl (by first | rfl | simp [fk_b, c_1]) dX2_compareAndSet_37
  · refine lv_iconst (v := 0) hx hb dX2_compareAndSet_26 (by decide) ?_
    exact fk_zret hx hb hr hlocks hP hK hD hS (congrArg (fun z => fk_kW ad cI cT z ++ X) (by first | rfl | simp [c_1])) rfl (by first | rfl | simp [fk_b, c_1]) dX2_compareAndSet_27

set_option maxHeartbeats 4000000 in
set_option maxRecDepth 100000 in
theorem kx_fetchAdd_1 (l : Launch) (D : va_G) (ad : Nat → Nat) (cI cT cJ : ClassId) (X : va_W) (S : fk_S) (hst : l.stackTraces = false) (th av : Int32) (v : Int32) (h : fk_isT th = false) : fk_X l D (fk_ty cI cT cJ) yX2_fetchAdd wsX2_fetchAdd rx_pub [.ref (ad 0), .int th, .int av, .int v] (fk_kW ad cI cT S ++ X) "java/lang/IndexOutOfBoundsException" := by
  refine fk_X_of (cc := cX2_fetchAdd) (maxL := 6) (ret := (some .int)) (own := RX2) (by decide) rfl rfl (Nat.le_of_ble_eq_true rfl) ?_
  intro p e s m below meth c A ls hx hb hout hlocks hml hts hown hA hP hK hD hZ hl
  have hS : va_S A s.heap s.heap [] := va_S.rf
  have hl : lv_has ls 6 [(0, .ref (ad 0)), (1, .int th), (2, .int av), (3, .int v)] := hl
  refine lv_aload_n hx hb dX2_fetchAdd_0 rfl (lv_at hl 0 rfl) ?_
  refine lv_iload_n hx hb dX2_fetchAdd_1 rfl (lv_at hl 1 rfl) ?_
  exact fk_xcallV (As := [.int th]) (rest := []) ⟨hx, hb, hml, hown, hts⟩ (kx_taskOf l D ad cI cT cJ X S hst th h) (cwV 1 hts gX2_fetchAdd_X2_taskOf rfl rfl rfl (by decide +kernel) ⟨Nat.le_of_ble_eq_true rfl, Nat.le_of_ble_eq_true rfl⟩) (fk_rvK hK hP) hK hP hD hS hA hZ rfl hl.1 rfl (Nat.le_of_ble_eq_true rfl) dX2_fetchAdd_2 ⟨Nat.le_of_ble_eq_true rfl, Nat.le_of_ble_eq_true rfl⟩ (fk_thru hout hlocks hK hD)

set_option maxHeartbeats 4000000 in
set_option maxRecDepth 100000 in
theorem kx_fetchAdd_2 (l : Launch) (D : va_G) (ad : Nat → Nat) (cI cT cJ : ClassId) (X : va_W) (S : fk_S) (hst : l.stackTraces = false) (t : Nat) (ht : t < 8) (av : Int32) (v : Int32) (h : fk_isA av = false) : fk_X l D (fk_ty cI cT cJ) yX2_fetchAdd wsX2_fetchAdd rx_pub [.ref (ad 0), .int (nI t), .int av, .int v] (fk_kW ad cI cT S ++ X) "java/lang/IndexOutOfBoundsException" := by
  refine fk_X_of (cc := cX2_fetchAdd) (maxL := 6) (ret := (some .int)) (own := RX2) (by decide) rfl rfl (Nat.le_of_ble_eq_true rfl) ?_
  intro p e s m below meth c A ls hx hb hout hlocks hml hts hown hA hP hK hD hZ hl
  have hS : va_S A s.heap s.heap [] := va_S.rf
  have hl : lv_has ls 6 [(0, .ref (ad 0)), (1, .int (nI t)), (2, .int av), (3, .int v)] := hl
  refine lv_aload_n hx hb dX2_fetchAdd_0 rfl (lv_at hl 0 rfl) ?_
  refine lv_iload_n hx hb dX2_fetchAdd_1 rfl (lv_at hl 1 rfl) ?_
  refine fk_callV (As := [.int (nI t)]) (rest := []) ⟨hx, hb, hml, hown, hts⟩ (kc_taskOf l D ad cI cT cJ X S t ht) (cwV 1 hts gX2_fetchAdd_X2_taskOf rfl rfl rfl (by decide +kernel) ⟨Nat.le_of_ble_eq_true rfl, Nat.le_of_ble_eq_true rfl⟩) (fk_rvK hK hP) hK hP hD hS hA rfl hl.1 rfl (Nat.le_of_ble_eq_true rfl) dX2_fetchAdd_2 ⟨Nat.le_of_ble_eq_true rfl, Nat.le_of_ble_eq_true rfl⟩ (fun H locs hP hD hS => ?_)
  refine W.eq (g2 := F0 m 5 ls [.ref (ad (3 + t))]) rfl ?_
  refine lv_astore (lv' := [(4, .ref (ad (3 + t))), (0, .ref (ad 0)), (1, .int (nI t)), (2, .int av), (3, .int v)]) hx hb dX2_fetchAdd_5 hl (by decide) rfl (fun ls hl => ?_)
  refine lv_iload_n hx hb dX2_fetchAdd_7 rfl (lv_at hl 3 rfl) ?_
  exact fk_xcallS (As := [.int av]) (rest := []) ⟨hx, hb, hml, hown, hts⟩ (kx_requireAddress l D ad cI cT cJ X S hst av h) (va_cwS 1 hts gX2_fetchAdd_X2_requireAddress rfl rfl rfl (by decide +kernel) ⟨Nat.le_of_ble_eq_true rfl, Nat.le_of_ble_eq_true rfl⟩) hK hP hD hS hA hZ rfl hl.1 rfl (Nat.le_of_ble_eq_true rfl) dX2_fetchAdd_8 ⟨Nat.le_of_ble_eq_true rfl, Nat.le_of_ble_eq_true rfl⟩ (fk_thru hout hlocks hK hD)

set_option maxHeartbeats 4000000 in
set_option maxRecDepth 100000 in
theorem kx_fetchAdd_3 (l : Launch) (D : va_G) (ad : Nat → Nat) (cI cT cJ : ClassId) (X : va_W) (S : fk_S) (hst : l.stackTraces = false) (t : Nat) (ht : t < 8) (a : Nat) (ha : a < 16) (v : Int32)  (h : ¬ S 1 t = 0) : fk_X l D (fk_ty cI cT cJ) yX2_fetchAdd wsX2_fetchAdd rx_pub [.ref (ad 0), .int (nI t), .int (nI a), .int v] (fk_kW ad cI cT S ++ X) "java/lang/IllegalStateException" := by
  refine fk_X_of (cc := cX2_fetchAdd) (maxL := 6) (ret := (some .int)) (own := RX2) (by decide) rfl rfl (Nat.le_of_ble_eq_true rfl) ?_
  intro p e s m below meth c A ls hx hb hout hlocks hml hts hown hA hP hK hD hZ hl
  have hS : va_S A s.heap s.heap [] := va_S.rf
  have hl : lv_has ls 6 [(0, .ref (ad 0)), (1, .int (nI t)), (2, .int (nI a)), (3, .int v)] := hl
  refine lv_aload_n hx hb dX2_fetchAdd_0 rfl (lv_at hl 0 rfl) ?_
  refine lv_iload_n hx hb dX2_fetchAdd_1 rfl (lv_at hl 1 rfl) ?_
  refine fk_callV (As := [.int (nI t)]) (rest := []) ⟨hx, hb, hml, hown, hts⟩ (kc_taskOf l D ad cI cT cJ X S t ht) (cwV 1 hts gX2_fetchAdd_X2_taskOf rfl rfl rfl (by decide +kernel) ⟨Nat.le_of_ble_eq_true rfl, Nat.le_of_ble_eq_true rfl⟩) (fk_rvK hK hP) hK hP hD hS hA rfl hl.1 rfl (Nat.le_of_ble_eq_true rfl) dX2_fetchAdd_2 ⟨Nat.le_of_ble_eq_true rfl, Nat.le_of_ble_eq_true rfl⟩ (fun H locs hP hD hS => ?_)
  refine W.eq (g2 := F0 m 5 ls [.ref (ad (3 + t))]) rfl ?_
  refine lv_astore (lv' := [(4, .ref (ad (3 + t))), (0, .ref (ad 0)), (1, .int (nI t)), (2, .int (nI a)), (3, .int v)]) hx hb dX2_fetchAdd_5 hl (by decide) rfl (fun ls hl => ?_)
  refine lv_iload_n hx hb dX2_fetchAdd_7 rfl (lv_at hl 3 rfl) ?_
  refine fk_callS (As := [.int (nI a)]) (rest := []) ⟨hx, hb, hml, hown, hts⟩ (kc_requireAddress l D ad cI cT cJ X S a (by omega)) (va_cwS 1 hts gX2_fetchAdd_X2_requireAddress rfl rfl rfl (by decide +kernel) ⟨Nat.le_of_ble_eq_true rfl, Nat.le_of_ble_eq_true rfl⟩) hK hP hD hS hA rfl hl.1 rfl (Nat.le_of_ble_eq_true rfl) dX2_fetchAdd_8 ⟨Nat.le_of_ble_eq_true rfl, Nat.le_of_ble_eq_true rfl⟩ (fun H locs hP hD hS => ?_)
  refine W.eq (g2 := F0 m 11 ls []) rfl ?_
  refine lv_aload hx hb dX2_fetchAdd_11 (lv_at hl 0 rfl) ?_
  exact fk_xcallS (As := [.ref (ad (3 + t))]) (rest := []) ⟨hx, hb, hml, hown, hts⟩ (kx_requireRunning l D ad cI cT cJ X S hst t ht h) (va_cwS 1 hts gX2_fetchAdd_X2_requireRunning rfl rfl rfl (by decide +kernel) ⟨Nat.le_of_ble_eq_true rfl, Nat.le_of_ble_eq_true rfl⟩) hK hP hD hS hA hZ rfl hl.1 rfl (Nat.le_of_ble_eq_true rfl) dX2_fetchAdd_13 ⟨Nat.le_of_ble_eq_true rfl, Nat.le_of_ble_eq_true rfl⟩ (fk_thru hout hlocks hK hD)

abbrev rmX2_fetchAdd : Room := { frames := 2, cells := 0, slots := 0, locals := 40 }
set_option maxHeartbeats 4000000 in
set_option maxRecDepth 100000 in
theorem kc_fetchAdd (l : Launch) (D : va_G) (ad : Nat → Nat) (cI cT cJ : ClassId) (X : va_W) (S : fk_S) (t : Nat) (ht : t < 8) (a : Nat) (ha : a < 16) (v : Int32) (hr0 : S 1 t = 0)  : fk_C l D (fk_ty cI cT cJ) yX2_fetchAdd wsX2_fetchAdd rmX2_fetchAdd [.ref (ad 0), .int (nI t), .int (nI a), .int v] (fk_kW ad cI cT S ++ X) (some (.int (S 0 a))) (fk_kW ad cI cT (fk_up S 0 a (S 0 a + v)) ++ X) := by
  refine fk_C_of (cc := cX2_fetchAdd) (maxL := 6) (ret := (some .int)) (own := RX2) (by decide) rfl rfl (Nat.le_of_ble_eq_true rfl) ?_
  intro p e s m below meth c A ls hx hb hr hlocks hml hts hown hA hP hK hD hl
  have hS : va_S A s.heap s.heap [] := va_S.rf
  have hl : lv_has ls 6 [(0, .ref (ad 0)), (1, .int (nI t)), (2, .int (nI a)), (3, .int v)] := hl
  have hiX2 : ∀ w ∈ u_ws RX2 TX2 6, w ∈ wsX2_fetchAdd := by decide +kernel
  refine lv_aload_n hx hb dX2_fetchAdd_0 rfl (lv_at hl 0 rfl) ?_
  refine lv_iload_n hx hb dX2_fetchAdd_1 rfl (lv_at hl 1 rfl) ?_
  refine fk_callV (As := [.int (nI t)]) (rest := []) ⟨hx, hb, hml, hown, hts⟩ (kc_taskOf l D ad cI cT cJ X S t ht) (cwV 1 hts gX2_fetchAdd_X2_taskOf rfl rfl rfl (by decide +kernel) ⟨Nat.le_of_ble_eq_true rfl, Nat.le_of_ble_eq_true rfl⟩) (fk_rvK hK hP) hK hP hD hS hA rfl hl.1 rfl (Nat.le_of_ble_eq_true rfl) dX2_fetchAdd_2 ⟨Nat.le_of_ble_eq_true rfl, Nat.le_of_ble_eq_true rfl⟩ (fun H locs hP hD hS => ?_)
  refine W.eq (g2 := F0 m 5 ls [.ref (ad (3 + t))]) rfl ?_
  refine lv_astore (lv' := [(4, .ref (ad (3 + t))), (0, .ref (ad 0)), (1, .int (nI t)), (2, .int (nI a)), (3, .int v)]) hx hb dX2_fetchAdd_5 hl (by decide) rfl (fun ls hl => ?_)
  refine lv_iload_n hx hb dX2_fetchAdd_7 rfl (lv_at hl 3 rfl) ?_
  refine fk_callS (As := [.int (nI a)]) (rest := []) ⟨hx, hb, hml, hown, hts⟩ (kc_requireAddress l D ad cI cT cJ X S a (by omega)) (va_cwS 1 hts gX2_fetchAdd_X2_requireAddress rfl rfl rfl (by decide +kernel) ⟨Nat.le_of_ble_eq_true rfl, Nat.le_of_ble_eq_true rfl⟩) hK hP hD hS hA rfl hl.1 rfl (Nat.le_of_ble_eq_true rfl) dX2_fetchAdd_8 ⟨Nat.le_of_ble_eq_true rfl, Nat.le_of_ble_eq_true rfl⟩ (fun H locs hP hD hS => ?_)
  refine W.eq (g2 := F0 m 11 ls []) rfl ?_
  refine lv_aload hx hb dX2_fetchAdd_11 (lv_at hl 0 rfl) ?_
  refine fk_callS (As := [.ref (ad (3 + t))]) (rest := []) ⟨hx, hb, hml, hown, hts⟩ (kc_requireRunning l D ad cI cT cJ X S t ht hr0) (va_cwS 1 hts gX2_fetchAdd_X2_requireRunning rfl rfl rfl (by decide +kernel) ⟨Nat.le_of_ble_eq_true rfl, Nat.le_of_ble_eq_true rfl⟩) hK hP hD hS hA rfl hl.1 rfl (Nat.le_of_ble_eq_true rfl) dX2_fetchAdd_13 ⟨Nat.le_of_ble_eq_true rfl, Nat.le_of_ble_eq_true rfl⟩ (fun H locs hP hD hS => ?_)
  refine W.eq (g2 := F0 m 16 ls []) rfl ?_
  refine lv_aload_n hx hb dX2_fetchAdd_16 rfl (lv_at hl 1 rfl) ?_
  refine fk_getK hx hb hts hiX2 hown hK hP 0 (by decide) (v := .ref (ad 1)) rfl (List.mem_of_getElem? (i := 1) rfl) rfl dX2_fetchAdd_17 ?_
  refine lv_iload_n hx hb dX2_fetchAdd_20 rfl (lv_at hl 3 rfl) ?_
  refine fk_ldW hx hb hK hP (vp_in_nI (show a < 16 from (by omega)) (by decide)) dX2_fetchAdd_21 ?_
  refine W.eq (g2 := F0 m 22 ls [.int (S 0 a)]) (by rw [nI_clamp (by omega)]) ?_
  refine lv_istore (lv' := [(5, .int (S 0 a)), (4, .ref (ad (3 + t))), (0, .ref (ad 0)), (1, .int (nI t)), (2, .int (nI a)), (3, .int v)]) hx hb dX2_fetchAdd_22 hl (by decide) rfl (fun ls hl => ?_)
  refine lv_aload_n hx hb dX2_fetchAdd_24 rfl (lv_at hl 2 rfl) ?_
  refine fk_getK hx hb hts hiX2 hown hK hP 0 (by decide) (v := .ref (ad 1)) rfl (List.mem_of_getElem? (i := 1) rfl) rfl dX2_fetchAdd_25 ?_
  refine lv_iload_n hx hb dX2_fetchAdd_28 rfl (lv_at hl 4 rfl) ?_
  refine lv_iload hx hb dX2_fetchAdd_29 (lv_at hl 0 rfl) ?_
  refine lv_iload_n hx hb dX2_fetchAdd_31 rfl (lv_at hl 5 rfl) ?_
  refine lv_iadd hx hb dX2_fetchAdd_32 ?_
  refine fk_stW hx hb hK hP hD hS (vp_in_nI (show a < 16 from (by omega)) (by decide)) dX2_fetchAdd_33 (fun H locs hP hD hS => ?_)
  rw [show ((nI a)).toNatClampNeg = a from nI_clamp (n := a) (by omega)] at hP hD
  refine lv_iload hx hb dX2_fetchAdd_34 (lv_at hl 0 rfl) ?_
  exact fk_iret hx hb hr hlocks hP hK hD hS (congrArg (fun z => fk_kW ad cI cT z ++ X) (by first | rfl | simp [])) (by rfl) dX2_fetchAdd_36

set_option maxHeartbeats 4000000 in
set_option maxRecDepth 100000 in
theorem kx_word_1 (l : Launch) (D : va_G) (ad : Nat → Nat) (cI cT cJ : ClassId) (X : va_W) (S : fk_S) (hst : l.stackTraces = false) (av : Int32) (h : fk_isA av = false) : fk_X l D (fk_ty cI cT cJ) yX2_word wsX2_word rx_pub [.ref (ad 0), .int av] (fk_kW ad cI cT S ++ X) "java/lang/IndexOutOfBoundsException" := by
  refine fk_X_of (cc := cX2_word) (maxL := 2) (ret := (some .int)) (own := RX2) (by decide) rfl rfl (Nat.le_of_ble_eq_true rfl) ?_
  intro p e s m below meth c A ls hx hb hout hlocks hml hts hown hA hP hK hD hZ hl
  have hS : va_S A s.heap s.heap [] := va_S.rf
  have hl : lv_has ls 2 [(0, .ref (ad 0)), (1, .int av)] := hl
  refine lv_iload_n hx hb dX2_word_0 rfl (lv_at hl 1 rfl) ?_
  exact fk_xcallS (As := [.int av]) (rest := []) ⟨hx, hb, hml, hown, hts⟩ (kx_requireAddress l D ad cI cT cJ X S hst av h) (va_cwS 1 hts gX2_word_X2_requireAddress rfl rfl rfl (by decide +kernel) ⟨Nat.le_of_ble_eq_true rfl, Nat.le_of_ble_eq_true rfl⟩) hK hP hD hS hA hZ rfl hl.1 rfl (Nat.le_of_ble_eq_true rfl) dX2_word_1 ⟨Nat.le_of_ble_eq_true rfl, Nat.le_of_ble_eq_true rfl⟩ (fk_thru hout hlocks hK hD)

abbrev rmX2_word : Room := { frames := 2, cells := 0, slots := 0, locals := 40 }
set_option maxHeartbeats 4000000 in
set_option maxRecDepth 100000 in
theorem kc_word (l : Launch) (D : va_G) (ad : Nat → Nat) (cI cT cJ : ClassId) (X : va_W) (S : fk_S) (a : Nat) (ha : a < 16) : fk_C l D (fk_ty cI cT cJ) yX2_word wsX2_word rmX2_word [.ref (ad 0), .int (nI a)] (fk_kW ad cI cT S ++ X) (some (.int (S 0 a))) (fk_kW ad cI cT S ++ X) := by
  refine fk_C_of (cc := cX2_word) (maxL := 2) (ret := (some .int)) (own := RX2) (by decide) rfl rfl (Nat.le_of_ble_eq_true rfl) ?_
  intro p e s m below meth c A ls hx hb hr hlocks hml hts hown hA hP hK hD hl
  have hS : va_S A s.heap s.heap [] := va_S.rf
  have hl : lv_has ls 2 [(0, .ref (ad 0)), (1, .int (nI a))] := hl
  have hiX2 : ∀ w ∈ u_ws RX2 TX2 6, w ∈ wsX2_word := by decide +kernel
  refine lv_iload_n hx hb dX2_word_0 rfl (lv_at hl 1 rfl) ?_
  refine fk_callS (As := [.int (nI a)]) (rest := []) ⟨hx, hb, hml, hown, hts⟩ (kc_requireAddress l D ad cI cT cJ X S a (by omega)) (va_cwS 1 hts gX2_word_X2_requireAddress rfl rfl rfl (by decide +kernel) ⟨Nat.le_of_ble_eq_true rfl, Nat.le_of_ble_eq_true rfl⟩) hK hP hD hS hA rfl hl.1 rfl (Nat.le_of_ble_eq_true rfl) dX2_word_1 ⟨Nat.le_of_ble_eq_true rfl, Nat.le_of_ble_eq_true rfl⟩ (fun H locs hP hD hS => ?_)
  refine W.eq (g2 := F0 m 4 ls []) rfl ?_
  refine lv_aload_n hx hb dX2_word_4 rfl (lv_at hl 0 rfl) ?_
  refine fk_getK hx hb hts hiX2 hown hK hP 0 (by decide) (v := .ref (ad 1)) rfl (List.mem_of_getElem? (i := 1) rfl) rfl dX2_word_5 ?_
  refine lv_iload_n hx hb dX2_word_8 rfl (lv_at hl 1 rfl) ?_
  refine fk_ldW hx hb hK hP (vp_in_nI (show a < 16 from (by omega)) (by decide)) dX2_word_9 ?_
  refine W.eq (g2 := F0 m 10 ls [.int (S 0 a)]) (by rw [nI_clamp (by omega)]) ?_
  exact fk_iret hx hb hr hlocks hP hK hD hS (congrArg (fun z => fk_kW ad cI cT z ++ X) (by first | rfl | simp [])) (by rfl) dX2_word_10

set_option maxHeartbeats 4000000 in
set_option maxRecDepth 100000 in
theorem kx_await_1 (l : Launch) (D : va_G) (ad : Nat → Nat) (cI cT cJ : ClassId) (X : va_W) (S : fk_S) (hst : l.stackTraces = false) (th av : Int32) (x mk to : Int32) (h : fk_isT th = false) : fk_X l D (fk_ty cI cT cJ) yX2_await wsX2_await rx_pub [.ref (ad 0), .int th, .int av, .int x, .int mk, .int to] (fk_kW ad cI cT S ++ X) "java/lang/IndexOutOfBoundsException" := by
  refine fk_X_of (cc := cX2_await) (maxL := 7) (ret := (some .boolean)) (own := RX2) (by decide) rfl rfl (Nat.le_of_ble_eq_true rfl) ?_
  intro p e s m below meth c A ls hx hb hout hlocks hml hts hown hA hP hK hD hZ hl
  have hS : va_S A s.heap s.heap [] := va_S.rf
  have hl : lv_has ls 7 [(0, .ref (ad 0)), (1, .int th), (2, .int av), (3, .int x), (4, .int mk), (5, .int to)] := hl
  refine lv_aload_n hx hb dX2_await_0 rfl (lv_at hl 0 rfl) ?_
  refine lv_iload_n hx hb dX2_await_1 rfl (lv_at hl 1 rfl) ?_
  exact fk_xcallV (As := [.int th]) (rest := []) ⟨hx, hb, hml, hown, hts⟩ (kx_taskOf l D ad cI cT cJ X S hst th h) (cwV 1 hts gX2_await_X2_taskOf rfl rfl rfl (by decide +kernel) ⟨Nat.le_of_ble_eq_true rfl, Nat.le_of_ble_eq_true rfl⟩) (fk_rvK hK hP) hK hP hD hS hA hZ rfl hl.1 rfl (Nat.le_of_ble_eq_true rfl) dX2_await_2 ⟨Nat.le_of_ble_eq_true rfl, Nat.le_of_ble_eq_true rfl⟩ (fk_thru hout hlocks hK hD)

set_option maxHeartbeats 4000000 in
set_option maxRecDepth 100000 in
theorem kx_await_2 (l : Launch) (D : va_G) (ad : Nat → Nat) (cI cT cJ : ClassId) (X : va_W) (S : fk_S) (hst : l.stackTraces = false) (t : Nat) (ht : t < 8) (av : Int32) (x mk to : Int32) (h : fk_isA av = false) : fk_X l D (fk_ty cI cT cJ) yX2_await wsX2_await rx_pub [.ref (ad 0), .int (nI t), .int av, .int x, .int mk, .int to] (fk_kW ad cI cT S ++ X) "java/lang/IndexOutOfBoundsException" := by
  refine fk_X_of (cc := cX2_await) (maxL := 7) (ret := (some .boolean)) (own := RX2) (by decide) rfl rfl (Nat.le_of_ble_eq_true rfl) ?_
  intro p e s m below meth c A ls hx hb hout hlocks hml hts hown hA hP hK hD hZ hl
  have hS : va_S A s.heap s.heap [] := va_S.rf
  have hl : lv_has ls 7 [(0, .ref (ad 0)), (1, .int (nI t)), (2, .int av), (3, .int x), (4, .int mk), (5, .int to)] := hl
  refine lv_aload_n hx hb dX2_await_0 rfl (lv_at hl 0 rfl) ?_
  refine lv_iload_n hx hb dX2_await_1 rfl (lv_at hl 1 rfl) ?_
  refine fk_callV (As := [.int (nI t)]) (rest := []) ⟨hx, hb, hml, hown, hts⟩ (kc_taskOf l D ad cI cT cJ X S t ht) (cwV 1 hts gX2_await_X2_taskOf rfl rfl rfl (by decide +kernel) ⟨Nat.le_of_ble_eq_true rfl, Nat.le_of_ble_eq_true rfl⟩) (fk_rvK hK hP) hK hP hD hS hA rfl hl.1 rfl (Nat.le_of_ble_eq_true rfl) dX2_await_2 ⟨Nat.le_of_ble_eq_true rfl, Nat.le_of_ble_eq_true rfl⟩ (fun H locs hP hD hS => ?_)
  refine W.eq (g2 := F0 m 5 ls [.ref (ad (3 + t))]) rfl ?_
  refine lv_astore (lv' := [(6, .ref (ad (3 + t))), (0, .ref (ad 0)), (1, .int (nI t)), (2, .int av), (3, .int x), (4, .int mk), (5, .int to)]) hx hb dX2_await_5 hl (by decide) rfl (fun ls hl => ?_)
  refine lv_iload_n hx hb dX2_await_7 rfl (lv_at hl 3 rfl) ?_
  exact fk_xcallS (As := [.int av]) (rest := []) ⟨hx, hb, hml, hown, hts⟩ (kx_requireAddress l D ad cI cT cJ X S hst av h) (va_cwS 1 hts gX2_await_X2_requireAddress rfl rfl rfl (by decide +kernel) ⟨Nat.le_of_ble_eq_true rfl, Nat.le_of_ble_eq_true rfl⟩) hK hP hD hS hA hZ rfl hl.1 rfl (Nat.le_of_ble_eq_true rfl) dX2_await_8 ⟨Nat.le_of_ble_eq_true rfl, Nat.le_of_ble_eq_true rfl⟩ (fk_thru hout hlocks hK hD)

set_option maxHeartbeats 4000000 in
set_option maxRecDepth 100000 in
theorem kx_await_3 (l : Launch) (D : va_G) (ad : Nat → Nat) (cI cT cJ : ClassId) (X : va_W) (S : fk_S) (hst : l.stackTraces = false) (t : Nat) (ht : t < 8) (a : Nat) (ha : a < 16) (x mk to : Int32)  (h : fk_btw mk 1 255 = false) : fk_X l D (fk_ty cI cT cJ) yX2_await wsX2_await rx_pub [.ref (ad 0), .int (nI t), .int (nI a), .int x, .int mk, .int to] (fk_kW ad cI cT S ++ X) "java/lang/IllegalArgumentException" := by
  refine fk_X_of (cc := cX2_await) (maxL := 7) (ret := (some .boolean)) (own := RX2) (by decide) rfl rfl (Nat.le_of_ble_eq_true rfl) ?_
  intro p e s m below meth c A ls hx hb hout hlocks hml hts hown hA hP hK hD hZ hl
  have hS : va_S A s.heap s.heap [] := va_S.rf
  have hl : lv_has ls 7 [(0, .ref (ad 0)), (1, .int (nI t)), (2, .int (nI a)), (3, .int x), (4, .int mk), (5, .int to)] := hl
  refine lv_aload_n hx hb dX2_await_0 rfl (lv_at hl 0 rfl) ?_
  refine lv_iload_n hx hb dX2_await_1 rfl (lv_at hl 1 rfl) ?_
  refine fk_callV (As := [.int (nI t)]) (rest := []) ⟨hx, hb, hml, hown, hts⟩ (kc_taskOf l D ad cI cT cJ X S t ht) (cwV 1 hts gX2_await_X2_taskOf rfl rfl rfl (by decide +kernel) ⟨Nat.le_of_ble_eq_true rfl, Nat.le_of_ble_eq_true rfl⟩) (fk_rvK hK hP) hK hP hD hS hA rfl hl.1 rfl (Nat.le_of_ble_eq_true rfl) dX2_await_2 ⟨Nat.le_of_ble_eq_true rfl, Nat.le_of_ble_eq_true rfl⟩ (fun H locs hP hD hS => ?_)
  refine W.eq (g2 := F0 m 5 ls [.ref (ad (3 + t))]) rfl ?_
  refine lv_astore (lv' := [(6, .ref (ad (3 + t))), (0, .ref (ad 0)), (1, .int (nI t)), (2, .int (nI a)), (3, .int x), (4, .int mk), (5, .int to)]) hx hb dX2_await_5 hl (by decide) rfl (fun ls hl => ?_)
  refine lv_iload_n hx hb dX2_await_7 rfl (lv_at hl 3 rfl) ?_
  refine fk_callS (As := [.int (nI a)]) (rest := []) ⟨hx, hb, hml, hown, hts⟩ (kc_requireAddress l D ad cI cT cJ X S a (by omega)) (va_cwS 1 hts gX2_await_X2_requireAddress rfl rfl rfl (by decide +kernel) ⟨Nat.le_of_ble_eq_true rfl, Nat.le_of_ble_eq_true rfl⟩) hK hP hD hS hA rfl hl.1 rfl (Nat.le_of_ble_eq_true rfl) dX2_await_8 ⟨Nat.le_of_ble_eq_true rfl, Nat.le_of_ble_eq_true rfl⟩ (fun H locs hP hD hS => ?_)
  refine W.eq (g2 := F0 m 11 ls []) rfl ?_
  refine lv_iload hx hb dX2_await_11 (lv_at hl 5 rfl) ?_
  refine lv_iconst (v := 1) hx hb dX2_await_13 (by decide) ?_
  refine lv_sipush (v := 255) hx hb dX2_await_14 (by decide) ?_
  exact fk_xcallS (As := [.int mk, .int 1, .int 255]) (rest := []) ⟨hx, hb, hml, hown, hts⟩ (kx_requireBetween l D ad cI cT cJ X S hst mk 1 255 h) (va_cwS 3 hts gX2_await_X2_requireBetween rfl rfl rfl (by decide +kernel) ⟨Nat.le_of_ble_eq_true rfl, Nat.le_of_ble_eq_true rfl⟩) hK hP hD hS hA hZ rfl hl.1 rfl (Nat.le_of_ble_eq_true rfl) dX2_await_17 ⟨Nat.le_of_ble_eq_true rfl, Nat.le_of_ble_eq_true rfl⟩ (fk_thru hout hlocks hK hD)

set_option maxHeartbeats 4000000 in
set_option maxRecDepth 100000 in
theorem kx_await_4 (l : Launch) (D : va_G) (ad : Nat → Nat) (cI cT cJ : ClassId) (X : va_W) (S : fk_S) (hst : l.stackTraces = false) (t : Nat) (ht : t < 8) (a : Nat) (ha : a < 16) (x mk to : Int32)  (hm0 : fk_btw mk 1 255 = true) (h : fk_btw to 0 10000 = false) : fk_X l D (fk_ty cI cT cJ) yX2_await wsX2_await rx_pub [.ref (ad 0), .int (nI t), .int (nI a), .int x, .int mk, .int to] (fk_kW ad cI cT S ++ X) "java/lang/IllegalArgumentException" := by
  refine fk_X_of (cc := cX2_await) (maxL := 7) (ret := (some .boolean)) (own := RX2) (by decide) rfl rfl (Nat.le_of_ble_eq_true rfl) ?_
  intro p e s m below meth c A ls hx hb hout hlocks hml hts hown hA hP hK hD hZ hl
  have hS : va_S A s.heap s.heap [] := va_S.rf
  have hl : lv_has ls 7 [(0, .ref (ad 0)), (1, .int (nI t)), (2, .int (nI a)), (3, .int x), (4, .int mk), (5, .int to)] := hl
  refine lv_aload_n hx hb dX2_await_0 rfl (lv_at hl 0 rfl) ?_
  refine lv_iload_n hx hb dX2_await_1 rfl (lv_at hl 1 rfl) ?_
  refine fk_callV (As := [.int (nI t)]) (rest := []) ⟨hx, hb, hml, hown, hts⟩ (kc_taskOf l D ad cI cT cJ X S t ht) (cwV 1 hts gX2_await_X2_taskOf rfl rfl rfl (by decide +kernel) ⟨Nat.le_of_ble_eq_true rfl, Nat.le_of_ble_eq_true rfl⟩) (fk_rvK hK hP) hK hP hD hS hA rfl hl.1 rfl (Nat.le_of_ble_eq_true rfl) dX2_await_2 ⟨Nat.le_of_ble_eq_true rfl, Nat.le_of_ble_eq_true rfl⟩ (fun H locs hP hD hS => ?_)
  refine W.eq (g2 := F0 m 5 ls [.ref (ad (3 + t))]) rfl ?_
  refine lv_astore (lv' := [(6, .ref (ad (3 + t))), (0, .ref (ad 0)), (1, .int (nI t)), (2, .int (nI a)), (3, .int x), (4, .int mk), (5, .int to)]) hx hb dX2_await_5 hl (by decide) rfl (fun ls hl => ?_)
  refine lv_iload_n hx hb dX2_await_7 rfl (lv_at hl 3 rfl) ?_
  refine fk_callS (As := [.int (nI a)]) (rest := []) ⟨hx, hb, hml, hown, hts⟩ (kc_requireAddress l D ad cI cT cJ X S a (by omega)) (va_cwS 1 hts gX2_await_X2_requireAddress rfl rfl rfl (by decide +kernel) ⟨Nat.le_of_ble_eq_true rfl, Nat.le_of_ble_eq_true rfl⟩) hK hP hD hS hA rfl hl.1 rfl (Nat.le_of_ble_eq_true rfl) dX2_await_8 ⟨Nat.le_of_ble_eq_true rfl, Nat.le_of_ble_eq_true rfl⟩ (fun H locs hP hD hS => ?_)
  refine W.eq (g2 := F0 m 11 ls []) rfl ?_
  refine lv_iload hx hb dX2_await_11 (lv_at hl 5 rfl) ?_
  refine lv_iconst (v := 1) hx hb dX2_await_13 (by decide) ?_
  refine lv_sipush (v := 255) hx hb dX2_await_14 (by decide) ?_
  refine fk_callS (As := [.int mk, .int 1, .int 255]) (rest := []) ⟨hx, hb, hml, hown, hts⟩ (kc_requireBetween l D ad cI cT cJ X S mk 1 255 hm0) (va_cwS 3 hts gX2_await_X2_requireBetween rfl rfl rfl (by decide +kernel) ⟨Nat.le_of_ble_eq_true rfl, Nat.le_of_ble_eq_true rfl⟩) hK hP hD hS hA rfl hl.1 rfl (Nat.le_of_ble_eq_true rfl) dX2_await_17 ⟨Nat.le_of_ble_eq_true rfl, Nat.le_of_ble_eq_true rfl⟩ (fun H locs hP hD hS => ?_)
  refine W.eq (g2 := F0 m 20 ls []) rfl ?_
  refine lv_iload hx hb dX2_await_20 (lv_at hl 6 rfl) ?_
  refine lv_iconst (v := 0) hx hb dX2_await_22 (by decide) ?_
  refine lv_sipush (v := 10000) hx hb dX2_await_23 (by decide) ?_
  exact fk_xcallS (As := [.int to, .int 0, .int 10000]) (rest := []) ⟨hx, hb, hml, hown, hts⟩ (kx_requireBetween l D ad cI cT cJ X S hst to 0 10000 h) (va_cwS 3 hts gX2_await_X2_requireBetween rfl rfl rfl (by decide +kernel) ⟨Nat.le_of_ble_eq_true rfl, Nat.le_of_ble_eq_true rfl⟩) hK hP hD hS hA hZ rfl hl.1 rfl (Nat.le_of_ble_eq_true rfl) dX2_await_26 ⟨Nat.le_of_ble_eq_true rfl, Nat.le_of_ble_eq_true rfl⟩ (fk_thru hout hlocks hK hD)

set_option maxHeartbeats 4000000 in
set_option maxRecDepth 100000 in
theorem kx_await_5 (l : Launch) (D : va_G) (ad : Nat → Nat) (cI cT cJ : ClassId) (X : va_W) (S : fk_S) (hst : l.stackTraces = false) (t : Nat) (ht : t < 8) (a : Nat) (ha : a < 16) (x mk to : Int32)  (hm0 : fk_btw mk 1 255 = true) (hm1 : fk_btw to 0 10000 = true) (h : ¬ S 1 t = 0) : fk_X l D (fk_ty cI cT cJ) yX2_await wsX2_await rx_pub [.ref (ad 0), .int (nI t), .int (nI a), .int x, .int mk, .int to] (fk_kW ad cI cT S ++ X) "java/lang/IllegalStateException" := by
  refine fk_X_of (cc := cX2_await) (maxL := 7) (ret := (some .boolean)) (own := RX2) (by decide) rfl rfl (Nat.le_of_ble_eq_true rfl) ?_
  intro p e s m below meth c A ls hx hb hout hlocks hml hts hown hA hP hK hD hZ hl
  have hS : va_S A s.heap s.heap [] := va_S.rf
  have hl : lv_has ls 7 [(0, .ref (ad 0)), (1, .int (nI t)), (2, .int (nI a)), (3, .int x), (4, .int mk), (5, .int to)] := hl
  refine lv_aload_n hx hb dX2_await_0 rfl (lv_at hl 0 rfl) ?_
  refine lv_iload_n hx hb dX2_await_1 rfl (lv_at hl 1 rfl) ?_
  refine fk_callV (As := [.int (nI t)]) (rest := []) ⟨hx, hb, hml, hown, hts⟩ (kc_taskOf l D ad cI cT cJ X S t ht) (cwV 1 hts gX2_await_X2_taskOf rfl rfl rfl (by decide +kernel) ⟨Nat.le_of_ble_eq_true rfl, Nat.le_of_ble_eq_true rfl⟩) (fk_rvK hK hP) hK hP hD hS hA rfl hl.1 rfl (Nat.le_of_ble_eq_true rfl) dX2_await_2 ⟨Nat.le_of_ble_eq_true rfl, Nat.le_of_ble_eq_true rfl⟩ (fun H locs hP hD hS => ?_)
  refine W.eq (g2 := F0 m 5 ls [.ref (ad (3 + t))]) rfl ?_
  refine lv_astore (lv' := [(6, .ref (ad (3 + t))), (0, .ref (ad 0)), (1, .int (nI t)), (2, .int (nI a)), (3, .int x), (4, .int mk), (5, .int to)]) hx hb dX2_await_5 hl (by decide) rfl (fun ls hl => ?_)
  refine lv_iload_n hx hb dX2_await_7 rfl (lv_at hl 3 rfl) ?_
  refine fk_callS (As := [.int (nI a)]) (rest := []) ⟨hx, hb, hml, hown, hts⟩ (kc_requireAddress l D ad cI cT cJ X S a (by omega)) (va_cwS 1 hts gX2_await_X2_requireAddress rfl rfl rfl (by decide +kernel) ⟨Nat.le_of_ble_eq_true rfl, Nat.le_of_ble_eq_true rfl⟩) hK hP hD hS hA rfl hl.1 rfl (Nat.le_of_ble_eq_true rfl) dX2_await_8 ⟨Nat.le_of_ble_eq_true rfl, Nat.le_of_ble_eq_true rfl⟩ (fun H locs hP hD hS => ?_)
  refine W.eq (g2 := F0 m 11 ls []) rfl ?_
  refine lv_iload hx hb dX2_await_11 (lv_at hl 5 rfl) ?_
  refine lv_iconst (v := 1) hx hb dX2_await_13 (by decide) ?_
  refine lv_sipush (v := 255) hx hb dX2_await_14 (by decide) ?_
  refine fk_callS (As := [.int mk, .int 1, .int 255]) (rest := []) ⟨hx, hb, hml, hown, hts⟩ (kc_requireBetween l D ad cI cT cJ X S mk 1 255 hm0) (va_cwS 3 hts gX2_await_X2_requireBetween rfl rfl rfl (by decide +kernel) ⟨Nat.le_of_ble_eq_true rfl, Nat.le_of_ble_eq_true rfl⟩) hK hP hD hS hA rfl hl.1 rfl (Nat.le_of_ble_eq_true rfl) dX2_await_17 ⟨Nat.le_of_ble_eq_true rfl, Nat.le_of_ble_eq_true rfl⟩ (fun H locs hP hD hS => ?_)
  refine W.eq (g2 := F0 m 20 ls []) rfl ?_
  refine lv_iload hx hb dX2_await_20 (lv_at hl 6 rfl) ?_
  refine lv_iconst (v := 0) hx hb dX2_await_22 (by decide) ?_
  refine lv_sipush (v := 10000) hx hb dX2_await_23 (by decide) ?_
  refine fk_callS (As := [.int to, .int 0, .int 10000]) (rest := []) ⟨hx, hb, hml, hown, hts⟩ (kc_requireBetween l D ad cI cT cJ X S to 0 10000 hm1) (va_cwS 3 hts gX2_await_X2_requireBetween rfl rfl rfl (by decide +kernel) ⟨Nat.le_of_ble_eq_true rfl, Nat.le_of_ble_eq_true rfl⟩) hK hP hD hS hA rfl hl.1 rfl (Nat.le_of_ble_eq_true rfl) dX2_await_26 ⟨Nat.le_of_ble_eq_true rfl, Nat.le_of_ble_eq_true rfl⟩ (fun H locs hP hD hS => ?_)
  refine W.eq (g2 := F0 m 29 ls []) rfl ?_
  refine lv_aload hx hb dX2_await_29 (lv_at hl 0 rfl) ?_
  exact fk_xcallS (As := [.ref (ad (3 + t))]) (rest := []) ⟨hx, hb, hml, hown, hts⟩ (kx_requireRunning l D ad cI cT cJ X S hst t ht h) (va_cwS 1 hts gX2_await_X2_requireRunning rfl rfl rfl (by decide +kernel) ⟨Nat.le_of_ble_eq_true rfl, Nat.le_of_ble_eq_true rfl⟩) hK hP hD hS hA hZ rfl hl.1 rfl (Nat.le_of_ble_eq_true rfl) dX2_await_31 ⟨Nat.le_of_ble_eq_true rfl, Nat.le_of_ble_eq_true rfl⟩ (fk_thru hout hlocks hK hD)

abbrev rmX2_await : Room := { frames := 2, cells := 0, slots := 0, locals := 47 }
set_option maxHeartbeats 4000000 in
set_option maxRecDepth 100000 in
theorem kc_await (l : Launch) (D : va_G) (ad : Nat → Nat) (cI cT cJ : ClassId) (X : va_W) (S : fk_S) (t : Nat) (ht : t < 8) (a : Nat) (ha : a < 16) (x mk to : Int32) (hr0 : S 1 t = 0)  (hm0 : fk_btw mk 1 255 = true) (hm1 : fk_btw to 0 10000 = true) : fk_C l D (fk_ty cI cT cJ) yX2_await wsX2_await rmX2_await [.ref (ad 0), .int (nI t), .int (nI a), .int x, .int mk, .int to] (fk_kW ad cI cT S ++ X) (some (.int (fk_b (decide (S 0 a = x))))) (fk_kW ad cI cT (kk_await S t a x mk to) ++ X) := by
  refine fk_C_of (cc := cX2_await) (maxL := 7) (ret := (some .boolean)) (own := RX2) (by decide) rfl rfl (Nat.le_of_ble_eq_true rfl) ?_
  intro p e s m below meth c A ls hx hb hr hlocks hml hts hown hA hP hK hD hl
  have hS : va_S A s.heap s.heap [] := va_S.rf
  have hl : lv_has ls 7 [(0, .ref (ad 0)), (1, .int (nI t)), (2, .int (nI a)), (3, .int x), (4, .int mk), (5, .int to)] := hl
  have hiX2 : ∀ w ∈ u_ws RX2 TX2 6, w ∈ wsX2_await := by decide +kernel
  refine lv_aload_n hx hb dX2_await_0 rfl (lv_at hl 0 rfl) ?_
  refine lv_iload_n hx hb dX2_await_1 rfl (lv_at hl 1 rfl) ?_
  refine fk_callV (As := [.int (nI t)]) (rest := []) ⟨hx, hb, hml, hown, hts⟩ (kc_taskOf l D ad cI cT cJ X S t ht) (cwV 1 hts gX2_await_X2_taskOf rfl rfl rfl (by decide +kernel) ⟨Nat.le_of_ble_eq_true rfl, Nat.le_of_ble_eq_true rfl⟩) (fk_rvK hK hP) hK hP hD hS hA rfl hl.1 rfl (Nat.le_of_ble_eq_true rfl) dX2_await_2 ⟨Nat.le_of_ble_eq_true rfl, Nat.le_of_ble_eq_true rfl⟩ (fun H locs hP hD hS => ?_)
  refine W.eq (g2 := F0 m 5 ls [.ref (ad (3 + t))]) rfl ?_
  refine lv_astore (lv' := [(6, .ref (ad (3 + t))), (0, .ref (ad 0)), (1, .int (nI t)), (2, .int (nI a)), (3, .int x), (4, .int mk), (5, .int to)]) hx hb dX2_await_5 hl (by decide) rfl (fun ls hl => ?_)
  refine lv_iload_n hx hb dX2_await_7 rfl (lv_at hl 3 rfl) ?_
  refine fk_callS (As := [.int (nI a)]) (rest := []) ⟨hx, hb, hml, hown, hts⟩ (kc_requireAddress l D ad cI cT cJ X S a (by omega)) (va_cwS 1 hts gX2_await_X2_requireAddress rfl rfl rfl (by decide +kernel) ⟨Nat.le_of_ble_eq_true rfl, Nat.le_of_ble_eq_true rfl⟩) hK hP hD hS hA rfl hl.1 rfl (Nat.le_of_ble_eq_true rfl) dX2_await_8 ⟨Nat.le_of_ble_eq_true rfl, Nat.le_of_ble_eq_true rfl⟩ (fun H locs hP hD hS => ?_)
  refine W.eq (g2 := F0 m 11 ls []) rfl ?_
  refine lv_iload hx hb dX2_await_11 (lv_at hl 5 rfl) ?_
  refine lv_iconst (v := 1) hx hb dX2_await_13 (by decide) ?_
  refine lv_sipush (v := 255) hx hb dX2_await_14 (by decide) ?_
  refine fk_callS (As := [.int mk, .int 1, .int 255]) (rest := []) ⟨hx, hb, hml, hown, hts⟩ (kc_requireBetween l D ad cI cT cJ X S mk 1 255 hm0) (va_cwS 3 hts gX2_await_X2_requireBetween rfl rfl rfl (by decide +kernel) ⟨Nat.le_of_ble_eq_true rfl, Nat.le_of_ble_eq_true rfl⟩) hK hP hD hS hA rfl hl.1 rfl (Nat.le_of_ble_eq_true rfl) dX2_await_17 ⟨Nat.le_of_ble_eq_true rfl, Nat.le_of_ble_eq_true rfl⟩ (fun H locs hP hD hS => ?_)
  refine W.eq (g2 := F0 m 20 ls []) rfl ?_
  refine lv_iload hx hb dX2_await_20 (lv_at hl 6 rfl) ?_
  refine lv_iconst (v := 0) hx hb dX2_await_22 (by decide) ?_
  refine lv_sipush (v := 10000) hx hb dX2_await_23 (by decide) ?_
  refine fk_callS (As := [.int to, .int 0, .int 10000]) (rest := []) ⟨hx, hb, hml, hown, hts⟩ (kc_requireBetween l D ad cI cT cJ X S to 0 10000 hm1) (va_cwS 3 hts gX2_await_X2_requireBetween rfl rfl rfl (by decide +kernel) ⟨Nat.le_of_ble_eq_true rfl, Nat.le_of_ble_eq_true rfl⟩) hK hP hD hS hA rfl hl.1 rfl (Nat.le_of_ble_eq_true rfl) dX2_await_26 ⟨Nat.le_of_ble_eq_true rfl, Nat.le_of_ble_eq_true rfl⟩ (fun H locs hP hD hS => ?_)
  refine W.eq (g2 := F0 m 29 ls []) rfl ?_
  refine lv_aload hx hb dX2_await_29 (lv_at hl 0 rfl) ?_
  refine fk_callS (As := [.ref (ad (3 + t))]) (rest := []) ⟨hx, hb, hml, hown, hts⟩ (kc_requireRunning l D ad cI cT cJ X S t ht hr0) (va_cwS 1 hts gX2_await_X2_requireRunning rfl rfl rfl (by decide +kernel) ⟨Nat.le_of_ble_eq_true rfl, Nat.le_of_ble_eq_true rfl⟩) hK hP hD hS hA rfl hl.1 rfl (Nat.le_of_ble_eq_true rfl) dX2_await_31 ⟨Nat.le_of_ble_eq_true rfl, Nat.le_of_ble_eq_true rfl⟩ (fun H locs hP hD hS => ?_)
  refine W.eq (g2 := F0 m 34 ls []) rfl ?_
  refine lv_aload_n hx hb dX2_await_34 rfl (lv_at hl 1 rfl) ?_
  refine fk_getK hx hb hts hiX2 hown hK hP 0 (by decide) (v := .ref (ad 1)) rfl (List.mem_of_getElem? (i := 1) rfl) rfl dX2_await_35 ?_
  refine lv_iload_n hx hb dX2_await_38 rfl (lv_at hl 3 rfl) ?_
  refine fk_ldW hx hb hK hP (vp_in_nI (show a < 16 from (by omega)) (by decide)) dX2_await_39 ?_
  refine W.eq (g2 := F0 m 40 ls [.int (S 0 a)]) (by rw [nI_clamp (by omega)]) ?_
  refine lv_iload_n hx hb dX2_await_40 rfl (lv_at hl 4 rfl) ?_
  refine lv_icmp_eq (tgt := 46) hx hb dX2_await_41 (by decide) (fun c_1 => ?_) (fun c_1 => ?_)
  · refine lv_aload_n hx hb dX2_await_46 rfl (lv_at hl 1 rfl) ?_
    refine lv_aload hx hb dX2_await_47 (lv_at hl 0 rfl) ?_
    refine lv_iconst (v := 1) hx hb dX2_await_49 (by decide) ?_
    refine lv_iload_n hx hb dX2_await_50 rfl (lv_at hl 3 rfl) ?_
    refine lv_iload hx hb dX2_await_51 (lv_at hl 5 rfl) ?_
    refine lv_iload hx hb dX2_await_53 (lv_at hl 6 rfl) ?_
    refine fk_callV (As := [.ref (ad (3 + t)), .int 1, .int (nI a), .int mk, .int to]) (rest := []) ⟨hx, hb, hml, hown, hts⟩ (kc_beginWait l D ad cI cT cJ X S t 1 (nI a) mk to ht) (cwV 5 hts gX2_await_X2_beginWait rfl rfl rfl (by decide +kernel) ⟨Nat.le_of_ble_eq_true rfl, Nat.le_of_ble_eq_true rfl⟩) (fk_rvK hK hP) hK hP hD hS hA rfl hl.1 rfl (Nat.le_of_ble_eq_true rfl) dX2_await_55 ⟨Nat.le_of_ble_eq_true rfl, Nat.le_of_ble_eq_true rfl⟩ (fun H locs hP hD hS => ?_)
    refine W.eq (g2 := F0 m 58 ls []) rfl ?_
    refine lv_iconst (v := 1) hx hb dX2_await_58 (by decide) ?_
    exact fk_zret hx hb hr hlocks hP hK hD hS (congrArg (fun z => fk_kW ad cI cT z ++ X) (by first | rfl | simp [kk_await, c_1])) rfl (by first | rfl | simp [fk_b, c_1]) dX2_await_59
  · refine lv_iconst (v := 0) hx hb dX2_await_44 (by decide) ?_
    exact fk_zret hx hb hr hlocks hP hK hD hS (congrArg (fun z => fk_kW ad cI cT z ++ X) (by first | rfl | simp [kk_await, c_1])) rfl (by first | rfl | simp [fk_b, c_1]) dX2_await_45

set_option maxHeartbeats 4000000 in
set_option maxRecDepth 100000 in
theorem kx_wake_1 (l : Launch) (D : va_G) (ad : Nat → Nat) (cI cT cJ : ClassId) (X : va_W) (S : fk_S) (hst : l.stackTraces = false) (th av : Int32) (mo mk : Int32) (h : fk_isT th = false) : fk_X l D (fk_ty cI cT cJ) yX2_wake wsX2_wake rx_pub [.ref (ad 0), .int th, .int av, .int mo, .int mk] (fk_kW ad cI cT S ++ X) "java/lang/IndexOutOfBoundsException" := by
  refine fk_X_of (cc := cX2_wake) (maxL := 6) (ret := (some .int)) (own := RX2) (by decide) rfl rfl (Nat.le_of_ble_eq_true rfl) ?_
  intro p e s m below meth c A ls hx hb hout hlocks hml hts hown hA hP hK hD hZ hl
  have hS : va_S A s.heap s.heap [] := va_S.rf
  have hl : lv_has ls 6 [(0, .ref (ad 0)), (1, .int th), (2, .int av), (3, .int mo), (4, .int mk)] := hl
  refine lv_aload_n hx hb dX2_wake_0 rfl (lv_at hl 0 rfl) ?_
  refine lv_iload_n hx hb dX2_wake_1 rfl (lv_at hl 1 rfl) ?_
  exact fk_xcallV (As := [.int th]) (rest := []) ⟨hx, hb, hml, hown, hts⟩ (kx_taskOf l D ad cI cT cJ X S hst th h) (cwV 1 hts gX2_wake_X2_taskOf rfl rfl rfl (by decide +kernel) ⟨Nat.le_of_ble_eq_true rfl, Nat.le_of_ble_eq_true rfl⟩) (fk_rvK hK hP) hK hP hD hS hA hZ rfl hl.1 rfl (Nat.le_of_ble_eq_true rfl) dX2_wake_2 ⟨Nat.le_of_ble_eq_true rfl, Nat.le_of_ble_eq_true rfl⟩ (fk_thru hout hlocks hK hD)

set_option maxHeartbeats 4000000 in
set_option maxRecDepth 100000 in
theorem kx_wake_2 (l : Launch) (D : va_G) (ad : Nat → Nat) (cI cT cJ : ClassId) (X : va_W) (S : fk_S) (hst : l.stackTraces = false) (t : Nat) (ht : t < 8) (av : Int32) (mo mk : Int32) (h : fk_isA av = false) : fk_X l D (fk_ty cI cT cJ) yX2_wake wsX2_wake rx_pub [.ref (ad 0), .int (nI t), .int av, .int mo, .int mk] (fk_kW ad cI cT S ++ X) "java/lang/IndexOutOfBoundsException" := by
  refine fk_X_of (cc := cX2_wake) (maxL := 6) (ret := (some .int)) (own := RX2) (by decide) rfl rfl (Nat.le_of_ble_eq_true rfl) ?_
  intro p e s m below meth c A ls hx hb hout hlocks hml hts hown hA hP hK hD hZ hl
  have hS : va_S A s.heap s.heap [] := va_S.rf
  have hl : lv_has ls 6 [(0, .ref (ad 0)), (1, .int (nI t)), (2, .int av), (3, .int mo), (4, .int mk)] := hl
  refine lv_aload_n hx hb dX2_wake_0 rfl (lv_at hl 0 rfl) ?_
  refine lv_iload_n hx hb dX2_wake_1 rfl (lv_at hl 1 rfl) ?_
  refine fk_callV (As := [.int (nI t)]) (rest := []) ⟨hx, hb, hml, hown, hts⟩ (kc_taskOf l D ad cI cT cJ X S t ht) (cwV 1 hts gX2_wake_X2_taskOf rfl rfl rfl (by decide +kernel) ⟨Nat.le_of_ble_eq_true rfl, Nat.le_of_ble_eq_true rfl⟩) (fk_rvK hK hP) hK hP hD hS hA rfl hl.1 rfl (Nat.le_of_ble_eq_true rfl) dX2_wake_2 ⟨Nat.le_of_ble_eq_true rfl, Nat.le_of_ble_eq_true rfl⟩ (fun H locs hP hD hS => ?_)
  refine W.eq (g2 := F0 m 5 ls [.ref (ad (3 + t))]) rfl ?_
  refine lv_astore (lv' := [(5, .ref (ad (3 + t))), (0, .ref (ad 0)), (1, .int (nI t)), (2, .int av), (3, .int mo), (4, .int mk)]) hx hb dX2_wake_5 hl (by decide) rfl (fun ls hl => ?_)
  refine lv_iload_n hx hb dX2_wake_7 rfl (lv_at hl 3 rfl) ?_
  exact fk_xcallS (As := [.int av]) (rest := []) ⟨hx, hb, hml, hown, hts⟩ (kx_requireAddress l D ad cI cT cJ X S hst av h) (va_cwS 1 hts gX2_wake_X2_requireAddress rfl rfl rfl (by decide +kernel) ⟨Nat.le_of_ble_eq_true rfl, Nat.le_of_ble_eq_true rfl⟩) hK hP hD hS hA hZ rfl hl.1 rfl (Nat.le_of_ble_eq_true rfl) dX2_wake_8 ⟨Nat.le_of_ble_eq_true rfl, Nat.le_of_ble_eq_true rfl⟩ (fk_thru hout hlocks hK hD)

set_option maxHeartbeats 4000000 in
set_option maxRecDepth 100000 in
theorem kx_wake_3 (l : Launch) (D : va_G) (ad : Nat → Nat) (cI cT cJ : ClassId) (X : va_W) (S : fk_S) (hst : l.stackTraces = false) (t : Nat) (ht : t < 8) (a : Nat) (ha : a < 16) (mo mk : Int32)  (h : fk_btw mo 1 8 = false) : fk_X l D (fk_ty cI cT cJ) yX2_wake wsX2_wake rx_pub [.ref (ad 0), .int (nI t), .int (nI a), .int mo, .int mk] (fk_kW ad cI cT S ++ X) "java/lang/IllegalArgumentException" := by
  refine fk_X_of (cc := cX2_wake) (maxL := 6) (ret := (some .int)) (own := RX2) (by decide) rfl rfl (Nat.le_of_ble_eq_true rfl) ?_
  intro p e s m below meth c A ls hx hb hout hlocks hml hts hown hA hP hK hD hZ hl
  have hS : va_S A s.heap s.heap [] := va_S.rf
  have hl : lv_has ls 6 [(0, .ref (ad 0)), (1, .int (nI t)), (2, .int (nI a)), (3, .int mo), (4, .int mk)] := hl
  refine lv_aload_n hx hb dX2_wake_0 rfl (lv_at hl 0 rfl) ?_
  refine lv_iload_n hx hb dX2_wake_1 rfl (lv_at hl 1 rfl) ?_
  refine fk_callV (As := [.int (nI t)]) (rest := []) ⟨hx, hb, hml, hown, hts⟩ (kc_taskOf l D ad cI cT cJ X S t ht) (cwV 1 hts gX2_wake_X2_taskOf rfl rfl rfl (by decide +kernel) ⟨Nat.le_of_ble_eq_true rfl, Nat.le_of_ble_eq_true rfl⟩) (fk_rvK hK hP) hK hP hD hS hA rfl hl.1 rfl (Nat.le_of_ble_eq_true rfl) dX2_wake_2 ⟨Nat.le_of_ble_eq_true rfl, Nat.le_of_ble_eq_true rfl⟩ (fun H locs hP hD hS => ?_)
  refine W.eq (g2 := F0 m 5 ls [.ref (ad (3 + t))]) rfl ?_
  refine lv_astore (lv' := [(5, .ref (ad (3 + t))), (0, .ref (ad 0)), (1, .int (nI t)), (2, .int (nI a)), (3, .int mo), (4, .int mk)]) hx hb dX2_wake_5 hl (by decide) rfl (fun ls hl => ?_)
  refine lv_iload_n hx hb dX2_wake_7 rfl (lv_at hl 3 rfl) ?_
  refine fk_callS (As := [.int (nI a)]) (rest := []) ⟨hx, hb, hml, hown, hts⟩ (kc_requireAddress l D ad cI cT cJ X S a (by omega)) (va_cwS 1 hts gX2_wake_X2_requireAddress rfl rfl rfl (by decide +kernel) ⟨Nat.le_of_ble_eq_true rfl, Nat.le_of_ble_eq_true rfl⟩) hK hP hD hS hA rfl hl.1 rfl (Nat.le_of_ble_eq_true rfl) dX2_wake_8 ⟨Nat.le_of_ble_eq_true rfl, Nat.le_of_ble_eq_true rfl⟩ (fun H locs hP hD hS => ?_)
  refine W.eq (g2 := F0 m 11 ls []) rfl ?_
  refine lv_iload_n hx hb dX2_wake_11 rfl (lv_at hl 4 rfl) ?_
  refine lv_iconst (v := 1) hx hb dX2_wake_12 (by decide) ?_
  refine lv_bipush (v := 8) hx hb dX2_wake_13 (by decide) ?_
  exact fk_xcallS (As := [.int mo, .int 1, .int 8]) (rest := []) ⟨hx, hb, hml, hown, hts⟩ (kx_requireBetween l D ad cI cT cJ X S hst mo 1 8 h) (va_cwS 3 hts gX2_wake_X2_requireBetween rfl rfl rfl (by decide +kernel) ⟨Nat.le_of_ble_eq_true rfl, Nat.le_of_ble_eq_true rfl⟩) hK hP hD hS hA hZ rfl hl.1 rfl (Nat.le_of_ble_eq_true rfl) dX2_wake_15 ⟨Nat.le_of_ble_eq_true rfl, Nat.le_of_ble_eq_true rfl⟩ (fk_thru hout hlocks hK hD)

set_option maxHeartbeats 4000000 in
set_option maxRecDepth 100000 in
theorem kx_wake_4 (l : Launch) (D : va_G) (ad : Nat → Nat) (cI cT cJ : ClassId) (X : va_W) (S : fk_S) (hst : l.stackTraces = false) (t : Nat) (ht : t < 8) (a : Nat) (ha : a < 16) (mo mk : Int32)  (hm0 : fk_btw mo 1 8 = true) (h : fk_btw mk 1 255 = false) : fk_X l D (fk_ty cI cT cJ) yX2_wake wsX2_wake rx_pub [.ref (ad 0), .int (nI t), .int (nI a), .int mo, .int mk] (fk_kW ad cI cT S ++ X) "java/lang/IllegalArgumentException" := by
  refine fk_X_of (cc := cX2_wake) (maxL := 6) (ret := (some .int)) (own := RX2) (by decide) rfl rfl (Nat.le_of_ble_eq_true rfl) ?_
  intro p e s m below meth c A ls hx hb hout hlocks hml hts hown hA hP hK hD hZ hl
  have hS : va_S A s.heap s.heap [] := va_S.rf
  have hl : lv_has ls 6 [(0, .ref (ad 0)), (1, .int (nI t)), (2, .int (nI a)), (3, .int mo), (4, .int mk)] := hl
  refine lv_aload_n hx hb dX2_wake_0 rfl (lv_at hl 0 rfl) ?_
  refine lv_iload_n hx hb dX2_wake_1 rfl (lv_at hl 1 rfl) ?_
  refine fk_callV (As := [.int (nI t)]) (rest := []) ⟨hx, hb, hml, hown, hts⟩ (kc_taskOf l D ad cI cT cJ X S t ht) (cwV 1 hts gX2_wake_X2_taskOf rfl rfl rfl (by decide +kernel) ⟨Nat.le_of_ble_eq_true rfl, Nat.le_of_ble_eq_true rfl⟩) (fk_rvK hK hP) hK hP hD hS hA rfl hl.1 rfl (Nat.le_of_ble_eq_true rfl) dX2_wake_2 ⟨Nat.le_of_ble_eq_true rfl, Nat.le_of_ble_eq_true rfl⟩ (fun H locs hP hD hS => ?_)
  refine W.eq (g2 := F0 m 5 ls [.ref (ad (3 + t))]) rfl ?_
  refine lv_astore (lv' := [(5, .ref (ad (3 + t))), (0, .ref (ad 0)), (1, .int (nI t)), (2, .int (nI a)), (3, .int mo), (4, .int mk)]) hx hb dX2_wake_5 hl (by decide) rfl (fun ls hl => ?_)
  refine lv_iload_n hx hb dX2_wake_7 rfl (lv_at hl 3 rfl) ?_
  refine fk_callS (As := [.int (nI a)]) (rest := []) ⟨hx, hb, hml, hown, hts⟩ (kc_requireAddress l D ad cI cT cJ X S a (by omega)) (va_cwS 1 hts gX2_wake_X2_requireAddress rfl rfl rfl (by decide +kernel) ⟨Nat.le_of_ble_eq_true rfl, Nat.le_of_ble_eq_true rfl⟩) hK hP hD hS hA rfl hl.1 rfl (Nat.le_of_ble_eq_true rfl) dX2_wake_8 ⟨Nat.le_of_ble_eq_true rfl, Nat.le_of_ble_eq_true rfl⟩ (fun H locs hP hD hS => ?_)
  refine W.eq (g2 := F0 m 11 ls []) rfl ?_
  refine lv_iload_n hx hb dX2_wake_11 rfl (lv_at hl 4 rfl) ?_
  refine lv_iconst (v := 1) hx hb dX2_wake_12 (by decide) ?_
  refine lv_bipush (v := 8) hx hb dX2_wake_13 (by decide) ?_
  refine fk_callS (As := [.int mo, .int 1, .int 8]) (rest := []) ⟨hx, hb, hml, hown, hts⟩ (kc_requireBetween l D ad cI cT cJ X S mo 1 8 hm0) (va_cwS 3 hts gX2_wake_X2_requireBetween rfl rfl rfl (by decide +kernel) ⟨Nat.le_of_ble_eq_true rfl, Nat.le_of_ble_eq_true rfl⟩) hK hP hD hS hA rfl hl.1 rfl (Nat.le_of_ble_eq_true rfl) dX2_wake_15 ⟨Nat.le_of_ble_eq_true rfl, Nat.le_of_ble_eq_true rfl⟩ (fun H locs hP hD hS => ?_)
  refine W.eq (g2 := F0 m 18 ls []) rfl ?_
  refine lv_iload hx hb dX2_wake_18 (lv_at hl 5 rfl) ?_
  refine lv_iconst (v := 1) hx hb dX2_wake_20 (by decide) ?_
  refine lv_sipush (v := 255) hx hb dX2_wake_21 (by decide) ?_
  exact fk_xcallS (As := [.int mk, .int 1, .int 255]) (rest := []) ⟨hx, hb, hml, hown, hts⟩ (kx_requireBetween l D ad cI cT cJ X S hst mk 1 255 h) (va_cwS 3 hts gX2_wake_X2_requireBetween rfl rfl rfl (by decide +kernel) ⟨Nat.le_of_ble_eq_true rfl, Nat.le_of_ble_eq_true rfl⟩) hK hP hD hS hA hZ rfl hl.1 rfl (Nat.le_of_ble_eq_true rfl) dX2_wake_24 ⟨Nat.le_of_ble_eq_true rfl, Nat.le_of_ble_eq_true rfl⟩ (fk_thru hout hlocks hK hD)

set_option maxHeartbeats 4000000 in
set_option maxRecDepth 100000 in
theorem kx_wake_5 (l : Launch) (D : va_G) (ad : Nat → Nat) (cI cT cJ : ClassId) (X : va_W) (S : fk_S) (hst : l.stackTraces = false) (t : Nat) (ht : t < 8) (a : Nat) (ha : a < 16) (mo mk : Int32)  (hm0 : fk_btw mo 1 8 = true) (hm1 : fk_btw mk 1 255 = true) (h : ¬ S 1 t = 0) : fk_X l D (fk_ty cI cT cJ) yX2_wake wsX2_wake rx_pub [.ref (ad 0), .int (nI t), .int (nI a), .int mo, .int mk] (fk_kW ad cI cT S ++ X) "java/lang/IllegalStateException" := by
  refine fk_X_of (cc := cX2_wake) (maxL := 6) (ret := (some .int)) (own := RX2) (by decide) rfl rfl (Nat.le_of_ble_eq_true rfl) ?_
  intro p e s m below meth c A ls hx hb hout hlocks hml hts hown hA hP hK hD hZ hl
  have hS : va_S A s.heap s.heap [] := va_S.rf
  have hl : lv_has ls 6 [(0, .ref (ad 0)), (1, .int (nI t)), (2, .int (nI a)), (3, .int mo), (4, .int mk)] := hl
  refine lv_aload_n hx hb dX2_wake_0 rfl (lv_at hl 0 rfl) ?_
  refine lv_iload_n hx hb dX2_wake_1 rfl (lv_at hl 1 rfl) ?_
  refine fk_callV (As := [.int (nI t)]) (rest := []) ⟨hx, hb, hml, hown, hts⟩ (kc_taskOf l D ad cI cT cJ X S t ht) (cwV 1 hts gX2_wake_X2_taskOf rfl rfl rfl (by decide +kernel) ⟨Nat.le_of_ble_eq_true rfl, Nat.le_of_ble_eq_true rfl⟩) (fk_rvK hK hP) hK hP hD hS hA rfl hl.1 rfl (Nat.le_of_ble_eq_true rfl) dX2_wake_2 ⟨Nat.le_of_ble_eq_true rfl, Nat.le_of_ble_eq_true rfl⟩ (fun H locs hP hD hS => ?_)
  refine W.eq (g2 := F0 m 5 ls [.ref (ad (3 + t))]) rfl ?_
  refine lv_astore (lv' := [(5, .ref (ad (3 + t))), (0, .ref (ad 0)), (1, .int (nI t)), (2, .int (nI a)), (3, .int mo), (4, .int mk)]) hx hb dX2_wake_5 hl (by decide) rfl (fun ls hl => ?_)
  refine lv_iload_n hx hb dX2_wake_7 rfl (lv_at hl 3 rfl) ?_
  refine fk_callS (As := [.int (nI a)]) (rest := []) ⟨hx, hb, hml, hown, hts⟩ (kc_requireAddress l D ad cI cT cJ X S a (by omega)) (va_cwS 1 hts gX2_wake_X2_requireAddress rfl rfl rfl (by decide +kernel) ⟨Nat.le_of_ble_eq_true rfl, Nat.le_of_ble_eq_true rfl⟩) hK hP hD hS hA rfl hl.1 rfl (Nat.le_of_ble_eq_true rfl) dX2_wake_8 ⟨Nat.le_of_ble_eq_true rfl, Nat.le_of_ble_eq_true rfl⟩ (fun H locs hP hD hS => ?_)
  refine W.eq (g2 := F0 m 11 ls []) rfl ?_
  refine lv_iload_n hx hb dX2_wake_11 rfl (lv_at hl 4 rfl) ?_
  refine lv_iconst (v := 1) hx hb dX2_wake_12 (by decide) ?_
  refine lv_bipush (v := 8) hx hb dX2_wake_13 (by decide) ?_
  refine fk_callS (As := [.int mo, .int 1, .int 8]) (rest := []) ⟨hx, hb, hml, hown, hts⟩ (kc_requireBetween l D ad cI cT cJ X S mo 1 8 hm0) (va_cwS 3 hts gX2_wake_X2_requireBetween rfl rfl rfl (by decide +kernel) ⟨Nat.le_of_ble_eq_true rfl, Nat.le_of_ble_eq_true rfl⟩) hK hP hD hS hA rfl hl.1 rfl (Nat.le_of_ble_eq_true rfl) dX2_wake_15 ⟨Nat.le_of_ble_eq_true rfl, Nat.le_of_ble_eq_true rfl⟩ (fun H locs hP hD hS => ?_)
  refine W.eq (g2 := F0 m 18 ls []) rfl ?_
  refine lv_iload hx hb dX2_wake_18 (lv_at hl 5 rfl) ?_
  refine lv_iconst (v := 1) hx hb dX2_wake_20 (by decide) ?_
  refine lv_sipush (v := 255) hx hb dX2_wake_21 (by decide) ?_
  refine fk_callS (As := [.int mk, .int 1, .int 255]) (rest := []) ⟨hx, hb, hml, hown, hts⟩ (kc_requireBetween l D ad cI cT cJ X S mk 1 255 hm1) (va_cwS 3 hts gX2_wake_X2_requireBetween rfl rfl rfl (by decide +kernel) ⟨Nat.le_of_ble_eq_true rfl, Nat.le_of_ble_eq_true rfl⟩) hK hP hD hS hA rfl hl.1 rfl (Nat.le_of_ble_eq_true rfl) dX2_wake_24 ⟨Nat.le_of_ble_eq_true rfl, Nat.le_of_ble_eq_true rfl⟩ (fun H locs hP hD hS => ?_)
  refine W.eq (g2 := F0 m 27 ls []) rfl ?_
  refine lv_aload hx hb dX2_wake_27 (lv_at hl 0 rfl) ?_
  exact fk_xcallS (As := [.ref (ad (3 + t))]) (rest := []) ⟨hx, hb, hml, hown, hts⟩ (kx_requireRunning l D ad cI cT cJ X S hst t ht h) (va_cwS 1 hts gX2_wake_X2_requireRunning rfl rfl rfl (by decide +kernel) ⟨Nat.le_of_ble_eq_true rfl, Nat.le_of_ble_eq_true rfl⟩) hK hP hD hS hA hZ rfl hl.1 rfl (Nat.le_of_ble_eq_true rfl) dX2_wake_29 ⟨Nat.le_of_ble_eq_true rfl, Nat.le_of_ble_eq_true rfl⟩ (fk_thru hout hlocks hK hD)

abbrev rmX2_wake : Room := { frames := 6, cells := 0, slots := 0, locals := 141 }
set_option maxHeartbeats 4000000 in
set_option maxRecDepth 100000 in
theorem kc_wake (l : Launch) (D : va_G) (ad : Nat → Nat) (cI cT cJ : ClassId) (X : va_W) (S : fk_S) (t : Nat) (ht : t < 8) (a : Nat) (ha : a < 16) (k : Nat) (hk : k ≤ 8) (mk : Int32) (hr0 : S 1 t = 0) (hm0 : fk_btw (nI k) 1 8 = true) (hm1 : fk_btw mk 1 255 = true) : fk_C l D (fk_ty cI cT cJ) yX2_wake wsX2_wake rmX2_wake [.ref (ad 0), .int (nI t), .int (nI a), .int (nI k), .int mk] (fk_kW ad cI cT S ++ X) (some (.int (nI (kk_wake (nI a) mk k S).1))) (fk_kW ad cI cT (kk_wake (nI a) mk k S).2 ++ X) := by
  refine fk_C_of (cc := cX2_wake) (maxL := 6) (ret := (some .int)) (own := RX2) (by decide) rfl rfl (Nat.le_of_ble_eq_true rfl) ?_
  intro p e s m below meth c A ls hx hb hr hlocks hml hts hown hA hP hK hD hl
  have hS : va_S A s.heap s.heap [] := va_S.rf
  have hl : lv_has ls 6 [(0, .ref (ad 0)), (1, .int (nI t)), (2, .int (nI a)), (3, .int (nI k)), (4, .int mk)] := hl
  refine lv_aload_n hx hb dX2_wake_0 rfl (lv_at hl 0 rfl) ?_
  refine lv_iload_n hx hb dX2_wake_1 rfl (lv_at hl 1 rfl) ?_
  refine fk_callV (As := [.int (nI t)]) (rest := []) ⟨hx, hb, hml, hown, hts⟩ (kc_taskOf l D ad cI cT cJ X S t ht) (cwV 1 hts gX2_wake_X2_taskOf rfl rfl rfl (by decide +kernel) ⟨Nat.le_of_ble_eq_true rfl, Nat.le_of_ble_eq_true rfl⟩) (fk_rvK hK hP) hK hP hD hS hA rfl hl.1 rfl (Nat.le_of_ble_eq_true rfl) dX2_wake_2 ⟨Nat.le_of_ble_eq_true rfl, Nat.le_of_ble_eq_true rfl⟩ (fun H locs hP hD hS => ?_)
  refine W.eq (g2 := F0 m 5 ls [.ref (ad (3 + t))]) rfl ?_
  refine lv_astore (lv' := [(5, .ref (ad (3 + t))), (0, .ref (ad 0)), (1, .int (nI t)), (2, .int (nI a)), (3, .int (nI k)), (4, .int mk)]) hx hb dX2_wake_5 hl (by decide) rfl (fun ls hl => ?_)
  refine lv_iload_n hx hb dX2_wake_7 rfl (lv_at hl 3 rfl) ?_
  refine fk_callS (As := [.int (nI a)]) (rest := []) ⟨hx, hb, hml, hown, hts⟩ (kc_requireAddress l D ad cI cT cJ X S a (by omega)) (va_cwS 1 hts gX2_wake_X2_requireAddress rfl rfl rfl (by decide +kernel) ⟨Nat.le_of_ble_eq_true rfl, Nat.le_of_ble_eq_true rfl⟩) hK hP hD hS hA rfl hl.1 rfl (Nat.le_of_ble_eq_true rfl) dX2_wake_8 ⟨Nat.le_of_ble_eq_true rfl, Nat.le_of_ble_eq_true rfl⟩ (fun H locs hP hD hS => ?_)
  refine W.eq (g2 := F0 m 11 ls []) rfl ?_
  refine lv_iload_n hx hb dX2_wake_11 rfl (lv_at hl 4 rfl) ?_
  refine lv_iconst (v := 1) hx hb dX2_wake_12 (by decide) ?_
  refine lv_bipush (v := 8) hx hb dX2_wake_13 (by decide) ?_
  refine fk_callS (As := [.int (nI k), .int 1, .int 8]) (rest := []) ⟨hx, hb, hml, hown, hts⟩ (kc_requireBetween l D ad cI cT cJ X S (nI k) 1 8 hm0) (va_cwS 3 hts gX2_wake_X2_requireBetween rfl rfl rfl (by decide +kernel) ⟨Nat.le_of_ble_eq_true rfl, Nat.le_of_ble_eq_true rfl⟩) hK hP hD hS hA rfl hl.1 rfl (Nat.le_of_ble_eq_true rfl) dX2_wake_15 ⟨Nat.le_of_ble_eq_true rfl, Nat.le_of_ble_eq_true rfl⟩ (fun H locs hP hD hS => ?_)
  refine W.eq (g2 := F0 m 18 ls []) rfl ?_
  refine lv_iload hx hb dX2_wake_18 (lv_at hl 5 rfl) ?_
  refine lv_iconst (v := 1) hx hb dX2_wake_20 (by decide) ?_
  refine lv_sipush (v := 255) hx hb dX2_wake_21 (by decide) ?_
  refine fk_callS (As := [.int mk, .int 1, .int 255]) (rest := []) ⟨hx, hb, hml, hown, hts⟩ (kc_requireBetween l D ad cI cT cJ X S mk 1 255 hm1) (va_cwS 3 hts gX2_wake_X2_requireBetween rfl rfl rfl (by decide +kernel) ⟨Nat.le_of_ble_eq_true rfl, Nat.le_of_ble_eq_true rfl⟩) hK hP hD hS hA rfl hl.1 rfl (Nat.le_of_ble_eq_true rfl) dX2_wake_24 ⟨Nat.le_of_ble_eq_true rfl, Nat.le_of_ble_eq_true rfl⟩ (fun H locs hP hD hS => ?_)
  refine W.eq (g2 := F0 m 27 ls []) rfl ?_
  refine lv_aload hx hb dX2_wake_27 (lv_at hl 0 rfl) ?_
  refine fk_callS (As := [.ref (ad (3 + t))]) (rest := []) ⟨hx, hb, hml, hown, hts⟩ (kc_requireRunning l D ad cI cT cJ X S t ht hr0) (va_cwS 1 hts gX2_wake_X2_requireRunning rfl rfl rfl (by decide +kernel) ⟨Nat.le_of_ble_eq_true rfl, Nat.le_of_ble_eq_true rfl⟩) hK hP hD hS hA rfl hl.1 rfl (Nat.le_of_ble_eq_true rfl) dX2_wake_29 ⟨Nat.le_of_ble_eq_true rfl, Nat.le_of_ble_eq_true rfl⟩ (fun H locs hP hD hS => ?_)
  refine W.eq (g2 := F0 m 32 ls []) rfl ?_
  refine lv_aload_n hx hb dX2_wake_32 rfl (lv_at hl 1 rfl) ?_
  refine lv_iload_n hx hb dX2_wake_33 rfl (lv_at hl 3 rfl) ?_
  refine lv_iload_n hx hb dX2_wake_34 rfl (lv_at hl 4 rfl) ?_
  refine lv_iload hx hb dX2_wake_35 (lv_at hl 5 rfl) ?_
  refine fk_callV (As := [.int (nI a), .int (nI k), .int mk]) (rest := []) ⟨hx, hb, hml, hown, hts⟩ (kc_wakeFirst l D ad cI cT cJ X S (nI a) mk k (by omega)) (cwV 3 hts gX2_wake_X2_wakeFirst rfl rfl rfl (by decide +kernel) ⟨Nat.le_of_ble_eq_true rfl, Nat.le_of_ble_eq_true rfl⟩) (fk_rvK hK hP) hK hP hD hS hA rfl hl.1 rfl (Nat.le_of_ble_eq_true rfl) dX2_wake_37 ⟨Nat.le_of_ble_eq_true rfl, Nat.le_of_ble_eq_true rfl⟩ (fun H locs hP hD hS => ?_)
  refine W.eq (g2 := F0 m 40 ls [.int (nI ((kk_wake (nI a) mk k S).1))]) rfl ?_
  exact fk_iret hx hb hr hlocks hP hK hD hS (congrArg (fun z => fk_kW ad cI cT z ++ X) (by first | rfl | simp [])) (by rfl) dX2_wake_40
