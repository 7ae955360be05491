abbrev rx_grd : Room := { frames := 6, cells := 1, slots := 6, locals := 110 }
abbrev rx_pub : Room := { frames := 7, cells := 1, slots := 6, locals := 150 }

abbrev rmX2_taskOf : Room := { frames := 0, cells := 0, slots := 0, locals := 0 }
set_option maxHeartbeats 4000000 in
set_option maxRecDepth 100000 in
theorem kc_taskOf (l : Launch) (D : va_G) (ad : Nat → Nat) (cI cT cJ : ClassId) (X : va_W) (S : fk_S) (t : Nat) (ht : t < 8) : fk_C l D (fk_ty cI cT cJ) yX2_taskOf wsX2_taskOf rmX2_taskOf [.ref (ad 0), .int (nI t)] (fk_kW ad cI cT S ++ X) (fk_vT ad (some t)) (fk_kW ad cI cT S ++ X) := by
  refine fk_C_of (cc := cX2_taskOf) (maxL := 2) (ret := (some (.object "FutexKernel$Task"))) (own := RX2) (by decide) rfl rfl (Nat.le_of_ble_eq_true rfl) ?_
  intro p e s m below meth c A ls hx hb hr hlocks hml hts hown hA hP hK hD hl
  have hS : va_S A s.heap s.heap [] := va_S.rf
  have hl : lv_has ls 2 [(0, .ref (ad 0)), (1, .int (nI t))] := hl
  have hiX2 : ∀ w ∈ u_ws RX2 TX2 6, w ∈ wsX2_taskOf := by decide +kernel
  refine lv_iload_n hx hb dX2_taskOf_0 rfl (lv_at hl 1 rfl) ?_
  refine lv_if_lt (tgt := 10) hx hb dX2_taskOf_1 (by decide) (fun c_1 => absurd c_1 (nI_pos (by omega))) (fun c_1 => ?_)
  refine lv_iload_n hx hb dX2_taskOf_4 rfl (lv_at hl 1 rfl) ?_
  refine lv_bipush (v := 8) hx hb dX2_taskOf_5 (by decide) ?_
  refine lv_icmp_lt (tgt := 20) hx hb dX2_taskOf_7 (by decide) (fun c_2 => ?_) (fun c_2 => absurd (nI_lt (b := 8) ht (by decide)) c_2)
  refine lv_aload_n hx hb dX2_taskOf_20 rfl (lv_at hl 0 rfl) ?_
  refine fk_getK hx hb hts hiX2 hown hK hP 1 (by decide) (v := .ref (ad 2)) rfl (List.mem_of_getElem? (i := 3) rfl) rfl dX2_taskOf_21 ?_
  refine lv_iload_n hx hb dX2_taskOf_24 rfl (lv_at hl 1 rfl) ?_
  refine fk_ldA hx hb hK hP (vp_in_nI (show t < 8 from (by omega)) (by decide)) dX2_taskOf_25 ?_
  refine W.eq (g2 := F0 m 26 ls [.ref (ad (3 + t))]) (by rw [nI_clamp (by omega)]) ?_
  exact fk_aret hx hb hr (Or.inl ⟨_, rfl⟩) (Or.inr ⟨_, rfl⟩) hlocks hP hK hD hS (congrArg (fun z => fk_kW ad cI cT z ++ X) (by first | rfl | simp [c_1, c_2])) (by rfl) dX2_taskOf_26

set_option maxHeartbeats 4000000 in
set_option maxRecDepth 100000 in
theorem kx_taskOf (l : Launch) (D : va_G) (ad : Nat → Nat) (cI cT cJ : ClassId) (X : va_W) (S : fk_S) (hst : l.stackTraces = false) (th : Int32) (h : fk_isT th = false) : fk_X l D (fk_ty cI cT cJ) yX2_taskOf wsX2_taskOf rx_grd [.ref (ad 0), .int th] (fk_kW ad cI cT S ++ X) "java/lang/IndexOutOfBoundsException" := by
  refine fk_X_of (cc := cX2_taskOf) (maxL := 2) (ret := (some (.object "FutexKernel$Task"))) (own := RX2) (by decide) rfl rfl (Nat.le_of_ble_eq_true rfl) ?_
  intro p e s m below meth c A ls hx hb hout hlocks hml hts hown hA hP hK hD hZ hl
  have hS : va_S A s.heap s.heap [] := va_S.rf
  have hl : lv_has ls 2 [(0, .ref (ad 0)), (1, .int th)] := hl
  refine lv_iload_n hx hb dX2_taskOf_0 rfl (lv_at hl 1 rfl) ?_
  refine lv_if_lt (tgt := 10) hx hb dX2_taskOf_1 (by decide) (fun c_1 => ?_) (fun c_1 => ?_)
  · exact fk_throw (cls := "java/lang/IndexOutOfBoundsException") (text := "no such thread") (ik := 105) (is := 184) (ic := 109) (rest := []) hx hb hst hown (by decide +kernel) (hts _ (List.mem_of_getElem? (i := 1) rfl)) (hts _ (List.mem_of_getElem? (i := 2) rfl)) (by decide +kernel) (vx_hat (fun w h => hts w (List.mem_cons_of_mem _ (List.mem_append_right _ h))) fk_b109 (fun w h => va_Nw.use (fk_dc_on (fk_bad_dc w h)) (hZ.2.2.2 w h))) fk_b109g hZ hK hP hD hS (hl.1.trans hml.symm) hout hlocks dX2_taskOf_10 dX2_taskOf_13 dX2_taskOf_14 dX2_taskOf_16 dX2_taskOf_19 ⟨Nat.le_of_ble_eq_true rfl, Nat.le_of_ble_eq_true rfl, Nat.le_of_ble_eq_true rfl, Nat.le_of_ble_eq_true rfl⟩
  · refine lv_iload_n hx hb dX2_taskOf_4 rfl (lv_at hl 1 rfl) ?_
    refine lv_bipush (v := 8) hx hb dX2_taskOf_5 (by decide) ?_
    refine lv_icmp_lt (tgt := 20) hx hb dX2_taskOf_7 (by decide) (fun c_2 => absurd c_2 (fun h9 => by simp [fk_isT, Int32.not_lt.mp c_1, h9] at h)) (fun c_2 => ?_)
    exact fk_throw (cls := "java/lang/IndexOutOfBoundsException") (text := "no such thread") (ik := 105) (is := 184) (ic := 109) (rest := []) hx hb hst hown (by decide +kernel) (hts _ (List.mem_of_getElem? (i := 1) rfl)) (hts _ (List.mem_of_getElem? (i := 2) rfl)) (by decide +kernel) (vx_hat (fun w h => hts w (List.mem_cons_of_mem _ (List.mem_append_right _ h))) fk_b109 (fun w h => va_Nw.use (fk_dc_on (fk_bad_dc w h)) (hZ.2.2.2 w h))) fk_b109g hZ hK hP hD hS (hl.1.trans hml.symm) hout hlocks dX2_taskOf_10 dX2_taskOf_13 dX2_taskOf_14 dX2_taskOf_16 dX2_taskOf_19 ⟨Nat.le_of_ble_eq_true rfl, Nat.le_of_ble_eq_true rfl, Nat.le_of_ble_eq_true rfl, Nat.le_of_ble_eq_true rfl⟩

abbrev rmX2_requireAddress : Room := { frames := 1, cells := 0, slots := 0, locals := 20 }
set_option maxHeartbeats 4000000 in
set_option maxRecDepth 100000 in
theorem kc_requireAddress (l : Launch) (D : va_G) (ad : Nat → Nat) (cI cT cJ : ClassId) (X : va_W) (S : fk_S) (a : Nat) (ha : a < 16) : fk_C l D (fk_ty cI cT cJ) yX2_requireAddress wsX2_requireAddress rmX2_requireAddress [.int (nI a)] (fk_kW ad cI cT S ++ X) none (fk_kW ad cI cT S ++ X) := by
  refine fk_C_of (cc := cX2_requireAddress) (maxL := 1) (ret := none) (own := RX2) (by decide) rfl rfl (Nat.le_of_ble_eq_true rfl) ?_
  intro p e s m below meth c A ls hx hb hr hlocks hml hts hown hA hP hK hD hl
  have hS : va_S A s.heap s.heap [] := va_S.rf
  have hl : lv_has ls 1 [(0, .int (nI a))] := hl
  refine lv_iload_n hx hb dX2_requireAddress_0 rfl (lv_at hl 0 rfl) ?_
  refine fk_callS (As := [.int (nI a)]) (rest := []) ⟨hx, hb, hml, hown, hts⟩ (by have h9 := (kc_isAddress l D ad cI cT cJ X S (nI a)); rw [fk_isA_nI ha] at h9; exact h9) (va_cwS 1 hts gX2_requireAddress_X2_isAddress rfl rfl rfl (by decide +kernel) ⟨Nat.le_of_ble_eq_true rfl, Nat.le_of_ble_eq_true rfl⟩) hK hP hD hS hA rfl hl.1 rfl (Nat.le_of_ble_eq_true rfl) dX2_requireAddress_1 ⟨Nat.le_of_ble_eq_true rfl, Nat.le_of_ble_eq_true rfl⟩ (fun H locs hP hD hS => ?_)
  refine W.eq (g2 := F0 m 4 ls [.int 1]) rfl ?_
  refine lv_if_ne (tgt := 17) hx hb dX2_requireAddress_4 (by decide) (fun _ => ?_) (fun c => absurd c (by decide))
  exact fk_vret hx hb hr hlocks hP hK hD hS (congrArg (fun z => fk_kW ad cI cT z ++ X) (by first | rfl | simp [])) (by rfl) dX2_requireAddress_17

set_option maxHeartbeats 4000000 in
set_option maxRecDepth 100000 in
theorem kx_requireAddress (l : Launch) (D : va_G) (ad : Nat → Nat) (cI cT cJ : ClassId) (X : va_W) (S : fk_S) (hst : l.stackTraces = false) (a : Int32) (h : fk_isA a = false) : fk_X l D (fk_ty cI cT cJ) yX2_requireAddress wsX2_requireAddress rx_grd [.int a] (fk_kW ad cI cT S ++ X) "java/lang/IndexOutOfBoundsException" := by
  refine fk_X_of (cc := cX2_requireAddress) (maxL := 1) (ret := none) (own := RX2) (by decide) rfl rfl (Nat.le_of_ble_eq_true rfl) ?_
  intro p e s m below meth c A ls hx hb hout hlocks hml hts hown hA hP hK hD hZ hl
  have hS : va_S A s.heap s.heap [] := va_S.rf
  have hl : lv_has ls 1 [(0, .int a)] := hl
  refine lv_iload_n hx hb dX2_requireAddress_0 rfl (lv_at hl 0 rfl) ?_
  refine fk_callS (As := [.int a]) (rest := []) ⟨hx, hb, hml, hown, hts⟩ (by have h9 := (kc_isAddress l D ad cI cT cJ X S a); rw [h] at h9; exact h9) (va_cwS 1 hts gX2_requireAddress_X2_isAddress rfl rfl rfl (by decide +kernel) ⟨Nat.le_of_ble_eq_true rfl, Nat.le_of_ble_eq_true rfl⟩) hK hP hD hS hA rfl hl.1 rfl (Nat.le_of_ble_eq_true rfl) dX2_requireAddress_1 ⟨Nat.le_of_ble_eq_true rfl, Nat.le_of_ble_eq_true rfl⟩ (fun H locs hP hD hS => ?_)
  refine W.eq (g2 := F0 m 4 ls [.int 0]) rfl ?_
  refine lv_if_ne (tgt := 17) hx hb dX2_requireAddress_4 (by decide) (fun c => absurd c (by decide)) (fun _ => ?_)
  exact fk_throw (cls := "java/lang/IndexOutOfBoundsException") (text := "no such address") (ik := 105) (is := 190) (ic := 109) (rest := []) hx hb hst hown (by decide +kernel) (hts _ (List.mem_of_getElem? (i := 1) rfl)) (hts _ (List.mem_of_getElem? (i := 2) rfl)) (by decide +kernel) (vx_hat (fun w h => hts w (List.mem_cons_of_mem _ (List.mem_append_right _ h))) fk_b109 (fun w h => va_Nw.use (fk_dc_on (fk_bad_dc w h)) (hZ.2.2.2 w h))) fk_b109g hZ hK hP hD hS (hl.1.trans hml.symm) hout hlocks dX2_requireAddress_7 dX2_requireAddress_10 dX2_requireAddress_11 dX2_requireAddress_13 dX2_requireAddress_16 ⟨Nat.le_of_ble_eq_true rfl, Nat.le_of_ble_eq_true rfl, Nat.le_of_ble_eq_true rfl, Nat.le_of_ble_eq_true rfl⟩

abbrev rmX2_requireBetween : Room := { frames := 0, cells := 0, slots := 0, locals := 0 }
set_option maxHeartbeats 4000000 in
set_option maxRecDepth 100000 in
theorem kc_requireBetween (l : Launch) (D : va_G) (ad : Nat → Nat) (cI cT cJ : ClassId) (X : va_W) (S : fk_S) (v lo hi : Int32) (h : fk_btw v lo hi = true) : fk_C l D (fk_ty cI cT cJ) yX2_requireBetween wsX2_requireBetween rmX2_requireBetween [.int v, .int lo, .int hi] (fk_kW ad cI cT S ++ X) none (fk_kW ad cI cT S ++ X) := by
  refine fk_C_of (cc := cX2_requireBetween) (maxL := 3) (ret := none) (own := RX2) (by decide) rfl rfl (Nat.le_of_ble_eq_true rfl) ?_
  intro p e s m below meth c A ls hx hb hr hlocks hml hts hown hA hP hK hD hl
  have hS : va_S A s.heap s.heap [] := va_S.rf
  have hl : lv_has ls 3 [(0, .int v), (1, .int lo), (2, .int hi)] := hl
  simp only [fk_btw, Bool.and_eq_true, decide_eq_true_eq] at h
  refine lv_iload_n hx hb dX2_requireBetween_0 rfl (lv_at hl 0 rfl) ?_
  refine lv_iload_n hx hb dX2_requireBetween_1 rfl (lv_at hl 1 rfl) ?_
  refine lv_icmp_lt (tgt := 10) hx hb dX2_requireBetween_2 (by decide) (fun c_1 => absurd c_1 (Int32.not_lt.mpr h.1)) (fun c_1 => ?_)
  refine lv_iload_n hx hb dX2_requireBetween_5 rfl (lv_at hl 0 rfl) ?_
  refine lv_iload_n hx hb dX2_requireBetween_6 rfl (lv_at hl 2 rfl) ?_
  refine lv_icmp_le (tgt := 20) hx hb dX2_requireBetween_7 (by decide) (fun c_2 => ?_) (fun c_2 => absurd h.2 c_2)
  exact fk_vret hx hb hr hlocks hP hK hD hS (congrArg (fun z => fk_kW ad cI cT z ++ X) (by first | rfl | simp [c_1, c_2])) (by rfl) dX2_requireBetween_20

set_option maxHeartbeats 4000000 in
set_option maxRecDepth 100000 in
theorem kx_requireBetween (l : Launch) (D : va_G) (ad : Nat → Nat) (cI cT cJ : ClassId) (X : va_W) (S : fk_S) (hst : l.stackTraces = false) (v lo hi : Int32) (h : fk_btw v lo hi = false) : fk_X l D (fk_ty cI cT cJ) yX2_requireBetween wsX2_requireBetween rx_grd [.int v, .int lo, .int hi] (fk_kW ad cI cT S ++ X) "java/lang/IllegalArgumentException" := by
  refine fk_X_of (cc := cX2_requireBetween) (maxL := 3) (ret := none) (own := RX2) (by decide) rfl rfl (Nat.le_of_ble_eq_true rfl) ?_
  intro p e s m below meth c A ls hx hb hout hlocks hml hts hown hA hP hK hD hZ hl
  have hS : va_S A s.heap s.heap [] := va_S.rf
  have hl : lv_has ls 3 [(0, .int v), (1, .int lo), (2, .int hi)] := hl
  refine lv_iload_n hx hb dX2_requireBetween_0 rfl (lv_at hl 0 rfl) ?_
  refine lv_iload_n hx hb dX2_requireBetween_1 rfl (lv_at hl 1 rfl) ?_
  refine lv_icmp_lt (tgt := 10) hx hb dX2_requireBetween_2 (by decide) (fun c_1 => ?_) (fun c_1 => ?_)
  · exact fk_throw (cls := "java/lang/IllegalArgumentException") (text := "out of range") (ik := 58) (is := 192) (ic := 62) (rest := []) hx hb hst hown (by decide +kernel) (hts _ (List.mem_of_getElem? (i := 1) rfl)) (hts _ (List.mem_of_getElem? (i := 2) rfl)) (by decide +kernel) (vx_hat (fun w h => hts w (List.mem_cons_of_mem _ (List.mem_append_right _ h))) fk_b62 (fun w h => va_Nw.use (fk_dc_on (fk_bad_dc w h)) (hZ.2.2.2 w h))) fk_b62g hZ hK hP hD hS (hl.1.trans hml.symm) hout hlocks dX2_requireBetween_10 dX2_requireBetween_13 dX2_requireBetween_14 dX2_requireBetween_16 dX2_requireBetween_19 ⟨Nat.le_of_ble_eq_true rfl, Nat.le_of_ble_eq_true rfl, Nat.le_of_ble_eq_true rfl, Nat.le_of_ble_eq_true rfl⟩
  · refine lv_iload_n hx hb dX2_requireBetween_5 rfl (lv_at hl 0 rfl) ?_
    refine lv_iload_n hx hb dX2_requireBetween_6 rfl (lv_at hl 2 rfl) ?_
    refine lv_icmp_le (tgt := 20) hx hb dX2_requireBetween_7 (by decide) (fun c_2 => absurd c_2 (fun h9 => by simp [fk_btw, Int32.not_lt.mp c_1, h9] at h)) (fun c_2 => ?_)
    exact fk_throw (cls := "java/lang/IllegalArgumentException") (text := "out of range") (ik := 58) (is := 192) (ic := 62) (rest := []) hx hb hst hown (by decide +kernel) (hts _ (List.mem_of_getElem? (i := 1) rfl)) (hts _ (List.mem_of_getElem? (i := 2) rfl)) (by decide +kernel) (vx_hat (fun w h => hts w (List.mem_cons_of_mem _ (List.mem_append_right _ h))) fk_b62 (fun w h => va_Nw.use (fk_dc_on (fk_bad_dc w h)) (hZ.2.2.2 w h))) fk_b62g hZ hK hP hD hS (hl.1.trans hml.symm) hout hlocks dX2_requireBetween_10 dX2_requireBetween_13 dX2_requireBetween_14 dX2_requireBetween_16 dX2_requireBetween_19 ⟨Nat.le_of_ble_eq_true rfl, Nat.le_of_ble_eq_true rfl, Nat.le_of_ble_eq_true rfl, Nat.le_of_ble_eq_true rfl⟩

abbrev rmX2_requireRunning : Room := { frames := 0, cells := 0, slots := 0, locals := 0 }
set_option maxHeartbeats 4000000 in
set_option maxRecDepth 100000 in
theorem kc_requireRunning (l : Launch) (D : va_G) (ad : Nat → Nat) (cI cT cJ : ClassId) (X : va_W) (S : fk_S) (t : Nat) (ht : t < 8) (h : S 1 t = 0) : fk_C l D (fk_ty cI cT cJ) yX2_requireRunning wsX2_requireRunning rmX2_requireRunning [.ref (ad (3 + t))] (fk_kW ad cI cT S ++ X) none (fk_kW ad cI cT S ++ X) := by
  refine fk_C_of (cc := cX2_requireRunning) (maxL := 1) (ret := none) (own := RX2) (by decide) rfl rfl (Nat.le_of_ble_eq_true rfl) ?_
  intro p e s m below meth c A ls hx hb hr hlocks hml hts hown hA hP hK hD hl
  have hS : va_S A s.heap s.heap [] := va_S.rf
  have hl : lv_has ls 1 [(0, .ref (ad (3 + t)))] := hl
  have hiX1 : ∀ w ∈ u_ws RX1 TX1 11, w ∈ wsX2_requireRunning := by decide +kernel
  refine lv_aload_n hx hb dX2_requireRunning_0 rfl (lv_at hl 0 rfl) ?_
  refine fk_getT hx hb hts hiX1 hown hK hP ht 2 (by decide) (v := .int (S 1 t)) rfl (List.mem_of_getElem? (i := 3) rfl) rfl dX2_requireRunning_1 ?_
  refine lv_if_eq (tgt := 17) hx hb dX2_requireRunning_4 (by decide) (fun c_1 => ?_) (fun c_1 => absurd h c_1)
  exact fk_vret hx hb hr hlocks hP hK hD hS (congrArg (fun z => fk_kW ad cI cT z ++ X) (by first | rfl | simp [c_1])) (by rfl) dX2_requireRunning_17

set_option maxHeartbeats 4000000 in
set_option maxRecDepth 100000 in
theorem kx_requireRunning (l : Launch) (D : va_G) (ad : Nat → Nat) (cI cT cJ : ClassId) (X : va_W) (S : fk_S) (hst : l.stackTraces = false) (t : Nat) (ht : t < 8) (h : ¬ S 1 t = 0) : fk_X l D (fk_ty cI cT cJ) yX2_requireRunning wsX2_requireRunning rx_grd [.ref (ad (3 + t))] (fk_kW ad cI cT S ++ X) "java/lang/IllegalStateException" := by
  refine fk_X_of (cc := cX2_requireRunning) (maxL := 1) (ret := none) (own := RX2) (by decide) rfl rfl (Nat.le_of_ble_eq_true rfl) ?_
  intro p e s m below meth c A ls hx hb hout hlocks hml hts hown hA hP hK hD hZ hl
  have hS : va_S A s.heap s.heap [] := va_S.rf
  have hl : lv_has ls 1 [(0, .ref (ad (3 + t)))] := hl
  have hiX1 : ∀ w ∈ u_ws RX1 TX1 11, w ∈ wsX2_requireRunning := by decide +kernel
  refine lv_aload_n hx hb dX2_requireRunning_0 rfl (lv_at hl 0 rfl) ?_
  refine fk_getT hx hb hts hiX1 hown hK hP ht 2 (by decide) (v := .int (S 1 t)) rfl (List.mem_of_getElem? (i := 3) rfl) rfl dX2_requireRunning_1 ?_
  refine lv_if_eq (tgt := 17) hx hb dX2_requireRunning_4 (by decide) (fun c_1 => absurd c_1 h) (fun c_1 => ?_)
  exact fk_throw (cls := "java/lang/IllegalStateException") (text := "not RUNNING") (ik := 84) (is := 194) (ic := 88) (rest := []) hx hb hst hown (by decide +kernel) (hts _ (List.mem_of_getElem? (i := 1) rfl)) (hts _ (List.mem_of_getElem? (i := 2) rfl)) (by decide +kernel) (vx_hat (fun w h => hts w (List.mem_cons_of_mem _ (List.mem_append_right _ h))) fk_b88 (fun w h => va_Nw.use (fk_dc_on (fk_bad_dc w h)) (hZ.2.2.2 w h))) fk_b88g hZ hK hP hD hS (hl.1.trans hml.symm) hout hlocks dX2_requireRunning_7 dX2_requireRunning_10 dX2_requireRunning_11 dX2_requireRunning_13 dX2_requireRunning_16 ⟨Nat.le_of_ble_eq_true rfl, Nat.le_of_ble_eq_true rfl, Nat.le_of_ble_eq_true rfl, Nat.le_of_ble_eq_true rfl⟩

abbrev rmX2_requireAlive : Room := { frames := 0, cells := 0, slots := 0, locals := 0 }
set_option maxHeartbeats 4000000 in
set_option maxRecDepth 100000 in
theorem kc_requireAlive (l : Launch) (D : va_G) (ad : Nat → Nat) (cI cT cJ : ClassId) (X : va_W) (S : fk_S) (t : Nat) (ht : t < 8) (h : ¬ S 1 t = 3) : fk_C l D (fk_ty cI cT cJ) yX2_requireAlive wsX2_requireAlive rmX2_requireAlive [.ref (ad (3 + t))] (fk_kW ad cI cT S ++ X) none (fk_kW ad cI cT S ++ X) := by
  refine fk_C_of (cc := cX2_requireAlive) (maxL := 1) (ret := none) (own := RX2) (by decide) rfl rfl (Nat.le_of_ble_eq_true rfl) ?_
  intro p e s m below meth c A ls hx hb hr hlocks hml hts hown hA hP hK hD hl
  have hS : va_S A s.heap s.heap [] := va_S.rf
  have hl : lv_has ls 1 [(0, .ref (ad (3 + t)))] := hl
  have hiX1 : ∀ w ∈ u_ws RX1 TX1 11, w ∈ wsX2_requireAlive := by decide +kernel
  refine lv_aload_n hx hb dX2_requireAlive_0 rfl (lv_at hl 0 rfl) ?_
  refine fk_getT hx hb hts hiX1 hown hK hP ht 2 (by decide) (v := .int (S 1 t)) rfl (List.mem_of_getElem? (i := 3) rfl) rfl dX2_requireAlive_1 ?_
  refine lv_iconst (v := 3) hx hb dX2_requireAlive_4 (by decide) ?_
  refine lv_icmp_ne (tgt := 18) hx hb dX2_requireAlive_5 (by decide) (fun c_1 => ?_) (fun c => absurd c h)
  exact fk_vret hx hb hr hlocks hP hK hD hS (congrArg (fun z => fk_kW ad cI cT z ++ X) (by first | rfl | simp [c_1])) (by rfl) dX2_requireAlive_18

set_option maxHeartbeats 4000000 in
set_option maxRecDepth 100000 in
theorem kx_requireAlive (l : Launch) (D : va_G) (ad : Nat → Nat) (cI cT cJ : ClassId) (X : va_W) (S : fk_S) (hst : l.stackTraces = false) (t : Nat) (ht : t < 8) (h : S 1 t = 3) : fk_X l D (fk_ty cI cT cJ) yX2_requireAlive wsX2_requireAlive rx_grd [.ref (ad (3 + t))] (fk_kW ad cI cT S ++ X) "java/lang/IllegalStateException" := by
  refine fk_X_of (cc := cX2_requireAlive) (maxL := 1) (ret := none) (own := RX2) (by decide) rfl rfl (Nat.le_of_ble_eq_true rfl) ?_
  intro p e s m below meth c A ls hx hb hout hlocks hml hts hown hA hP hK hD hZ hl
  have hS : va_S A s.heap s.heap [] := va_S.rf
  have hl : lv_has ls 1 [(0, .ref (ad (3 + t)))] := hl
  have hiX1 : ∀ w ∈ u_ws RX1 TX1 11, w ∈ wsX2_requireAlive := by decide +kernel
  refine lv_aload_n hx hb dX2_requireAlive_0 rfl (lv_at hl 0 rfl) ?_
  refine fk_getT hx hb hts hiX1 hown hK hP ht 2 (by decide) (v := .int (S 1 t)) rfl (List.mem_of_getElem? (i := 3) rfl) rfl dX2_requireAlive_1 ?_
  refine lv_iconst (v := 3) hx hb dX2_requireAlive_4 (by decide) ?_
  refine lv_icmp_ne (tgt := 18) hx hb dX2_requireAlive_5 (by decide) (fun c_1 => absurd c_1 (fun h9 => h9 h)) (fun c_1 => ?_)
  exact fk_throw (cls := "java/lang/IllegalStateException") (text := "DEAD") (ik := 84) (is := 196) (ic := 88) (rest := []) hx hb hst hown (by decide +kernel) (hts _ (List.mem_of_getElem? (i := 1) rfl)) (hts _ (List.mem_of_getElem? (i := 2) rfl)) (by decide +kernel) (vx_hat (fun w h => hts w (List.mem_cons_of_mem _ (List.mem_append_right _ h))) fk_b88 (fun w h => va_Nw.use (fk_dc_on (fk_bad_dc w h)) (hZ.2.2.2 w h))) fk_b88g hZ hK hP hD hS (hl.1.trans hml.symm) hout hlocks dX2_requireAlive_8 dX2_requireAlive_11 dX2_requireAlive_12 dX2_requireAlive_14 dX2_requireAlive_17 ⟨Nat.le_of_ble_eq_true rfl, Nat.le_of_ble_eq_true rfl, Nat.le_of_ble_eq_true rfl, Nat.le_of_ble_eq_true rfl⟩
