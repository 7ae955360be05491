abbrev rmX2_isAddress : Room := { frames := 0, cells := 0, slots := 0, locals := 0 }
set_option maxHeartbeats 4000000 in
set_option maxRecDepth 100000 in
theorem kc_isAddress (l : Launch) (D : va_G) (ad : Nat → Nat) (cI cT cJ : ClassId) (X : va_W) (S : fk_S) (a : Int32) : fk_C l D (fk_ty cI cT cJ) yX2_isAddress wsX2_isAddress rmX2_isAddress [.int a] (fk_kW ad cI cT S ++ X) (some (.int (fk_b (fk_isA a)))) (fk_kW ad cI cT S ++ X) := by
  refine fk_C_of (cc := cX2_isAddress) (maxL := 1) (ret := (some .boolean)) (own := RX2) (by decide) rfl rfl (Nat.le_of_ble_eq_true rfl) ?_
  intro p e s m below meth c A ls hx hb hr hlocks hml hts hown hA hP hK hD hl
  have hS : va_S A s.heap s.heap [] := va_S.rf
  have hl : lv_has ls 1 [(0, .int a)] := hl
  refine lv_iload_n hx hb dX2_isAddress_0 rfl (lv_at hl 0 rfl) ?_
  refine lv_if_lt (tgt := 14) hx hb dX2_isAddress_1 (by decide) (fun c_1 => ?_) (fun c_1 => ?_)
  · refine lv_iconst (v := 0) hx hb dX2_isAddress_14 (by decide) ?_
    exact fk_zret hx hb hr hlocks hP hK hD hS (congrArg (fun z => fk_kW ad cI cT z ++ X) (by first | rfl | simp [fk_b, fk_isA, Int32.not_lt, Int32.not_le, c_1, Int32.not_le.mpr c_1])) rfl (by simp [fk_b, fk_isA, c_1, Int32.not_le.mpr c_1]) dX2_isAddress_15
  · refine lv_iload_n hx hb dX2_isAddress_4 rfl (lv_at hl 0 rfl) ?_
    refine lv_bipush (v := 16) hx hb dX2_isAddress_5 (by decide) ?_
    refine lv_icmp_ge (tgt := 14) hx hb dX2_isAddress_7 (by decide) (fun c_2 => ?_) (fun c_2 => ?_)
    · refine lv_iconst (v := 0) hx hb dX2_isAddress_14 (by decide) ?_
      exact fk_zret hx hb hr hlocks hP hK hD hS (congrArg (fun z => fk_kW ad cI cT z ++ X) (by first | rfl | simp [fk_b, fk_isA, Int32.not_lt, Int32.not_le, c_1, Int32.not_lt.mp c_1, c_2, Int32.not_lt.mpr c_2])) rfl (by simp [fk_b, fk_isA, c_1, Int32.not_lt.mp c_1, c_2, Int32.not_lt.mpr c_2]) dX2_isAddress_15
    · refine lv_iconst (v := 1) hx hb dX2_isAddress_10 (by decide) ?_
      refine lv_goto (tgt := 15) hx hb dX2_isAddress_11 (by decide) ?_
      exact fk_zret hx hb hr hlocks hP hK hD hS (congrArg (fun z => fk_kW ad cI cT z ++ X) (by first | rfl | simp [fk_b, fk_isA, Int32.not_lt, Int32.not_le, c_1, Int32.not_lt.mp c_1, c_2, Int32.not_le.mp c_2])) rfl (by simp [fk_b, fk_isA, c_1, Int32.not_lt.mp c_1, c_2, Int32.not_le.mp c_2]) dX2_isAddress_15

abbrev rmX1_bit : Room := { frames := 0, cells := 0, slots := 0, locals := 0 }
set_option maxHeartbeats 4000000 in
set_option maxRecDepth 100000 in
theorem kc_bit (l : Launch) (D : va_G) (ad : Nat → Nat) (cI cT cJ : ClassId) (X : va_W) (S : fk_S) (t : Nat) (ht : t < 8) : fk_C l D (fk_ty cI cT cJ) yX1_bit wsX1_bit rmX1_bit [.ref (ad (3 + t))] (fk_kW ad cI cT S ++ X) (some (.int (kk_bit t))) (fk_kW ad cI cT S ++ X) := by
  refine fk_C_of (cc := cX1_bit) (maxL := 1) (ret := (some .int)) (own := RX1) (by decide) rfl rfl (Nat.le_of_ble_eq_true rfl) ?_
  intro p e s m below meth c A ls hx hb hr hlocks hml hts hown hA hP hK hD hl
  have hS : va_S A s.heap s.heap [] := va_S.rf
  have hl : lv_has ls 1 [(0, .ref (ad (3 + t)))] := hl
  have hiX1 : ∀ w ∈ u_ws RX1 TX1 11, w ∈ wsX1_bit := by decide +kernel
  refine lv_iconst (v := 1) hx hb dX1_bit_0 (by decide) ?_
  refine lv_aload_n hx hb dX1_bit_1 rfl (lv_at hl 0 rfl) ?_
  refine fk_getT hx hb hts hiX1 hown hK hP ht 0 (by decide) (v := .int (nI t)) rfl (List.mem_of_getElem? (i := 1) rfl) rfl dX1_bit_2 ?_
  refine lv_ishl hx hb dX1_bit_5 ?_
  exact fk_iret hx hb hr hlocks hP hK hD hS (congrArg (fun z => fk_kW ad cI cT z ++ X) (by first | rfl | simp [])) (by rfl) dX1_bit_6

abbrev rmX1_isQueued : Room := { frames := 0, cells := 0, slots := 0, locals := 0 }
set_option maxHeartbeats 4000000 in
set_option maxRecDepth 100000 in
theorem kc_isQueued (l : Launch) (D : va_G) (ad : Nat → Nat) (cI cT cJ : ClassId) (X : va_W) (S : fk_S) (t : Nat) (ht : t < 8) : fk_C l D (fk_ty cI cT cJ) yX1_isQueued wsX1_isQueued rmX1_isQueued [.ref (ad (3 + t))] (fk_kW ad cI cT S ++ X) (some (.int (fk_b (kk_q S t)))) (fk_kW ad cI cT S ++ X) := by
  refine fk_C_of (cc := cX1_isQueued) (maxL := 1) (ret := (some .boolean)) (own := RX1) (by decide) rfl rfl (Nat.le_of_ble_eq_true rfl) ?_
  intro p e s m below meth c A ls hx hb hr hlocks hml hts hown hA hP hK hD hl
  have hS : va_S A s.heap s.heap [] := va_S.rf
  have hl : lv_has ls 1 [(0, .ref (ad (3 + t)))] := hl
  have hiX1 : ∀ w ∈ u_ws RX1 TX1 11, w ∈ wsX1_isQueued := by decide +kernel
  refine lv_aload_n hx hb dX1_isQueued_0 rfl (lv_at hl 0 rfl) ?_
  refine fk_getT hx hb hts hiX1 hown hK hP ht 4 (by decide) (v := .int (S 3 t)) rfl (List.mem_of_getElem? (i := 1) rfl) rfl dX1_isQueued_1 ?_
  refine lv_iconst (v := (-1)) hx hb dX1_isQueued_4 (by decide) ?_
  refine lv_icmp_eq (tgt := 12) hx hb dX1_isQueued_5 (by decide) (fun c_1 => ?_) (fun c_1 => ?_)
  · refine lv_iconst (v := 0) hx hb dX1_isQueued_12 (by decide) ?_
    exact fk_zret hx hb hr hlocks hP hK hD hS (congrArg (fun z => fk_kW ad cI cT z ++ X) (by first | rfl | simp [c_1])) rfl (by first | rfl | simp [fk_b, kk_q, c_1] | simp_all [fk_b, kk_q]) dX1_isQueued_13
  · refine lv_iconst (v := 1) hx hb dX1_isQueued_8 (by decide) ?_
    refine lv_goto (tgt := 13) hx hb dX1_isQueued_9 (by decide) ?_
    exact fk_zret hx hb hr hlocks hP hK hD hS (congrArg (fun z => fk_kW ad cI cT z ++ X) (by first | rfl | simp [c_1])) rfl (by first | rfl | simp [fk_b, kk_q, c_1] | simp_all [fk_b, kk_q]) dX1_isQueued_13

abbrev rmX1_isAheadOf : Room := { frames := 0, cells := 0, slots := 0, locals := 0 }
set_option maxHeartbeats 4000000 in
set_option maxRecDepth 100000 in
theorem kc_isAheadOf (l : Launch) (D : va_G) (ad : Nat → Nat) (cI cT cJ : ClassId) (X : va_W) (S : fk_S) (t u : Nat) (ht : t < 8) (hu : u < 8) : fk_C l D (fk_ty cI cT cJ) yX1_isAheadOf wsX1_isAheadOf rmX1_isAheadOf [.ref (ad (3 + t)), .ref (ad (3 + u))] (fk_kW ad cI cT S ++ X) (some (.int (fk_b (kk_ahead S t u)))) (fk_kW ad cI cT S ++ X) := by
  refine fk_C_of (cc := cX1_isAheadOf) (maxL := 2) (ret := (some .boolean)) (own := RX1) (by decide) rfl rfl (Nat.le_of_ble_eq_true rfl) ?_
  intro p e s m below meth c A ls hx hb hr hlocks hml hts hown hA hP hK hD hl
  have hS : va_S A s.heap s.heap [] := va_S.rf
  have hl : lv_has ls 2 [(0, .ref (ad (3 + t))), (1, .ref (ad (3 + u)))] := hl
  have hiX1 : ∀ w ∈ u_ws RX1 TX1 11, w ∈ wsX1_isAheadOf := by decide +kernel
  refine lv_aload_n hx hb dX1_isAheadOf_0 rfl (lv_at hl 0 rfl) ?_
  refine fk_getT hx hb hts hiX1 hown hK hP ht 3 (by decide) (v := .int (S 2 t)) rfl (List.mem_of_getElem? (i := 1) rfl) rfl dX1_isAheadOf_1 ?_
  refine lv_aload_n hx hb dX1_isAheadOf_4 rfl (lv_at hl 1 rfl) ?_
  refine fk_getT hx hb hts hiX1 hown hK hP hu 3 (by decide) (v := .int (S 2 u)) rfl (List.mem_of_getElem? (i := 1) rfl) rfl dX1_isAheadOf_5 ?_
  refine lv_icmp_gt (tgt := 33) hx hb dX1_isAheadOf_8 (by decide) (fun c_1 => ?_) (fun c_1 => ?_)
  · refine lv_iconst (v := 1) hx hb dX1_isAheadOf_33 (by decide) ?_
    refine lv_goto (tgt := 38) hx hb dX1_isAheadOf_34 (by decide) ?_
    exact fk_zret hx hb hr hlocks hP hK hD hS (congrArg (fun z => fk_kW ad cI cT z ++ X) (by first | rfl | simp [c_1, Int32.not_le.mpr c_1])) rfl (by first | rfl | simp [fk_b, kk_ahead, c_1, Int32.not_le.mpr c_1] | simp_all [fk_b, kk_ahead]) dX1_isAheadOf_38
  · refine lv_aload_n hx hb dX1_isAheadOf_11 rfl (lv_at hl 0 rfl) ?_
    refine fk_getT hx hb hts hiX1 hown hK hP ht 3 (by decide) (v := .int (S 2 t)) rfl (List.mem_of_getElem? (i := 1) rfl) rfl dX1_isAheadOf_12 ?_
    refine lv_aload_n hx hb dX1_isAheadOf_15 rfl (lv_at hl 1 rfl) ?_
    refine fk_getT hx hb hts hiX1 hown hK hP hu 3 (by decide) (v := .int (S 2 u)) rfl (List.mem_of_getElem? (i := 1) rfl) rfl dX1_isAheadOf_16 ?_
    refine lv_icmp_ne (tgt := 37) hx hb dX1_isAheadOf_19 (by decide) (fun c_2 => ?_) (fun c_2 => ?_)
    · refine lv_iconst (v := 0) hx hb dX1_isAheadOf_37 (by decide) ?_
      exact fk_zret hx hb hr hlocks hP hK hD hS (congrArg (fun z => fk_kW ad cI cT z ++ X) (by first | rfl | simp [c_1, Int32.not_lt.mp c_1, c_2])) rfl (by first | rfl | simp [fk_b, kk_ahead, c_1, Int32.not_lt.mp c_1, c_2] | simp_all [fk_b, kk_ahead]) dX1_isAheadOf_38
    · refine lv_aload_n hx hb dX1_isAheadOf_22 rfl (lv_at hl 0 rfl) ?_
      refine fk_getT hx hb hts hiX1 hown hK hP ht 8 (by decide) (v := .int (S 7 t)) rfl (List.mem_of_getElem? (i := 2) rfl) rfl dX1_isAheadOf_23 ?_
      refine lv_aload_n hx hb dX1_isAheadOf_26 rfl (lv_at hl 1 rfl) ?_
      refine fk_getT hx hb hts hiX1 hown hK hP hu 8 (by decide) (v := .int (S 7 u)) rfl (List.mem_of_getElem? (i := 2) rfl) rfl dX1_isAheadOf_27 ?_
      refine lv_icmp_ge (tgt := 37) hx hb dX1_isAheadOf_30 (by decide) (fun c_3 => ?_) (fun c_3 => ?_)
      · refine lv_iconst (v := 0) hx hb dX1_isAheadOf_37 (by decide) ?_
        exact fk_zret hx hb hr hlocks hP hK hD hS (congrArg (fun z => fk_kW ad cI cT z ++ X) (by first | rfl | simp [c_1, Int32.not_lt.mp c_1, c_2, c_3, Int32.not_lt.mpr c_3])) rfl (by first | rfl | simp [fk_b, kk_ahead, c_1, Int32.not_lt.mp c_1, c_2, c_3, Int32.not_lt.mpr c_3] | simp_all [fk_b, kk_ahead]) dX1_isAheadOf_38
      · refine lv_iconst (v := 1) hx hb dX1_isAheadOf_33 (by decide) ?_
        refine lv_goto (tgt := 38) hx hb dX1_isAheadOf_34 (by decide) ?_
        exact fk_zret hx hb hr hlocks hP hK hD hS (congrArg (fun z => fk_kW ad cI cT z ++ X) (by first | rfl | simp [c_1, Int32.not_lt.mp c_1, c_2, c_3, Int32.not_le.mp c_3])) rfl (by first | rfl | simp [fk_b, kk_ahead, c_1, Int32.not_lt.mp c_1, c_2, c_3, Int32.not_le.mp c_3] | simp_all [fk_b, kk_ahead]) dX1_isAheadOf_38

abbrev rmX1_timesOutBefore : Room := { frames := 0, cells := 0, slots := 0, locals := 0 }
set_option maxHeartbeats 4000000 in
set_option maxRecDepth 100000 in
theorem kc_timesOutBefore (l : Launch) (D : va_G) (ad : Nat → Nat) (cI cT cJ : ClassId) (X : va_W) (S : fk_S) (t u : Nat) (ht : t < 8) (hu : u < 8) : fk_C l D (fk_ty cI cT cJ) yX1_timesOutBefore wsX1_timesOutBefore rmX1_timesOutBefore [.ref (ad (3 + t)), .ref (ad (3 + u))] (fk_kW ad cI cT S ++ X) (some (.int (fk_b (kk_sooner S t u)))) (fk_kW ad cI cT S ++ X) := by
  refine fk_C_of (cc := cX1_timesOutBefore) (maxL := 2) (ret := (some .boolean)) (own := RX1) (by decide) rfl rfl (Nat.le_of_ble_eq_true rfl) ?_
  intro p e s m below meth c A ls hx hb hr hlocks hml hts hown hA hP hK hD hl
  have hS : va_S A s.heap s.heap [] := va_S.rf
  have hl : lv_has ls 2 [(0, .ref (ad (3 + t))), (1, .ref (ad (3 + u)))] := hl
  have hiX1 : ∀ w ∈ u_ws RX1 TX1 11, w ∈ wsX1_timesOutBefore := by decide +kernel
  refine lv_aload_n hx hb dX1_timesOutBefore_0 rfl (lv_at hl 0 rfl) ?_
  refine fk_getT hx hb hts hiX1 hown hK hP ht 6 (by decide) (v := .int (S 5 t)) rfl (List.mem_of_getElem? (i := 1) rfl) rfl dX1_timesOutBefore_1 ?_
  refine lv_aload_n hx hb dX1_timesOutBefore_4 rfl (lv_at hl 1 rfl) ?_
  refine fk_getT hx hb hts hiX1 hown hK hP hu 6 (by decide) (v := .int (S 5 u)) rfl (List.mem_of_getElem? (i := 1) rfl) rfl dX1_timesOutBefore_5 ?_
  refine lv_icmp_lt (tgt := 33) hx hb dX1_timesOutBefore_8 (by decide) (fun c_1 => ?_) (fun c_1 => ?_)
  · refine lv_iconst (v := 1) hx hb dX1_timesOutBefore_33 (by decide) ?_
    refine lv_goto (tgt := 38) hx hb dX1_timesOutBefore_34 (by decide) ?_
    exact fk_zret hx hb hr hlocks hP hK hD hS (congrArg (fun z => fk_kW ad cI cT z ++ X) (by first | rfl | simp [c_1, Int32.not_le.mpr c_1])) rfl (by first | rfl | simp [fk_b, kk_sooner, c_1, Int32.not_le.mpr c_1] | simp_all [fk_b, kk_sooner]) dX1_timesOutBefore_38
  · refine lv_aload_n hx hb dX1_timesOutBefore_11 rfl (lv_at hl 0 rfl) ?_
    refine fk_getT hx hb hts hiX1 hown hK hP ht 6 (by decide) (v := .int (S 5 t)) rfl (List.mem_of_getElem? (i := 1) rfl) rfl dX1_timesOutBefore_12 ?_
    refine lv_aload_n hx hb dX1_timesOutBefore_15 rfl (lv_at hl 1 rfl) ?_
    refine fk_getT hx hb hts hiX1 hown hK hP hu 6 (by decide) (v := .int (S 5 u)) rfl (List.mem_of_getElem? (i := 1) rfl) rfl dX1_timesOutBefore_16 ?_
    refine lv_icmp_ne (tgt := 37) hx hb dX1_timesOutBefore_19 (by decide) (fun c_2 => ?_) (fun c_2 => ?_)
    · refine lv_iconst (v := 0) hx hb dX1_timesOutBefore_37 (by decide) ?_
      exact fk_zret hx hb hr hlocks hP hK hD hS (congrArg (fun z => fk_kW ad cI cT z ++ X) (by first | rfl | simp [c_1, Int32.not_lt.mp c_1, c_2])) rfl (by first | rfl | simp [fk_b, kk_sooner, c_1, Int32.not_lt.mp c_1, c_2] | simp_all [fk_b, kk_sooner]) dX1_timesOutBefore_38
    · refine lv_aload_n hx hb dX1_timesOutBefore_22 rfl (lv_at hl 0 rfl) ?_
      refine fk_getT hx hb hts hiX1 hown hK hP ht 7 (by decide) (v := .int (S 6 t)) rfl (List.mem_of_getElem? (i := 2) rfl) rfl dX1_timesOutBefore_23 ?_
      refine lv_aload_n hx hb dX1_timesOutBefore_26 rfl (lv_at hl 1 rfl) ?_
      refine fk_getT hx hb hts hiX1 hown hK hP hu 7 (by decide) (v := .int (S 6 u)) rfl (List.mem_of_getElem? (i := 2) rfl) rfl dX1_timesOutBefore_27 ?_
      refine lv_icmp_ge (tgt := 37) hx hb dX1_timesOutBefore_30 (by decide) (fun c_3 => ?_) (fun c_3 => ?_)
      · refine lv_iconst (v := 0) hx hb dX1_timesOutBefore_37 (by decide) ?_
        exact fk_zret hx hb hr hlocks hP hK hD hS (congrArg (fun z => fk_kW ad cI cT z ++ X) (by first | rfl | simp [c_1, Int32.not_lt.mp c_1, c_2, c_3, Int32.not_lt.mpr c_3])) rfl (by first | rfl | simp [fk_b, kk_sooner, c_1, Int32.not_lt.mp c_1, c_2, c_3, Int32.not_lt.mpr c_3] | simp_all [fk_b, kk_sooner]) dX1_timesOutBefore_38
      · refine lv_iconst (v := 1) hx hb dX1_timesOutBefore_33 (by decide) ?_
        refine lv_goto (tgt := 38) hx hb dX1_timesOutBefore_34 (by decide) ?_
        exact fk_zret hx hb hr hlocks hP hK hD hS (congrArg (fun z => fk_kW ad cI cT z ++ X) (by first | rfl | simp [c_1, Int32.not_lt.mp c_1, c_2, c_3, Int32.not_le.mp c_3])) rfl (by first | rfl | simp [fk_b, kk_sooner, c_1, Int32.not_lt.mp c_1, c_2, c_3, Int32.not_le.mp c_3] | simp_all [fk_b, kk_sooner]) dX1_timesOutBefore_38

abbrev rmX2_bucketOf : Room := { frames := 0, cells := 0, slots := 0, locals := 0 }
set_option maxHeartbeats 4000000 in
set_option maxRecDepth 100000 in
theorem kc_bucketOf (l : Launch) (D : va_G) (ad : Nat → Nat) (cI cT cJ : ClassId) (X : va_W) (S : fk_S) (a : Int32) : fk_C l D (fk_ty cI cT cJ) yX2_bucketOf wsX2_bucketOf rmX2_bucketOf [.int a] (fk_kW ad cI cT S ++ X) (some (.int (fk_bkt a))) (fk_kW ad cI cT S ++ X) := by
  refine fk_C_of (cc := cX2_bucketOf) (maxL := 1) (ret := (some .int)) (own := RX2) (by decide) rfl rfl (Nat.le_of_ble_eq_true rfl) ?_
  intro p e s m below meth c A ls hx hb hr hlocks hml hts hown hA hP hK hD hl
  have hS : va_S A s.heap s.heap [] := va_S.rf
  have hl : lv_has ls 1 [(0, .int a)] := hl
  refine lv_iload_n hx hb dX2_bucketOf_0 rfl (lv_at hl 0 rfl) ?_
  refine lv_iload_n hx hb dX2_bucketOf_1 rfl (lv_at hl 0 rfl) ?_
  refine lv_iconst (v := 4) hx hb dX2_bucketOf_2 (by decide) ?_
  refine lv_idiv hx hb dX2_bucketOf_3 (by decide) ?_
  refine lv_iadd hx hb dX2_bucketOf_4 ?_
  refine lv_iconst (v := 4) hx hb dX2_bucketOf_5 (by decide) ?_
  refine lv_irem hx hb dX2_bucketOf_6 (by decide) ?_
  exact fk_iret hx hb hr hlocks hP hK hD hS (congrArg (fun z => fk_kW ad cI cT z ++ X) (by first | rfl | simp [])) (by rfl) dX2_bucketOf_7

abbrev rmX2_joinQueue : Room := { frames := 0, cells := 0, slots := 0, locals := 0 }
set_option maxHeartbeats 4000000 in
set_option maxRecDepth 100000 in
theorem kc_joinQueue (l : Launch) (D : va_G) (ad : Nat → Nat) (cI cT cJ : ClassId) (X : va_W) (S : fk_S) (t : Nat) (a : Int32) (ht : t < 8) : fk_C l D (fk_ty cI cT cJ) yX2_joinQueue wsX2_joinQueue rmX2_joinQueue [.ref (ad 0), .ref (ad (3 + t)), .int a] (fk_kW ad cI cT S ++ X) none (fk_kW ad cI cT (kk_join S t a) ++ X) := by
  refine fk_C_of (cc := cX2_joinQueue) (maxL := 3) (ret := none) (own := RX2) (by decide) rfl rfl (Nat.le_of_ble_eq_true rfl) ?_
  intro p e s m below meth c A ls hx hb hr hlocks hml hts hown hA hP hK hD hl
  have hS : va_S A s.heap s.heap [] := va_S.rf
  have hl : lv_has ls 3 [(0, .ref (ad 0)), (1, .ref (ad (3 + t))), (2, .int a)] := hl
  have hiX1 : ∀ w ∈ u_ws RX1 TX1 11, w ∈ wsX2_joinQueue := by decide +kernel
  have hiX2 : ∀ w ∈ u_ws RX2 TX2 6, w ∈ wsX2_joinQueue := by decide +kernel
  refine lv_aload_n hx hb dX2_joinQueue_0 rfl (lv_at hl 1 rfl) ?_
  refine lv_iload_n hx hb dX2_joinQueue_1 rfl (lv_at hl 2 rfl) ?_
  refine fk_putT (v := a) hx hb hts hiX1 hown hK hP hD hS ht 3 (by decide) (by decide) (by simp [fk_fT, fk_up]) (List.mem_of_getElem? (i := 1) rfl) rfl rfl (by decide +kernel) dX2_joinQueue_2 (fun H locs hP hD hS => ?_)
  refine lv_aload_n hx hb dX2_joinQueue_5 rfl (lv_at hl 0 rfl) ?_
  refine lv_dup hx hb dX2_joinQueue_6 rfl ?_
  refine fk_getK hx hb hts hiX2 hown hK hP 5 (by decide) (v := .int (S 12 3)) (by simp [fk_fK, fk_up]) (List.mem_of_getElem? (i := 2) rfl) rfl dX2_joinQueue_7 ?_
  refine lv_iconst (v := 1) hx hb dX2_joinQueue_10 (by decide) ?_
  refine lv_iadd hx hb dX2_joinQueue_11 ?_
  refine fk_putK (v := ((S 12 3) + 1)) hx hb hts hiX2 hown hK hP hD hS 3 (by decide) (by simp [fk_fK, fk_up]) (List.mem_of_getElem? (i := 2) rfl) rfl rfl (by decide +kernel) dX2_joinQueue_12 (fun H locs hP hD hS => ?_)
  refine lv_aload_n hx hb dX2_joinQueue_15 rfl (lv_at hl 1 rfl) ?_
  refine lv_aload_n hx hb dX2_joinQueue_16 rfl (lv_at hl 0 rfl) ?_
  refine fk_getK hx hb hts hiX2 hown hK hP 5 (by decide) (v := .int ((S 12 3) + 1)) (by simp [fk_fK, fk_up]) (List.mem_of_getElem? (i := 2) rfl) rfl dX2_joinQueue_17 ?_
  refine fk_putT (v := ((S 12 3) + 1)) hx hb hts hiX1 hown hK hP hD hS ht 7 (by decide) (by decide) (by simp [fk_fT, fk_up]) (List.mem_of_getElem? (i := 3) rfl) rfl rfl (by decide +kernel) dX2_joinQueue_20 (fun H locs hP hD hS => ?_)
  exact fk_vret hx hb hr hlocks hP hK hD hS (congrArg (fun z => fk_kW ad cI cT z ++ X) (by first | rfl | simp [kk_join])) (by rfl) dX2_joinQueue_23

abbrev rmX0_clear : Room := { frames := 0, cells := 0, slots := 0, locals := 0 }
set_option maxHeartbeats 4000000 in
set_option maxRecDepth 100000 in
theorem kc_clear (l : Launch) (D : va_G) (ad : Nat → Nat) (cI cT cJ : ClassId) (X : va_W) (S : fk_S) (t : Nat) (ht : t < 8) : fk_C l D (fk_ty cI cT cJ) yX0_clear wsX0_clear rmX0_clear [.ref (ad (11 + t))] (fk_kW ad cI cT S ++ X) none (fk_kW ad cI cT (fk_up S 10 t 0) ++ X) := by
  refine fk_C_of (cc := cX0_clear) (maxL := 1) (ret := none) (own := RX0) (by decide) rfl rfl (Nat.le_of_ble_eq_true rfl) ?_
  intro p e s m below meth c A ls hx hb hr hlocks hml hts hown hA hP hK hD hl
  have hS : va_S A s.heap s.heap [] := va_S.rf
  have hl : lv_has ls 1 [(0, .ref (ad (11 + t)))] := hl
  have hiX0 : ∀ w ∈ u_ws RX0 TX0 2, w ∈ wsX0_clear := by decide +kernel
  refine lv_aload_n hx hb dX0_clear_0 rfl (lv_at hl 0 rfl) ?_
  refine lv_iconst (v := 0) hx hb dX0_clear_1 (by decide) ?_
  refine fk_putL (v := 0) hx hb hts hiX0 hown hK hP hD hS ht (List.mem_of_getElem? (i := 1) rfl) dX0_clear_2 (fun H locs hP hD hS => ?_)
  exact fk_vret hx hb hr hlocks hP hK hD hS (congrArg (fun z => fk_kW ad cI cT z ++ X) (by first | rfl | simp [])) (by rfl) dX0_clear_5
