abbrev rmX3_thrown : Room := { frames := 0, cells := 0, slots := 0, locals := 0 }
set_option maxHeartbeats 4000000 in
set_option maxRecDepth 100000 in
theorem mc_thrown (l : Launch) (D : va_G) (bd : Nat → Nat) (cI cT cJ : ClassId) (X : va_W) (S : fk_S)  : fk_C l D (fk_ty cI cT cJ) yX3_thrown wsX3_thrown rmX3_thrown [.ref (bd 0)] (fk_mW bd cI S ++ X) (some (.int (S 12 4))) (fk_mW bd cI S ++ X) := by
  refine fk_C_of (cc := cX3_thrown) (maxL := 1) (ret := (some .int)) (own := RX3) (by decide) rfl rfl (Nat.le_of_ble_eq_true rfl) ?_
  intro p e s m below meth c A ls hx hb hr hlocks hml hts hown hA hP hK hD hl
  have hS : va_S A s.heap s.heap [] := va_S.rf
  have hl : lv_has ls 1 [(0, .ref (bd 0))] := hl
  have hiX3 : ∀ w ∈ u_ws RX3 TX3 17, w ∈ wsX3_thrown := by decide +kernel
  refine lv_aload_n hx hb dX3_thrown_0 rfl (lv_at hl 0 rfl) ?_
  refine fk_getM hx hb hts hiX3 hown hK hP 16 (by decide) (v := .int (S 12 4)) rfl (List.mem_of_getElem? (i := 1) rfl) rfl dX3_thrown_1 ?_
  exact fk_iret hx hb hr hlocks hP hK hD hS (congrArg (fun z => fk_mW bd cI z ++ X) (by first | rfl | simp [])) (by rfl) dX3_thrown_4

abbrev rmX3_fails : Room := { frames := 0, cells := 0, slots := 0, locals := 0 }
set_option maxHeartbeats 4000000 in
set_option maxRecDepth 100000 in
theorem mc_fails (l : Launch) (D : va_G) (bd : Nat → Nat) (cI cT cJ : ClassId) (X : va_W) (S : fk_S) (v : Int32) : fk_C l D (fk_ty cI cT cJ) yX3_fails wsX3_fails rmX3_fails [.ref (bd 0), .int v] (fk_mW bd cI S ++ X) (some (.int 0)) (fk_mW bd cI (mm_set S v) ++ X) := by
  refine fk_C_of (cc := cX3_fails) (maxL := 2) (ret := (some .int)) (own := RX3) (by decide) rfl rfl (Nat.le_of_ble_eq_true rfl) ?_
  intro p e s m below meth c A ls hx hb hr hlocks hml hts hown hA hP hK hD hl
  have hS : va_S A s.heap s.heap [] := va_S.rf
  have hl : lv_has ls 2 [(0, .ref (bd 0)), (1, .int v)] := hl
  have hiX3 : ∀ w ∈ u_ws RX3 TX3 17, w ∈ wsX3_fails := by decide +kernel
  refine lv_aload_n hx hb dX3_fails_0 rfl (lv_at hl 0 rfl) ?_
  refine lv_iload_n hx hb dX3_fails_1 rfl (lv_at hl 1 rfl) ?_
  refine fk_putM (v := v) hx hb hts hiX3 hown hK hP hD hS 4 (by decide) (by simp [fk_fM, fk_up]) (List.mem_of_getElem? (i := 1) rfl) rfl rfl (by decide +kernel) dX3_fails_2 (fun H locs hP hD hS => ?_)
  refine lv_iconst (v := 0) hx hb dX3_fails_5 (by decide) ?_
  exact fk_iret hx hb hr hlocks hP hK hD hS (congrArg (fun z => fk_mW bd cI z ++ X) (by rfl)) (by rfl) dX3_fails_6

abbrev rmX3_asks : Room := { frames := 0, cells := 0, slots := 0, locals := 0 }
set_option maxHeartbeats 4000000 in
set_option maxRecDepth 100000 in
theorem mc_asks (l : Launch) (D : va_G) (bd : Nat → Nat) (cI cT cJ : ClassId) (X : va_W) (S : fk_S) (b : Bool) : fk_C l D (fk_ty cI cT cJ) yX3_asks wsX3_asks rmX3_asks [.ref (bd 0), .int (fk_b b)] (fk_mW bd cI S ++ X) (some (.int (fk_b b))) (fk_mW bd cI (mm_set S (if b = true then 0 else 1)) ++ X) := by
  refine fk_C_of (cc := cX3_asks) (maxL := 2) (ret := (some .boolean)) (own := RX3) (by decide) rfl rfl (Nat.le_of_ble_eq_true rfl) ?_
  intro p e s m below meth c A ls hx hb hr hlocks hml hts hown hA hP hK hD hl
  have hS : va_S A s.heap s.heap [] := va_S.rf
  have hl : lv_has ls 2 [(0, .ref (bd 0)), (1, .int (fk_b b))] := hl
  have hiX3 : ∀ w ∈ u_ws RX3 TX3 17, w ∈ wsX3_asks := by decide +kernel
  cases b with
  | true =>
    have hl : lv_has ls 2 [(0, .ref (bd 0)), (1, .int 1)] := hl
    refine lv_aload_n hx hb dX3_asks_0 rfl (lv_at hl 0 rfl) ?_
    refine lv_iload_n hx hb dX3_asks_1 rfl (lv_at hl 1 rfl) ?_
    refine lv_if_eq (tgt := 9) hx hb dX3_asks_2 (by decide) (fun c => absurd c (by decide)) (fun _ => ?_)
    refine lv_iconst (v := 0) hx hb dX3_asks_5 (by decide) ?_
    refine lv_goto (tgt := 10) hx hb dX3_asks_6 (by decide) ?_
    refine fk_putM (v := 0) hx hb hts hiX3 hown hK hP hD hS 4 (by decide) (by simp [fk_fM, fk_up]) (List.mem_of_getElem? (i := 1) rfl) rfl rfl (by decide +kernel) dX3_asks_10 (fun H locs hP hD hS => ?_)
    refine lv_iload_n hx hb dX3_asks_13 rfl (lv_at hl 1 rfl) ?_
    exact fk_zret hx hb hr hlocks hP hK hD hS (congrArg (fun z => fk_mW bd cI z ++ X) (by rfl)) rfl (by rfl) dX3_asks_14
  | false =>
    have hl : lv_has ls 2 [(0, .ref (bd 0)), (1, .int 0)] := hl
    refine lv_aload_n hx hb dX3_asks_0 rfl (lv_at hl 0 rfl) ?_
    refine lv_iload_n hx hb dX3_asks_1 rfl (lv_at hl 1 rfl) ?_
    refine lv_if_eq (tgt := 9) hx hb dX3_asks_2 (by decide) (fun _ => ?_) (fun c => absurd c (by decide))
    refine lv_iconst (v := 1) hx hb dX3_asks_9 (by decide) ?_
    refine fk_putM (v := 1) hx hb hts hiX3 hown hK hP hD hS 4 (by decide) (by simp [fk_fM, fk_up]) (List.mem_of_getElem? (i := 1) rfl) rfl rfl (by decide +kernel) dX3_asks_10 (fun H locs hP hD hS => ?_)
    refine lv_iload_n hx hb dX3_asks_13 rfl (lv_at hl 1 rfl) ?_
    exact fk_zret hx hb hr hlocks hP hK hD hS (congrArg (fun z => fk_mW bd cI z ++ X) (by rfl)) rfl (by rfl) dX3_asks_14

abbrev rmX3_isThread : Room := { frames := 0, cells := 0, slots := 0, locals := 0 }
set_option maxHeartbeats 4000000 in
set_option maxRecDepth 100000 in
theorem mc_isThread (l : Launch) (D : va_G) (bd : Nat → Nat) (cI cT cJ : ClassId) (X : va_W) (S : fk_S) (a : Int32) : fk_C l D (fk_ty cI cT cJ) yX3_isThread wsX3_isThread rmX3_isThread [.int a] (fk_mW bd cI S ++ X) (some (.int (fk_b (fk_isT a)))) (fk_mW bd cI S ++ X) := by
  refine fk_C_of (cc := cX3_isThread) (maxL := 1) (ret := (some .boolean)) (own := RX3) (by decide) rfl rfl (Nat.le_of_ble_eq_true rfl) ?_
  intro p e s m below meth c A ls hx hb hr hlocks hml hts hown hA hP hK hD hl
  have hS : va_S A s.heap s.heap [] := va_S.rf
  have hl : lv_has ls 1 [(0, .int a)] := hl
  refine lv_iload_n hx hb dX3_isThread_0 rfl (lv_at hl 0 rfl) ?_
  refine lv_if_lt (tgt := 14) hx hb dX3_isThread_1 (by decide) (fun c_1 => ?_) (fun c_1 => ?_)
  · refine lv_iconst (v := 0) hx hb dX3_isThread_14 (by decide) ?_
    exact fk_zret hx hb hr hlocks hP hK hD hS (congrArg (fun z => fk_mW bd cI z ++ X) (by first | rfl | simp [c_1, Int32.not_le.mpr c_1])) rfl (by simp [fk_b, fk_isT, c_1, Int32.not_le.mpr c_1]) dX3_isThread_15
  · refine lv_iload_n hx hb dX3_isThread_4 rfl (lv_at hl 0 rfl) ?_
    refine lv_bipush (v := 8) hx hb dX3_isThread_5 (by decide) ?_
    refine lv_icmp_ge (tgt := 14) hx hb dX3_isThread_7 (by decide) (fun c_2 => ?_) (fun c_2 => ?_)
    · refine lv_iconst (v := 0) hx hb dX3_isThread_14 (by decide) ?_
      exact fk_zret hx hb hr hlocks hP hK hD hS (congrArg (fun z => fk_mW bd cI z ++ X) (by first | rfl | simp [c_1, Int32.not_lt.mp c_1, c_2, Int32.not_lt.mpr c_2])) rfl (by simp [fk_b, fk_isT, c_1, Int32.not_lt.mp c_1, c_2, Int32.not_lt.mpr c_2]) dX3_isThread_15
    · refine lv_iconst (v := 1) hx hb dX3_isThread_10 (by decide) ?_
      refine lv_goto (tgt := 15) hx hb dX3_isThread_11 (by decide) ?_
      exact fk_zret hx hb hr hlocks hP hK hD hS (congrArg (fun z => fk_mW bd cI z ++ X) (by first | rfl | simp [c_1, Int32.not_lt.mp c_1, c_2, Int32.not_le.mp c_2])) rfl (by simp [fk_b, fk_isT, c_1, Int32.not_lt.mp c_1, c_2, Int32.not_le.mp c_2]) dX3_isThread_15

abbrev rmX3_isAddress : Room := { frames := 0, cells := 0, slots := 0, locals := 0 }
set_option maxHeartbeats 4000000 in
set_option maxRecDepth 100000 in
theorem mc_isAddress (l : Launch) (D : va_G) (bd : Nat → Nat) (cI cT cJ : ClassId) (X : va_W) (S : fk_S) (a : Int32) : fk_C l D (fk_ty cI cT cJ) yX3_isAddress wsX3_isAddress rmX3_isAddress [.int a] (fk_mW bd cI S ++ X) (some (.int (fk_b (fk_isA a)))) (fk_mW bd cI S ++ X) := by
  refine fk_C_of (cc := cX3_isAddress) (maxL := 1) (ret := (some .boolean)) (own := RX3) (by decide) rfl rfl (Nat.le_of_ble_eq_true rfl) ?_
  intro p e s m below meth c A ls hx hb hr hlocks hml hts hown hA hP hK hD hl
  have hS : va_S A s.heap s.heap [] := va_S.rf
  have hl : lv_has ls 1 [(0, .int a)] := hl
  refine lv_iload_n hx hb dX3_isAddress_0 rfl (lv_at hl 0 rfl) ?_
  refine lv_if_lt (tgt := 14) hx hb dX3_isAddress_1 (by decide) (fun c_1 => ?_) (fun c_1 => ?_)
  · refine lv_iconst (v := 0) hx hb dX3_isAddress_14 (by decide) ?_
    exact fk_zret hx hb hr hlocks hP hK hD hS (congrArg (fun z => fk_mW bd cI z ++ X) (by first | rfl | simp [c_1, Int32.not_le.mpr c_1])) rfl (by simp [fk_b, fk_isA, c_1, Int32.not_le.mpr c_1]) dX3_isAddress_15
  · refine lv_iload_n hx hb dX3_isAddress_4 rfl (lv_at hl 0 rfl) ?_
    refine lv_bipush (v := 16) hx hb dX3_isAddress_5 (by decide) ?_
    refine lv_icmp_ge (tgt := 14) hx hb dX3_isAddress_7 (by decide) (fun c_2 => ?_) (fun c_2 => ?_)
    · refine lv_iconst (v := 0) hx hb dX3_isAddress_14 (by decide) ?_
      exact fk_zret hx hb hr hlocks hP hK hD hS (congrArg (fun z => fk_mW bd cI z ++ X) (by first | rfl | simp [c_1, Int32.not_lt.mp c_1, c_2, Int32.not_lt.mpr c_2])) rfl (by simp [fk_b, fk_isA, c_1, Int32.not_lt.mp c_1, c_2, Int32.not_lt.mpr c_2]) dX3_isAddress_15
    · refine lv_iconst (v := 1) hx hb dX3_isAddress_10 (by decide) ?_
      refine lv_goto (tgt := 15) hx hb dX3_isAddress_11 (by decide) ?_
      exact fk_zret hx hb hr hlocks hP hK hD hS (congrArg (fun z => fk_mW bd cI z ++ X) (by first | rfl | simp [c_1, Int32.not_lt.mp c_1, c_2, Int32.not_le.mp c_2])) rfl (by simp [fk_b, fk_isA, c_1, Int32.not_lt.mp c_1, c_2, Int32.not_le.mp c_2]) dX3_isAddress_15

abbrev rmX3_isMask : Room := { frames := 0, cells := 0, slots := 0, locals := 0 }
set_option maxHeartbeats 4000000 in
set_option maxRecDepth 100000 in
theorem mc_isMask (l : Launch) (D : va_G) (bd : Nat → Nat) (cI cT cJ : ClassId) (X : va_W) (S : fk_S) (a : Int32) : fk_C l D (fk_ty cI cT cJ) yX3_isMask wsX3_isMask rmX3_isMask [.int a] (fk_mW bd cI S ++ X) (some (.int (fk_b (mm_msk a)))) (fk_mW bd cI S ++ X) := by
  refine fk_C_of (cc := cX3_isMask) (maxL := 1) (ret := (some .boolean)) (own := RX3) (by decide) rfl rfl (Nat.le_of_ble_eq_true rfl) ?_
  intro p e s m below meth c A ls hx hb hr hlocks hml hts hown hA hP hK hD hl
  have hS : va_S A s.heap s.heap [] := va_S.rf
  have hl : lv_has ls 1 [(0, .int a)] := hl
  refine lv_iload_n hx hb dX3_isMask_0 rfl (lv_at hl 0 rfl) ?_
  refine lv_if_le (tgt := 15) hx hb dX3_isMask_1 (by decide) (fun c_1 => ?_) (fun c_1 => ?_)
  · refine lv_iconst (v := 0) hx hb dX3_isMask_15 (by decide) ?_
    exact fk_zret hx hb hr hlocks hP hK hD hS (congrArg (fun z => fk_mW bd cI z ++ X) (by first | rfl | simp [c_1, Int32.not_lt.mpr c_1])) rfl (by simp [fk_b, mm_msk, c_1, Int32.not_lt.mpr c_1]) dX3_isMask_16
  · refine lv_iload_n hx hb dX3_isMask_4 rfl (lv_at hl 0 rfl) ?_
    refine lv_sipush (v := 255) hx hb dX3_isMask_5 (by decide) ?_
    refine lv_icmp_gt (tgt := 15) hx hb dX3_isMask_8 (by decide) (fun c_2 => ?_) (fun c_2 => ?_)
    · refine lv_iconst (v := 0) hx hb dX3_isMask_15 (by decide) ?_
      exact fk_zret hx hb hr hlocks hP hK hD hS (congrArg (fun z => fk_mW bd cI z ++ X) (by first | rfl | simp [c_1, Int32.not_le.mp c_1, c_2, Int32.not_le.mpr c_2])) rfl (by simp [fk_b, mm_msk, c_1, Int32.not_le.mp c_1, c_2, Int32.not_le.mpr c_2]) dX3_isMask_16
    · refine lv_iconst (v := 1) hx hb dX3_isMask_11 (by decide) ?_
      refine lv_goto (tgt := 16) hx hb dX3_isMask_12 (by decide) ?_
      exact fk_zret hx hb hr hlocks hP hK hD hS (congrArg (fun z => fk_mW bd cI z ++ X) (by first | rfl | simp [c_1, Int32.not_le.mp c_1, c_2, Int32.not_lt.mp c_2])) rfl (by simp [fk_b, mm_msk, c_1, Int32.not_le.mp c_1, c_2, Int32.not_lt.mp c_2]) dX3_isMask_16

abbrev rmX3_isTimeout : Room := { frames := 0, cells := 0, slots := 0, locals := 0 }
set_option maxHeartbeats 4000000 in
set_option maxRecDepth 100000 in
theorem mc_isTimeout (l : Launch) (D : va_G) (bd : Nat → Nat) (cI cT cJ : ClassId) (X : va_W) (S : fk_S) (a : Int32) : fk_C l D (fk_ty cI cT cJ) yX3_isTimeout wsX3_isTimeout rmX3_isTimeout [.int a] (fk_mW bd cI S ++ X) (some (.int (fk_b (mm_tmo a)))) (fk_mW bd cI S ++ X) := by
  refine fk_C_of (cc := cX3_isTimeout) (maxL := 1) (ret := (some .boolean)) (own := RX3) (by decide) rfl rfl (Nat.le_of_ble_eq_true rfl) ?_
  intro p e s m below meth c A ls hx hb hr hlocks hml hts hown hA hP hK hD hl
  have hS : va_S A s.heap s.heap [] := va_S.rf
  have hl : lv_has ls 1 [(0, .int a)] := hl
  refine lv_iload_n hx hb dX3_isTimeout_0 rfl (lv_at hl 0 rfl) ?_
  refine lv_if_lt (tgt := 15) hx hb dX3_isTimeout_1 (by decide) (fun c_1 => ?_) (fun c_1 => ?_)
  · refine lv_iconst (v := 0) hx hb dX3_isTimeout_15 (by decide) ?_
    exact fk_zret hx hb hr hlocks hP hK hD hS (congrArg (fun z => fk_mW bd cI z ++ X) (by first | rfl | simp [c_1, Int32.not_le.mpr c_1])) rfl (by simp [fk_b, mm_tmo, c_1, Int32.not_le.mpr c_1]) dX3_isTimeout_16
  · refine lv_iload_n hx hb dX3_isTimeout_4 rfl (lv_at hl 0 rfl) ?_
    refine lv_sipush (v := 10000) hx hb dX3_isTimeout_5 (by decide) ?_
    refine lv_icmp_gt (tgt := 15) hx hb dX3_isTimeout_8 (by decide) (fun c_2 => ?_) (fun c_2 => ?_)
    · refine lv_iconst (v := 0) hx hb dX3_isTimeout_15 (by decide) ?_
      exact fk_zret hx hb hr hlocks hP hK hD hS (congrArg (fun z => fk_mW bd cI z ++ X) (by first | rfl | simp [c_1, Int32.not_lt.mp c_1, c_2, Int32.not_le.mpr c_2])) rfl (by simp [fk_b, mm_tmo, c_1, Int32.not_lt.mp c_1, c_2, Int32.not_le.mpr c_2]) dX3_isTimeout_16
    · refine lv_iconst (v := 1) hx hb dX3_isTimeout_11 (by decide) ?_
      refine lv_goto (tgt := 16) hx hb dX3_isTimeout_12 (by decide) ?_
      exact fk_zret hx hb hr hlocks hP hK hD hS (congrArg (fun z => fk_mW bd cI z ++ X) (by first | rfl | simp [c_1, Int32.not_lt.mp c_1, c_2, Int32.not_lt.mp c_2])) rfl (by simp [fk_b, mm_tmo, c_1, Int32.not_lt.mp c_1, c_2, Int32.not_lt.mp c_2]) dX3_isTimeout_16

abbrev rmX3_bucketOf : Room := { frames := 0, cells := 0, slots := 0, locals := 0 }
set_option maxHeartbeats 4000000 in
set_option maxRecDepth 100000 in
theorem mc_bucketOf (l : Launch) (D : va_G) (bd : Nat → Nat) (cI cT cJ : ClassId) (X : va_W) (S : fk_S) (a : Int32) : fk_C l D (fk_ty cI cT cJ) yX3_bucketOf wsX3_bucketOf rmX3_bucketOf [.int a] (fk_mW bd cI S ++ X) (some (.int (fk_bkt a))) (fk_mW bd cI S ++ X) := by
  refine fk_C_of (cc := cX3_bucketOf) (maxL := 1) (ret := (some .int)) (own := RX3) (by decide) rfl rfl (Nat.le_of_ble_eq_true rfl) ?_
  intro p e s m below meth c A ls hx hb hr hlocks hml hts hown hA hP hK hD hl
  have hS : va_S A s.heap s.heap [] := va_S.rf
  have hl : lv_has ls 1 [(0, .int a)] := hl
  refine lv_iload_n hx hb dX3_bucketOf_0 rfl (lv_at hl 0 rfl) ?_
  refine lv_iload_n hx hb dX3_bucketOf_1 rfl (lv_at hl 0 rfl) ?_
  refine lv_iconst (v := 4) hx hb dX3_bucketOf_2 (by decide) ?_
  refine lv_idiv hx hb dX3_bucketOf_3 (by decide) ?_
  refine lv_iadd hx hb dX3_bucketOf_4 ?_
  refine lv_iconst (v := 4) hx hb dX3_bucketOf_5 (by decide) ?_
  refine lv_irem hx hb dX3_bucketOf_6 (by decide) ?_
  exact fk_iret hx hb hr hlocks hP hK hD hS (congrArg (fun z => fk_mW bd cI z ++ X) (by first | rfl | simp [])) (by rfl) dX3_bucketOf_7

abbrev rmX3_ownerOf : Room := { frames := 0, cells := 0, slots := 0, locals := 0 }
set_option maxHeartbeats 4000000 in
set_option maxRecDepth 100000 in
theorem mc_ownerOf (l : Launch) (D : va_G) (bd : Nat → Nat) (cI cT cJ : ClassId) (X : va_W) (S : fk_S) (a : Int32) : fk_C l D (fk_ty cI cT cJ) yX3_ownerOf wsX3_ownerOf rmX3_ownerOf [.int a] (fk_mW bd cI S ++ X) (some (.int (mm_own a))) (fk_mW bd cI S ++ X) := by
  refine fk_C_of (cc := cX3_ownerOf) (maxL := 1) (ret := (some .int)) (own := RX3) (by decide) rfl rfl (Nat.le_of_ble_eq_true rfl) ?_
  intro p e s m below meth c A ls hx hb hr hlocks hml hts hown hA hP hK hD hl
  have hS : va_S A s.heap s.heap [] := va_S.rf
  have hl : lv_has ls 1 [(0, .int a)] := hl
  refine lv_iload_n hx hb dX3_ownerOf_0 rfl (lv_at hl 0 rfl) ?_
  refine lv_sipush (v := 255) hx hb dX3_ownerOf_1 (by decide) ?_
  refine lv_iand hx hb dX3_ownerOf_4 ?_
  refine lv_iconst (v := 1) hx hb dX3_ownerOf_5 (by decide) ?_
  refine lv_isub hx hb dX3_ownerOf_6 ?_
  exact fk_iret hx hb hr hlocks hP hK hD hS (congrArg (fun z => fk_mW bd cI z ++ X) (by first | rfl | simp [])) (by rfl) dX3_ownerOf_7

abbrev rmX3_isQueued : Room := { frames := 0, cells := 0, slots := 0, locals := 0 }
set_option maxHeartbeats 4000000 in
set_option maxRecDepth 100000 in
theorem mc_isQueued (l : Launch) (D : va_G) (bd : Nat → Nat) (cI cT cJ : ClassId) (X : va_W) (S : fk_S) (t : Nat) (ht : t < 8) : fk_C l D (fk_ty cI cT cJ) yX3_isQueued wsX3_isQueued rmX3_isQueued [.ref (bd 0), .int (nI t)] (fk_mW bd cI S ++ X) (some (.int (fk_b (mm_q S t)))) (fk_mW bd cI S ++ X) := by
  refine fk_C_of (cc := cX3_isQueued) (maxL := 2) (ret := (some .boolean)) (own := RX3) (by decide) rfl rfl (Nat.le_of_ble_eq_true rfl) ?_
  intro p e s m below meth c A ls hx hb hr hlocks hml hts hown hA hP hK hD hl
  have hS : va_S A s.heap s.heap [] := va_S.rf
  have hl : lv_has ls 2 [(0, .ref (bd 0)), (1, .int (nI t))] := hl
  have hiX3 : ∀ w ∈ u_ws RX3 TX3 17, w ∈ wsX3_isQueued := by decide +kernel
  refine lv_aload_n hx hb dX3_isQueued_0 rfl (lv_at hl 0 rfl) ?_
  refine fk_getM hx hb hts hiX3 hown hK hP 1 (by decide) (v := .ref (bd 2)) rfl (List.mem_of_getElem? (i := 1) rfl) rfl dX3_isQueued_1 ?_
  refine lv_iload_n hx hb dX3_isQueued_4 rfl (lv_at hl 1 rfl) ?_
  refine fk_ldN hx hb hK hP 1 1 8 rfl (by decide) rfl rfl (vp_in_nI (show t < 8 from (by omega)) (by decide)) dX3_isQueued_5 ?_
  refine W.eq (g2 := F0 m 6 ls [.int (S 1 t)]) (by rw [nI_clamp (by omega)]) ?_
  refine lv_iconst (v := 1) hx hb dX3_isQueued_6 (by decide) ?_
  refine lv_icmp_eq (tgt := 20) hx hb dX3_isQueued_7 (by decide) (fun c_1 => ?_) (fun c_1 => ?_)
  · refine lv_iconst (v := 1) hx hb dX3_isQueued_20 (by decide) ?_
    refine lv_goto (tgt := 25) hx hb dX3_isQueued_21 (by decide) ?_
    exact fk_zret hx hb hr hlocks hP hK hD hS (congrArg (fun z => fk_mW bd cI z ++ X) (by first | rfl | simp [c_1])) rfl (by first | rfl | simp [fk_b, mm_q, c_1]) dX3_isQueued_25
  · refine lv_aload_n hx hb dX3_isQueued_10 rfl (lv_at hl 0 rfl) ?_
    refine fk_getM hx hb hts hiX3 hown hK hP 1 (by decide) (v := .ref (bd 2)) rfl (List.mem_of_getElem? (i := 1) rfl) rfl dX3_isQueued_11 ?_
    refine lv_iload_n hx hb dX3_isQueued_14 rfl (lv_at hl 1 rfl) ?_
    refine fk_ldN hx hb hK hP 1 1 8 rfl (by decide) rfl rfl (vp_in_nI (show t < 8 from (by omega)) (by decide)) dX3_isQueued_15 ?_
    refine W.eq (g2 := F0 m 16 ls [.int (S 1 t)]) (by rw [nI_clamp (by omega)]) ?_
    refine lv_iconst (v := 2) hx hb dX3_isQueued_16 (by decide) ?_
    refine lv_icmp_ne (tgt := 24) hx hb dX3_isQueued_17 (by decide) (fun c_2 => ?_) (fun c_2 => ?_)
    · refine lv_iconst (v := 0) hx hb dX3_isQueued_24 (by decide) ?_
      exact fk_zret hx hb hr hlocks hP hK hD hS (congrArg (fun z => fk_mW bd cI z ++ X) (by first | rfl | simp [c_1, c_2])) rfl (by first | rfl | simp [fk_b, mm_q, c_1, c_2]) dX3_isQueued_25
    · refine lv_iconst (v := 1) hx hb dX3_isQueued_20 (by decide) ?_
      refine lv_goto (tgt := 25) hx hb dX3_isQueued_21 (by decide) ?_
      exact fk_zret hx hb hr hlocks hP hK hD hS (congrArg (fun z => fk_mW bd cI z ++ X) (by first | rfl | simp [c_1, c_2])) rfl (by first | rfl | simp [fk_b, mm_q, c_1, c_2]) dX3_isQueued_25

abbrev rmX3_key : Room := { frames := 0, cells := 0, slots := 0, locals := 0 }
set_option maxHeartbeats 4000000 in
set_option maxRecDepth 100000 in
theorem mc_key (l : Launch) (D : va_G) (bd : Nat → Nat) (cI cT cJ : ClassId) (X : va_W) (S : fk_S) (t : Nat) (ht : t < 8) : fk_C l D (fk_ty cI cT cJ) yX3_key wsX3_key rmX3_key [.ref (bd 0), .int (nI t)] (fk_mW bd cI S ++ X) (some (.long (mm_key S t))) (fk_mW bd cI S ++ X) := by
  refine fk_C_of (cc := cX3_key) (maxL := 2) (ret := (some .long)) (own := RX3) (by decide) rfl rfl (Nat.le_of_ble_eq_true rfl) ?_
  intro p e s m below meth c A ls hx hb hr hlocks hml hts hown hA hP hK hD hl
  have hS : va_S A s.heap s.heap [] := va_S.rf
  have hl : lv_has ls 2 [(0, .ref (bd 0)), (1, .int (nI t))] := hl
  have hiX3 : ∀ w ∈ u_ws RX3 TX3 17, w ∈ wsX3_key := by decide +kernel
  refine lv_bipush (v := 9) hx hb dX3_key_0 (by decide) ?_
  refine lv_aload_n hx hb dX3_key_2 rfl (lv_at hl 0 rfl) ?_
  refine fk_getM hx hb hts hiX3 hown hK hP 2 (by decide) (v := .ref (bd 3)) rfl (List.mem_of_getElem? (i := 1) rfl) rfl dX3_key_3 ?_
  refine lv_iload_n hx hb dX3_key_6 rfl (lv_at hl 1 rfl) ?_
  refine fk_ldN hx hb hK hP 2 2 8 rfl (by decide) rfl rfl (vp_in_nI (show t < 8 from (by omega)) (by decide)) dX3_key_7 ?_
  refine W.eq (g2 := F0 m 8 ls [.int (S 2 t), .int 9]) (by rw [nI_clamp (by omega)]) ?_
  refine lv_isub hx hb dX3_key_8 ?_
  refine lv_i2l hx hb dX3_key_9 rfl ?_
  refine lv_ldc2 (own := RX3) (v := 1000000000) hx hb hown (hts (.constantLong RX3 50 (1000000000)) (List.mem_of_getElem? (i := 2) rfl)) dX3_key_10 ?_
  refine lv_lmul hx hb dX3_key_13 ?_
  refine lv_aload_n hx hb dX3_key_14 rfl (lv_at hl 0 rfl) ?_
  refine fk_getM hx hb hts hiX3 hown hK hP 9 (by decide) (v := .ref (bd 10)) rfl (List.mem_of_getElem? (i := 3) rfl) rfl dX3_key_15 ?_
  refine lv_iload_n hx hb dX3_key_18 rfl (lv_at hl 1 rfl) ?_
  refine fk_ldN hx hb hK hP 9 7 8 rfl (by decide) rfl rfl (vp_in_nI (show t < 8 from (by omega)) (by decide)) dX3_key_19 ?_
  refine W.eq (g2 := F0 m 20 ls [.int (S 7 t), .long (((9 - (S 2 t)).toInt64) * 1000000000)]) (by rw [nI_clamp (by omega)]) ?_
  refine lv_i2l hx hb dX3_key_20 rfl ?_
  refine lv_ladd hx hb dX3_key_21 ?_
  exact fk_lret hx hb hr hlocks hP hK hD hS (congrArg (fun z => fk_mW bd cI z ++ X) (by first | rfl | simp [])) (by rfl) dX3_key_22

theorem fk_lcmp_ge {x y : Int64} : 0 ≤ lg_cmp x y ↔ ¬ x < y := by
  unfold lg_cmp
  by_cases h1 : x > y
  · rw [if_pos h1]
    exact ⟨fun _ h => absurd (Int64.lt_trans h h1) (Int64.lt_irrefl), fun _ => by decide⟩
  · rw [if_neg h1]
    by_cases h2 : x = y
    · rw [if_pos h2]
      subst h2
      exact ⟨fun _ => Int64.lt_irrefl, fun _ => by decide⟩
    · rw [if_neg h2]
      exact ⟨fun h => absurd h (by decide), fun h => absurd (Int64.lt_of_le_of_ne (Int64.not_lt.mp h1) h2) h⟩

theorem fk_lcmp_lt {x y : Int64} (h : ¬ 0 ≤ lg_cmp x y) : x < y := Decidable.of_not_not fun h9 => h (fk_lcmp_ge.mpr h9)

abbrev rmX3_first : Room := { frames := 1, cells := 0, slots := 0, locals := 21 }
set_option maxHeartbeats 4000000 in
set_option maxRecDepth 100000 in
theorem mc_first (l : Launch) (D : va_G) (bd : Nat → Nat) (cI cT cJ : ClassId) (X : va_W) (S : fk_S) (a w mk : Int32) : fk_C l D (fk_ty cI cT cJ) yX3_first wsX3_first rmX3_first [.ref (bd 0), .int a, .int w, .int mk] (fk_mW bd cI S ++ X) (some (.int (fk_oI (mm_first S a w mk)))) (fk_mW bd cI S ++ X) := by
  refine fk_C_of (cc := cX3_first) (maxL := 7) (ret := (some .int)) (own := RX3) (by decide) rfl rfl (Nat.le_of_ble_eq_true rfl) ?_
  intro p e s m below meth c A ls hx hb hr hlocks hml hts hown hA hP hK hD hl
  have hS : va_S A s.heap s.heap [] := va_S.rf
  have hl : lv_has ls 7 [(0, .ref (bd 0)), (1, .int a), (2, .int w), (3, .int mk)] := hl
  have hiX3 : ∀ w ∈ u_ws RX3 TX3 17, w ∈ wsX3_first := by decide +kernel
  refine lv_iconst (v := (-1)) hx hb dX3_first_0 (by decide) ?_
  refine lv_istore (lv' := [(4, .int (-1)), (0, .ref (bd 0)), (1, .int a), (2, .int w), (3, .int mk)]) hx hb dX3_first_1 hl (by decide) rfl (fun ls hl => ?_)
  refine lv_iconst (v := 0) hx hb dX3_first_3 (by decide) ?_
  refine lv_istore (lv' := [(5, .int 0), (4, .int (-1)), (0, .ref (bd 0)), (1, .int a), (2, .int w), (3, .int mk)]) hx hb dX3_first_4 hl (by decide) rfl (fun ls hl => ?_)
  have loop : ∀ (n : Nat) (i : Nat) (x : Option Nat), i + n = 8 → (∀ u, x = some u → u < 8) → fk_lp (fk_bb (mm_fits S a w mk) (mm_lt S)) n i x = mm_first S a w mk → ∀ (H : Heap) (locs : List Loc) (ls : Array Slot), va_P D vwCl (fk_mW bd cI S ++ X) H → va_D A (fk_mW bd cI S ++ X) → va_S A s.heap H locs → lv_has ls 7 [(4, .int (fk_oI x)), (5, .int (nI i)), (0, .ref (bd 0)), (1, .int a), (2, .int w), (3, .int mk)] → W p l e rmX3_first s m ([.ref (bd 0), .int a, .int w, .int mk] : List Value).toArray below meth c H locs 0 0 (fk_Q below D (fk_ty cI cT cJ) [.ref (bd 0), .int a, .int w, .int mk] s A (fk_mW bd cI S ++ X) (some (.int (fk_oI (mm_first S a w mk))))) (F0 m 6 ls []) := by
    intro n
    induction n with
    | zero =>
      intro i x hi hx9 hR H locs ls hP hD hS hl
      rcases x with _ | u
      · have hl : lv_has ls 7 [(4, .int (-1)), (5, .int (nI i)), (0, .ref (bd 0)), (1, .int a), (2, .int w), (3, .int mk)] := hl
        refine lv_iload hx hb dX3_first_6 (lv_at hl 1 rfl) ?_
        refine lv_bipush (v := 8) hx hb dX3_first_8 (by decide) ?_
        refine lv_icmp_ge (tgt := 96) hx hb dX3_first_10 (by decide) (fun c_1 => ?_) (fun c_1 => absurd (nI_le (a := 8) (b := i) (by omega) (by omega)) c_1)
        refine lv_iload hx hb dX3_first_96 (lv_at hl 0 rfl) ?_
        exact fk_iret hx hb hr hlocks hP hK hD hS (congrArg (fun z => fk_mW bd cI z ++ X) (by first | rfl | simp [c_1])) (by rw [← hR]; rfl) dX3_first_98
      · have hl : lv_has ls 7 [(4, .int (nI u)), (5, .int (nI i)), (0, .ref (bd 0)), (1, .int a), (2, .int w), (3, .int mk)] := hl
        have hu : u < 8 := hx9 u rfl
        refine lv_iload hx hb dX3_first_6 (lv_at hl 1 rfl) ?_
        refine lv_bipush (v := 8) hx hb dX3_first_8 (by decide) ?_
        refine lv_icmp_ge (tgt := 96) hx hb dX3_first_10 (by decide) (fun c_2 => ?_) (fun c_2 => absurd (nI_le (a := 8) (b := i) (by omega) (by omega)) c_2)
        refine lv_iload hx hb dX3_first_96 (lv_at hl 0 rfl) ?_
        exact fk_iret hx hb hr hlocks hP hK hD hS (congrArg (fun z => fk_mW bd cI z ++ X) (by first | rfl | simp [c_2])) (by rw [← hR]; rfl) dX3_first_98
    | succ n ih =>
      intro i x hi hx9 hR H locs ls hP hD hS hl
      rcases x with _ | u
      · have hl : lv_has ls 7 [(4, .int (-1)), (5, .int (nI i)), (0, .ref (bd 0)), (1, .int a), (2, .int w), (3, .int mk)] := hl
        refine lv_iload hx hb dX3_first_6 (lv_at hl 1 rfl) ?_
        refine lv_bipush (v := 8) hx hb dX3_first_8 (by decide) ?_
        refine lv_icmp_ge (tgt := 96) hx hb dX3_first_10 (by decide) (fun c_3 => absurd c_3 (nI_ge (a := i) (b := 8) (by omega) (by omega))) (fun c_3 => ?_)
        refine lv_aload_n hx hb dX3_first_13 rfl (lv_at hl 2 rfl) ?_
        refine fk_getM hx hb hts hiX3 hown hK hP 1 (by decide) (v := .ref (bd 2)) rfl (List.mem_of_getElem? (i := 1) rfl) rfl dX3_first_14 ?_
        refine lv_iload hx hb dX3_first_17 (lv_at hl 1 rfl) ?_
        refine fk_ldN hx hb hK hP 1 1 8 rfl (by decide) rfl rfl (vp_in_nI (show i < 8 from (by omega)) (by decide)) dX3_first_19 ?_
        refine W.eq (g2 := F0 m 20 ls [.int (S 1 i)]) (by rw [nI_clamp (by omega)]) ?_
        refine lv_iload_n hx hb dX3_first_20 rfl (lv_at hl 4 rfl) ?_
        refine lv_icmp_ne (tgt := 51) hx hb dX3_first_21 (by decide) (fun c_4 => ?_) (fun c_4 => ?_)
        · refine lv_iconst (v := 0) hx hb dX3_first_51 (by decide) ?_
          refine lv_istore (lv' := [(6, .int 0), (4, .int (-1)), (5, .int (nI i)), (0, .ref (bd 0)), (1, .int a), (2, .int w), (3, .int mk)]) hx hb dX3_first_52 hl (by decide) rfl (fun ls hl => ?_)
          refine lv_iload hx hb dX3_first_54 (lv_at hl 0 rfl) ?_
          refine lv_if_eq (tgt := 86) hx hb dX3_first_56 (by decide) (fun _ => ?_) (fun c => absurd c (by decide))
          refine lv_iload hx hb dX3_first_86 (lv_at hl 1 rfl) ?_
          refine lv_istore (lv' := [(4, .int (-1)), (6, .int 0), (5, .int (nI i)), (0, .ref (bd 0)), (1, .int a), (2, .int w), (3, .int mk)]) hx hb dX3_first_88 hl (by decide) rfl (fun ls hl => ?_)
          refine lv_iinc (v := (nI (i + 1))) (lv' := [(5, .int (nI (i + 1))), (4, .int (-1)), (6, .int 0), (0, .ref (bd 0)), (1, .int a), (2, .int w), (3, .int mk)]) hx hb dX3_first_90 hl (k := 2) rfl (nI_1 i) (by decide) rfl (fun ls hl => ?_)
          refine lv_goto (tgt := 6) hx hb dX3_first_93 (by decide) ?_
          exact ih (i + 1) none (by omega) (by intro w hw; cases hw) ((congrArg (fk_lp _ n (i + 1)) (show none = fk_bb (mm_fits S a w mk) (mm_lt S) i none from by simp [fk_bb, mm_fits, mm_lt, c_4])).trans hR) _ _ _ hP hD hS (lv_sub hl [1, 0, 3, 4, 5, 6] rfl)
        · refine lv_aload_n hx hb dX3_first_24 rfl (lv_at hl 2 rfl) ?_
          refine fk_getM hx hb hts hiX3 hown hK hP 5 (by decide) (v := .ref (bd 6)) rfl (List.mem_of_getElem? (i := 2) rfl) rfl dX3_first_25 ?_
          refine lv_iload hx hb dX3_first_28 (lv_at hl 1 rfl) ?_
          refine fk_ldN hx hb hK hP 5 3 8 rfl (by decide) rfl rfl (vp_in_nI (show i < 8 from (by omega)) (by decide)) dX3_first_30 ?_
          refine W.eq (g2 := F0 m 31 ls [.int (S 3 i)]) (by rw [nI_clamp (by omega)]) ?_
          refine lv_iload_n hx hb dX3_first_31 rfl (lv_at hl 3 rfl) ?_
          refine lv_icmp_ne (tgt := 51) hx hb dX3_first_32 (by decide) (fun c_6 => ?_) (fun c_6 => ?_)
          · refine lv_iconst (v := 0) hx hb dX3_first_51 (by decide) ?_
            refine lv_istore (lv' := [(6, .int 0), (4, .int (-1)), (5, .int (nI i)), (0, .ref (bd 0)), (1, .int a), (2, .int w), (3, .int mk)]) hx hb dX3_first_52 hl (by decide) rfl (fun ls hl => ?_)
            refine lv_iload hx hb dX3_first_54 (lv_at hl 0 rfl) ?_
            refine lv_if_eq (tgt := 86) hx hb dX3_first_56 (by decide) (fun _ => ?_) (fun c => absurd c (by decide))
            refine lv_iload hx hb dX3_first_86 (lv_at hl 1 rfl) ?_
            refine lv_istore (lv' := [(4, .int (-1)), (6, .int 0), (5, .int (nI i)), (0, .ref (bd 0)), (1, .int a), (2, .int w), (3, .int mk)]) hx hb dX3_first_88 hl (by decide) rfl (fun ls hl => ?_)
            refine lv_iinc (v := (nI (i + 1))) (lv' := [(5, .int (nI (i + 1))), (4, .int (-1)), (6, .int 0), (0, .ref (bd 0)), (1, .int a), (2, .int w), (3, .int mk)]) hx hb dX3_first_90 hl (k := 2) rfl (nI_1 i) (by decide) rfl (fun ls hl => ?_)
            refine lv_goto (tgt := 6) hx hb dX3_first_93 (by decide) ?_
            exact ih (i + 1) none (by omega) (by intro w hw; cases hw) ((congrArg (fk_lp _ n (i + 1)) (show none = fk_bb (mm_fits S a w mk) (mm_lt S) i none from by simp [fk_bb, mm_fits, mm_lt, c_4, c_6])).trans hR) _ _ _ hP hD hS (lv_sub hl [1, 0, 3, 4, 5, 6] rfl)
          · refine lv_aload_n hx hb dX3_first_35 rfl (lv_at hl 2 rfl) ?_
            refine fk_getM hx hb hts hiX3 hown hK hP 6 (by decide) (v := .ref (bd 7)) rfl (List.mem_of_getElem? (i := 3) rfl) rfl dX3_first_36 ?_
            refine lv_iload hx hb dX3_first_39 (lv_at hl 1 rfl) ?_
            refine fk_ldN hx hb hK hP 6 4 8 rfl (by decide) rfl rfl (vp_in_nI (show i < 8 from (by omega)) (by decide)) dX3_first_41 ?_
            refine W.eq (g2 := F0 m 42 ls [.int (S 4 i)]) (by rw [nI_clamp (by omega)]) ?_
            refine lv_iload_n hx hb dX3_first_42 rfl (lv_at hl 5 rfl) ?_
            refine lv_iand hx hb dX3_first_43 ?_
            refine lv_if_eq (tgt := 51) hx hb dX3_first_44 (by decide) (fun c_8 => ?_) (fun c_8 => ?_)
            · refine lv_iconst (v := 0) hx hb dX3_first_51 (by decide) ?_
              refine lv_istore (lv' := [(6, .int 0), (4, .int (-1)), (5, .int (nI i)), (0, .ref (bd 0)), (1, .int a), (2, .int w), (3, .int mk)]) hx hb dX3_first_52 hl (by decide) rfl (fun ls hl => ?_)
              refine lv_iload hx hb dX3_first_54 (lv_at hl 0 rfl) ?_
              refine lv_if_eq (tgt := 86) hx hb dX3_first_56 (by decide) (fun _ => ?_) (fun c => absurd c (by decide))
              refine lv_iload hx hb dX3_first_86 (lv_at hl 1 rfl) ?_
              refine lv_istore (lv' := [(4, .int (-1)), (6, .int 0), (5, .int (nI i)), (0, .ref (bd 0)), (1, .int a), (2, .int w), (3, .int mk)]) hx hb dX3_first_88 hl (by decide) rfl (fun ls hl => ?_)
              refine lv_iinc (v := (nI (i + 1))) (lv' := [(5, .int (nI (i + 1))), (4, .int (-1)), (6, .int 0), (0, .ref (bd 0)), (1, .int a), (2, .int w), (3, .int mk)]) hx hb dX3_first_90 hl (k := 2) rfl (nI_1 i) (by decide) rfl (fun ls hl => ?_)
              refine lv_goto (tgt := 6) hx hb dX3_first_93 (by decide) ?_
              exact ih (i + 1) none (by omega) (by intro w hw; cases hw) ((congrArg (fk_lp _ n (i + 1)) (show none = fk_bb (mm_fits S a w mk) (mm_lt S) i none from by simp [fk_bb, mm_fits, mm_lt, c_4, c_6, c_8])).trans hR) _ _ _ hP hD hS (lv_sub hl [1, 0, 3, 4, 5, 6] rfl)
            · refine lv_iconst (v := 1) hx hb dX3_first_47 (by decide) ?_
              refine lv_goto (tgt := 52) hx hb dX3_first_48 (by decide) ?_
              refine lv_istore (lv' := [(6, .int 1), (4, .int (-1)), (5, .int (nI i)), (0, .ref (bd 0)), (1, .int a), (2, .int w), (3, .int mk)]) hx hb dX3_first_52 hl (by decide) rfl (fun ls hl => ?_)
              refine lv_iload hx hb dX3_first_54 (lv_at hl 0 rfl) ?_
              refine lv_if_eq (tgt := 86) hx hb dX3_first_56 (by decide) (fun c => absurd c (by decide)) (fun _ => ?_)
              refine lv_iload hx hb dX3_first_59 (lv_at hl 1 rfl) ?_
              refine lv_iconst (v := (-1)) hx hb dX3_first_61 (by decide) ?_
              refine lv_icmp_eq (tgt := 81) hx hb dX3_first_62 (by decide) (fun _ => ?_) (fun c => absurd c (by decide))
              refine lv_iload hx hb dX3_first_81 (lv_at hl 2 rfl) ?_
              refine lv_goto (tgt := 88) hx hb dX3_first_83 (by decide) ?_
              refine lv_istore (lv' := [(4, .int (nI i)), (6, .int 1), (5, .int (nI i)), (0, .ref (bd 0)), (1, .int a), (2, .int w), (3, .int mk)]) hx hb dX3_first_88 hl (by decide) rfl (fun ls hl => ?_)
              refine lv_iinc (v := (nI (i + 1))) (lv' := [(5, .int (nI (i + 1))), (4, .int (nI i)), (6, .int 1), (0, .ref (bd 0)), (1, .int a), (2, .int w), (3, .int mk)]) hx hb dX3_first_90 hl (k := 2) rfl (nI_1 i) (by decide) rfl (fun ls hl => ?_)
              refine lv_goto (tgt := 6) hx hb dX3_first_93 (by decide) ?_
              exact ih (i + 1) (some i) (by omega) (by intro w hw; cases hw; omega) ((congrArg (fk_lp _ n (i + 1)) (show (some i) = fk_bb (mm_fits S a w mk) (mm_lt S) i none from by simp [fk_bb, mm_fits, mm_lt, c_4, c_6, c_8])).trans hR) _ _ _ hP hD hS (lv_sub hl [1, 0, 3, 4, 5, 6] rfl)
      · have hl : lv_has ls 7 [(4, .int (nI u)), (5, .int (nI i)), (0, .ref (bd 0)), (1, .int a), (2, .int w), (3, .int mk)] := hl
        have hu : u < 8 := hx9 u rfl
        refine lv_iload hx hb dX3_first_6 (lv_at hl 1 rfl) ?_
        refine lv_bipush (v := 8) hx hb dX3_first_8 (by decide) ?_
        refine lv_icmp_ge (tgt := 96) hx hb dX3_first_10 (by decide) (fun c_12 => absurd c_12 (nI_ge (a := i) (b := 8) (by omega) (by omega))) (fun c_12 => ?_)
        refine lv_aload_n hx hb dX3_first_13 rfl (lv_at hl 2 rfl) ?_
        refine fk_getM hx hb hts hiX3 hown hK hP 1 (by decide) (v := .ref (bd 2)) rfl (List.mem_of_getElem? (i := 1) rfl) rfl dX3_first_14 ?_
        refine lv_iload hx hb dX3_first_17 (lv_at hl 1 rfl) ?_
        refine fk_ldN hx hb hK hP 1 1 8 rfl (by decide) rfl rfl (vp_in_nI (show i < 8 from (by omega)) (by decide)) dX3_first_19 ?_
        refine W.eq (g2 := F0 m 20 ls [.int (S 1 i)]) (by rw [nI_clamp (by omega)]) ?_
        refine lv_iload_n hx hb dX3_first_20 rfl (lv_at hl 4 rfl) ?_
        refine lv_icmp_ne (tgt := 51) hx hb dX3_first_21 (by decide) (fun c_13 => ?_) (fun c_13 => ?_)
        · refine lv_iconst (v := 0) hx hb dX3_first_51 (by decide) ?_
          refine lv_istore (lv' := [(6, .int 0), (4, .int (nI u)), (5, .int (nI i)), (0, .ref (bd 0)), (1, .int a), (2, .int w), (3, .int mk)]) hx hb dX3_first_52 hl (by decide) rfl (fun ls hl => ?_)
          refine lv_iload hx hb dX3_first_54 (lv_at hl 0 rfl) ?_
          refine lv_if_eq (tgt := 86) hx hb dX3_first_56 (by decide) (fun _ => ?_) (fun c => absurd c (by decide))
          refine lv_iload hx hb dX3_first_86 (lv_at hl 1 rfl) ?_
          refine lv_istore (lv' := [(4, .int (nI u)), (6, .int 0), (5, .int (nI i)), (0, .ref (bd 0)), (1, .int a), (2, .int w), (3, .int mk)]) hx hb dX3_first_88 hl (by decide) rfl (fun ls hl => ?_)
          refine lv_iinc (v := (nI (i + 1))) (lv' := [(5, .int (nI (i + 1))), (4, .int (nI u)), (6, .int 0), (0, .ref (bd 0)), (1, .int a), (2, .int w), (3, .int mk)]) hx hb dX3_first_90 hl (k := 2) rfl (nI_1 i) (by decide) rfl (fun ls hl => ?_)
          refine lv_goto (tgt := 6) hx hb dX3_first_93 (by decide) ?_
          exact ih (i + 1) (some u) (by omega) (by intro w hw; cases hw; omega) ((congrArg (fk_lp _ n (i + 1)) (show (some u) = fk_bb (mm_fits S a w mk) (mm_lt S) i (some u) from by simp [fk_bb, mm_fits, mm_lt, c_13])).trans hR) _ _ _ hP hD hS (lv_sub hl [1, 0, 3, 4, 5, 6] rfl)
        · refine lv_aload_n hx hb dX3_first_24 rfl (lv_at hl 2 rfl) ?_
          refine fk_getM hx hb hts hiX3 hown hK hP 5 (by decide) (v := .ref (bd 6)) rfl (List.mem_of_getElem? (i := 2) rfl) rfl dX3_first_25 ?_
          refine lv_iload hx hb dX3_first_28 (lv_at hl 1 rfl) ?_
          refine fk_ldN hx hb hK hP 5 3 8 rfl (by decide) rfl rfl (vp_in_nI (show i < 8 from (by omega)) (by decide)) dX3_first_30 ?_
          refine W.eq (g2 := F0 m 31 ls [.int (S 3 i)]) (by rw [nI_clamp (by omega)]) ?_
          refine lv_iload_n hx hb dX3_first_31 rfl (lv_at hl 3 rfl) ?_
          refine lv_icmp_ne (tgt := 51) hx hb dX3_first_32 (by decide) (fun c_15 => ?_) (fun c_15 => ?_)
          · refine lv_iconst (v := 0) hx hb dX3_first_51 (by decide) ?_
            refine lv_istore (lv' := [(6, .int 0), (4, .int (nI u)), (5, .int (nI i)), (0, .ref (bd 0)), (1, .int a), (2, .int w), (3, .int mk)]) hx hb dX3_first_52 hl (by decide) rfl (fun ls hl => ?_)
            refine lv_iload hx hb dX3_first_54 (lv_at hl 0 rfl) ?_
            refine lv_if_eq (tgt := 86) hx hb dX3_first_56 (by decide) (fun _ => ?_) (fun c => absurd c (by decide))
            refine lv_iload hx hb dX3_first_86 (lv_at hl 1 rfl) ?_
            refine lv_istore (lv' := [(4, .int (nI u)), (6, .int 0), (5, .int (nI i)), (0, .ref (bd 0)), (1, .int a), (2, .int w), (3, .int mk)]) hx hb dX3_first_88 hl (by decide) rfl (fun ls hl => ?_)
            refine lv_iinc (v := (nI (i + 1))) (lv' := [(5, .int (nI (i + 1))), (4, .int (nI u)), (6, .int 0), (0, .ref (bd 0)), (1, .int a), (2, .int w), (3, .int mk)]) hx hb dX3_first_90 hl (k := 2) rfl (nI_1 i) (by decide) rfl (fun ls hl => ?_)
            refine lv_goto (tgt := 6) hx hb dX3_first_93 (by decide) ?_
            exact ih (i + 1) (some u) (by omega) (by intro w hw; cases hw; omega) ((congrArg (fk_lp _ n (i + 1)) (show (some u) = fk_bb (mm_fits S a w mk) (mm_lt S) i (some u) from by simp [fk_bb, mm_fits, mm_lt, c_13, c_15])).trans hR) _ _ _ hP hD hS (lv_sub hl [1, 0, 3, 4, 5, 6] rfl)
          · refine lv_aload_n hx hb dX3_first_35 rfl (lv_at hl 2 rfl) ?_
            refine fk_getM hx hb hts hiX3 hown hK hP 6 (by decide) (v := .ref (bd 7)) rfl (List.mem_of_getElem? (i := 3) rfl) rfl dX3_first_36 ?_
            refine lv_iload hx hb dX3_first_39 (lv_at hl 1 rfl) ?_
            refine fk_ldN hx hb hK hP 6 4 8 rfl (by decide) rfl rfl (vp_in_nI (show i < 8 from (by omega)) (by decide)) dX3_first_41 ?_
            refine W.eq (g2 := F0 m 42 ls [.int (S 4 i)]) (by rw [nI_clamp (by omega)]) ?_
            refine lv_iload_n hx hb dX3_first_42 rfl (lv_at hl 5 rfl) ?_
            refine lv_iand hx hb dX3_first_43 ?_
            refine lv_if_eq (tgt := 51) hx hb dX3_first_44 (by decide) (fun c_17 => ?_) (fun c_17 => ?_)
            · refine lv_iconst (v := 0) hx hb dX3_first_51 (by decide) ?_
              refine lv_istore (lv' := [(6, .int 0), (4, .int (nI u)), (5, .int (nI i)), (0, .ref (bd 0)), (1, .int a), (2, .int w), (3, .int mk)]) hx hb dX3_first_52 hl (by decide) rfl (fun ls hl => ?_)
              refine lv_iload hx hb dX3_first_54 (lv_at hl 0 rfl) ?_
              refine lv_if_eq (tgt := 86) hx hb dX3_first_56 (by decide) (fun _ => ?_) (fun c => absurd c (by decide))
              refine lv_iload hx hb dX3_first_86 (lv_at hl 1 rfl) ?_
              refine lv_istore (lv' := [(4, .int (nI u)), (6, .int 0), (5, .int (nI i)), (0, .ref (bd 0)), (1, .int a), (2, .int w), (3, .int mk)]) hx hb dX3_first_88 hl (by decide) rfl (fun ls hl => ?_)
              refine lv_iinc (v := (nI (i + 1))) (lv' := [(5, .int (nI (i + 1))), (4, .int (nI u)), (6, .int 0), (0, .ref (bd 0)), (1, .int a), (2, .int w), (3, .int mk)]) hx hb dX3_first_90 hl (k := 2) rfl (nI_1 i) (by decide) rfl (fun ls hl => ?_)
              refine lv_goto (tgt := 6) hx hb dX3_first_93 (by decide) ?_
              exact ih (i + 1) (some u) (by omega) (by intro w hw; cases hw; omega) ((congrArg (fk_lp _ n (i + 1)) (show (some u) = fk_bb (mm_fits S a w mk) (mm_lt S) i (some u) from by simp [fk_bb, mm_fits, mm_lt, c_13, c_15, c_17])).trans hR) _ _ _ hP hD hS (lv_sub hl [1, 0, 3, 4, 5, 6] rfl)
            · refine lv_iconst (v := 1) hx hb dX3_first_47 (by decide) ?_
              refine lv_goto (tgt := 52) hx hb dX3_first_48 (by decide) ?_
              refine lv_istore (lv' := [(6, .int 1), (4, .int (nI u)), (5, .int (nI i)), (0, .ref (bd 0)), (1, .int a), (2, .int w), (3, .int mk)]) hx hb dX3_first_52 hl (by decide) rfl (fun ls hl => ?_)
              refine lv_iload hx hb dX3_first_54 (lv_at hl 0 rfl) ?_
              refine lv_if_eq (tgt := 86) hx hb dX3_first_56 (by decide) (fun c => absurd c (by decide)) (fun _ => ?_)
              refine lv_iload hx hb dX3_first_59 (lv_at hl 1 rfl) ?_
              refine lv_iconst (v := (-1)) hx hb dX3_first_61 (by decide) ?_
              refine lv_icmp_eq (tgt := 81) hx hb dX3_first_62 (by decide) (fun c => absurd c (fk_nI_m1 (by omega))) (fun _ => ?_)
              refine lv_aload_n hx hb dX3_first_65 rfl (lv_at hl 3 rfl) ?_
              refine lv_iload hx hb dX3_first_66 (lv_at hl 2 rfl) ?_
              refine fk_callV (As := [.int (nI i)]) (rest := []) ⟨hx, hb, hml, hown, hts⟩ (mc_key l D bd cI cT cJ X S i (by omega)) (cwV 1 hts gX3_first_X3_key rfl rfl rfl (by decide +kernel) ⟨Nat.le_of_ble_eq_true rfl, Nat.le_of_ble_eq_true rfl⟩) (fk_rvM hK hP) hK hP hD hS hA rfl hl.1 rfl (Nat.le_of_ble_eq_true rfl) dX3_first_68 ⟨Nat.le_of_ble_eq_true rfl, Nat.le_of_ble_eq_true rfl⟩ (fun H locs hP hD hS => ?_)
              refine W.eq (g2 := F0 m 71 ls [.long (mm_key S i)]) rfl ?_
              refine lv_aload_n hx hb dX3_first_71 rfl (lv_at hl 3 rfl) ?_
              refine lv_iload hx hb dX3_first_72 (lv_at hl 1 rfl) ?_
              refine fk_callV (As := [.int (nI u)]) (rest := [.long (mm_key S i)]) ⟨hx, hb, hml, hown, hts⟩ (mc_key l D bd cI cT cJ X S u hu) (cwV 1 hts gX3_first_X3_key rfl rfl rfl (by decide +kernel) ⟨Nat.le_of_ble_eq_true rfl, Nat.le_of_ble_eq_true rfl⟩) (fk_rvM hK hP) hK hP hD hS hA rfl hl.1 rfl (Nat.le_of_ble_eq_true rfl) dX3_first_74 ⟨Nat.le_of_ble_eq_true rfl, Nat.le_of_ble_eq_true rfl⟩ (fun H locs hP hD hS => ?_)
              refine W.eq (g2 := F0 m 77 ls [.long (mm_key S u), .long (mm_key S i)]) rfl ?_
              refine W.lcmp hx hb dX3_first_77 ?_
              refine lv_if_ge (tgt := 86) hx hb dX3_first_78 (by decide) (fun c_20 => ?_) (fun c_20 => ?_)
              · refine lv_iload hx hb dX3_first_86 (lv_at hl 1 rfl) ?_
                refine lv_istore (lv' := [(4, .int (nI u)), (6, .int 1), (5, .int (nI i)), (0, .ref (bd 0)), (1, .int a), (2, .int w), (3, .int mk)]) hx hb dX3_first_88 hl (by decide) rfl (fun ls hl => ?_)
                refine lv_iinc (v := (nI (i + 1))) (lv' := [(5, .int (nI (i + 1))), (4, .int (nI u)), (6, .int 1), (0, .ref (bd 0)), (1, .int a), (2, .int w), (3, .int mk)]) hx hb dX3_first_90 hl (k := 2) rfl (nI_1 i) (by decide) rfl (fun ls hl => ?_)
                refine lv_goto (tgt := 6) hx hb dX3_first_93 (by decide) ?_
                exact ih (i + 1) (some u) (by omega) (by intro w hw; cases hw; omega) ((congrArg (fk_lp _ n (i + 1)) (show (some u) = fk_bb (mm_fits S a w mk) (mm_lt S) i (some u) from by simp [fk_bb, mm_fits, mm_lt, c_13, c_15, c_17, c_20, fk_lcmp_ge.mp c_20])).trans hR) _ _ _ hP hD hS (lv_sub hl [1, 0, 3, 4, 5, 6] rfl)
              · refine lv_iload hx hb dX3_first_81 (lv_at hl 2 rfl) ?_
                refine lv_goto (tgt := 88) hx hb dX3_first_83 (by decide) ?_
                refine lv_istore (lv' := [(4, .int (nI i)), (6, .int 1), (5, .int (nI i)), (0, .ref (bd 0)), (1, .int a), (2, .int w), (3, .int mk)]) hx hb dX3_first_88 hl (by decide) rfl (fun ls hl => ?_)
                refine lv_iinc (v := (nI (i + 1))) (lv' := [(5, .int (nI (i + 1))), (4, .int (nI i)), (6, .int 1), (0, .ref (bd 0)), (1, .int a), (2, .int w), (3, .int mk)]) hx hb dX3_first_90 hl (k := 2) rfl (nI_1 i) (by decide) rfl (fun ls hl => ?_)
                refine lv_goto (tgt := 6) hx hb dX3_first_93 (by decide) ?_
                exact ih (i + 1) (some i) (by omega) (by intro w hw; cases hw; omega) ((congrArg (fk_lp _ n (i + 1)) (show (some i) = fk_bb (mm_fits S a w mk) (mm_lt S) i (some u) from by simp [fk_bb, mm_fits, mm_lt, c_13, c_15, c_17, c_20, fk_lcmp_lt c_20])).trans hR) _ _ _ hP hD hS (lv_sub hl [1, 0, 3, 4, 5, 6] rfl)
  exact loop 8 0 none rfl (by intro w hw; cases hw) rfl _ _ _ hP hD hS (lv_sub hl [1, 0, 2, 3, 4, 5] rfl)
