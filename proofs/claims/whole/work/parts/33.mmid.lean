abbrev rmX3_isSomebodyLocking : Room := { frames := 2, cells := 0, slots := 0, locals := 47 }
set_option maxHeartbeats 4000000 in
set_option maxRecDepth 100000 in
theorem mc_isSomebodyLocking (l : Launch) (D : va_G) (bd : Nat → Nat) (cI cT cJ : ClassId) (X : va_W) (S : fk_S) (a : Int32) : fk_C l D (fk_ty cI cT cJ) yX3_isSomebodyLocking wsX3_isSomebodyLocking rmX3_isSomebodyLocking [.ref (bd 0), .int a] (fk_mW bd cI S ++ X) (some (.int (fk_b (mm_lk S a).isSome))) (fk_mW bd cI S ++ X) := by
  refine fk_C_of (cc := cX3_isSomebodyLocking) (maxL := 2) (ret := (some .boolean)) (own := RX3) (by decide) rfl rfl (Nat.le_of_ble_eq_true rfl) ?_
  intro p e s m below meth c A ls hx hb hr hlocks hml hts hown hA hP hK hD hl
  have hS : va_S A s.heap s.heap [] := va_S.rf
  have hl : lv_has ls 2 [(0, .ref (bd 0)), (1, .int a)] := hl
  refine lv_aload_n hx hb dX3_isSomebodyLocking_0 rfl (lv_at hl 0 rfl) ?_
  refine lv_iload_n hx hb dX3_isSomebodyLocking_1 rfl (lv_at hl 1 rfl) ?_
  refine lv_iconst (v := 2) hx hb dX3_isSomebodyLocking_2 (by decide) ?_
  refine lv_sipush (v := 255) hx hb dX3_isSomebodyLocking_3 (by decide) ?_
  refine fk_callV (As := [.int a, .int 2, .int 255]) (rest := []) ⟨hx, hb, hml, hown, hts⟩ (mc_first l D bd cI cT cJ X S a 2 255) (cwV 3 hts gX3_isSomebodyLocking_X3_first rfl rfl rfl (by decide +kernel) ⟨Nat.le_of_ble_eq_true rfl, Nat.le_of_ble_eq_true rfl⟩) (fk_rvM hK hP) hK hP hD hS hA rfl hl.1 rfl (Nat.le_of_ble_eq_true rfl) dX3_isSomebodyLocking_6 ⟨Nat.le_of_ble_eq_true rfl, Nat.le_of_ble_eq_true rfl⟩ (fun H locs hP hD hS => ?_)
  rcases o_1 : mm_first S a 2 255 with _ | u2
  · refine W.eq (g2 := F0 m 9 ls [.int (-1)]) (by first | rfl | (rw [o_1]; rfl)) ?_
    refine lv_iconst (v := (-1)) hx hb dX3_isSomebodyLocking_9 (by decide) ?_
    refine lv_icmp_eq (tgt := 17) hx hb dX3_isSomebodyLocking_10 (by decide) (fun _ => ?_) (fun c => absurd c (by decide))
    refine lv_iconst (v := 0) hx hb dX3_isSomebodyLocking_17 (by decide) ?_
    exact fk_zret hx hb hr hlocks hP hK hD hS (congrArg (fun z => fk_mW bd cI z ++ X) (by first | rfl | simp [o_1])) rfl (by rw [show mm_lk S a = mm_first S a 2 255 from rfl, o_1]; rfl) dX3_isSomebodyLocking_18
  · have hu_4 : u2 < 8 := mm_first_lt o_1
    refine W.eq (g2 := F0 m 9 ls [.int (nI u2)]) (by first | rfl | (rw [o_1]; rfl)) ?_
    refine lv_iconst (v := (-1)) hx hb dX3_isSomebodyLocking_9 (by decide) ?_
    refine lv_icmp_eq (tgt := 17) hx hb dX3_isSomebodyLocking_10 (by decide) (fun c => absurd c (fk_nI_m1 (by omega))) (fun _ => ?_)
    refine lv_iconst (v := 1) hx hb dX3_isSomebodyLocking_13 (by decide) ?_
    refine lv_goto (tgt := 18) hx hb dX3_isSomebodyLocking_14 (by decide) ?_
    exact fk_zret hx hb hr hlocks hP hK hD hS (congrArg (fun z => fk_mW bd cI z ++ X) (by first | rfl | simp [o_1])) rfl (by rw [show mm_lk S a = mm_first S a 2 255 from rfl, o_1]; rfl) dX3_isSomebodyLocking_18

abbrev rmX3_joins : Room := { frames := 0, cells := 0, slots := 0, locals := 0 }
set_option maxHeartbeats 4000000 in
set_option maxRecDepth 100000 in
theorem mc_joins (l : Launch) (D : va_G) (bd : Nat → Nat) (cI cT cJ : ClassId) (X : va_W) (S : fk_S) (t : Nat) (a : Int32) (ht : t < 8) : fk_C l D (fk_ty cI cT cJ) yX3_joins wsX3_joins rmX3_joins [.ref (bd 0), .int (nI t), .int a] (fk_mW bd cI S ++ X) none (fk_mW bd cI (kk_join S t a) ++ X) := by
  refine fk_C_of (cc := cX3_joins) (maxL := 3) (ret := none) (own := RX3) (by decide) rfl rfl (Nat.le_of_ble_eq_true rfl) ?_
  intro p e s m below meth c A ls hx hb hr hlocks hml hts hown hA hP hK hD hl
  have hS : va_S A s.heap s.heap [] := va_S.rf
  have hl : lv_has ls 3 [(0, .ref (bd 0)), (1, .int (nI t)), (2, .int a)] := hl
  have hiX3 : ∀ w ∈ u_ws RX3 TX3 17, w ∈ wsX3_joins := by decide +kernel
  refine lv_aload_n hx hb dX3_joins_0 rfl (lv_at hl 0 rfl) ?_
  refine fk_getM hx hb hts hiX3 hown hK hP 5 (by decide) (v := .ref (bd 6)) rfl (List.mem_of_getElem? (i := 1) rfl) rfl dX3_joins_1 ?_
  refine lv_iload_n hx hb dX3_joins_4 rfl (lv_at hl 1 rfl) ?_
  refine lv_iload_n hx hb dX3_joins_5 rfl (lv_at hl 2 rfl) ?_
  refine fk_stN hx hb hK hP hD hS 5 3 8 rfl (by decide) rfl rfl (vp_in_nI (show t < 8 from (by omega)) (by decide)) dX3_joins_6 (fun H locs hP hD hS => ?_)
  rw [show ((nI t)).toNatClampNeg = t from nI_clamp (n := t) (by omega)] at hP hD
  refine lv_aload_n hx hb dX3_joins_7 rfl (lv_at hl 0 rfl) ?_
  refine lv_dup hx hb dX3_joins_8 rfl ?_
  refine fk_getM hx hb hts hiX3 hown hK hP 15 (by decide) (v := .int (S 12 3)) (by simp [fk_fM, fk_up]) (List.mem_of_getElem? (i := 2) rfl) rfl dX3_joins_9 ?_
  refine lv_iconst (v := 1) hx hb dX3_joins_12 (by decide) ?_
  refine lv_iadd hx hb dX3_joins_13 ?_
  refine fk_putM (v := ((S 12 3) + 1)) hx hb hts hiX3 hown hK hP hD hS 3 (by decide) (by simp [fk_fM, fk_up]) (List.mem_of_getElem? (i := 2) rfl) rfl rfl (by decide +kernel) dX3_joins_14 (fun H locs hP hD hS => ?_)
  refine lv_aload_n hx hb dX3_joins_17 rfl (lv_at hl 0 rfl) ?_
  refine fk_getM hx hb hts hiX3 hown hK hP 9 (by decide) (v := .ref (bd 10)) rfl (List.mem_of_getElem? (i := 3) rfl) rfl dX3_joins_18 ?_
  refine lv_iload_n hx hb dX3_joins_21 rfl (lv_at hl 1 rfl) ?_
  refine lv_aload_n hx hb dX3_joins_22 rfl (lv_at hl 0 rfl) ?_
  refine fk_getM hx hb hts hiX3 hown hK hP 15 (by decide) (v := .int ((S 12 3) + 1)) (by simp [fk_fM, fk_up]) (List.mem_of_getElem? (i := 2) rfl) rfl dX3_joins_23 ?_
  refine fk_stN hx hb hK hP hD hS 9 7 8 rfl (by decide) rfl rfl (vp_in_nI (show t < 8 from (by omega)) (by decide)) dX3_joins_26 (fun H locs hP hD hS => ?_)
  rw [show ((nI t)).toNatClampNeg = t from nI_clamp (n := t) (by omega)] at hP hD
  exact fk_vret hx hb hr hlocks hP hK hD hS (congrArg (fun z => fk_mW bd cI z ++ X) (by rfl)) (by rfl) dX3_joins_27

abbrev rmX3_leaves : Room := { frames := 3, cells := 0, slots := 0, locals := 68 }
set_option maxHeartbeats 4000000 in
set_option maxRecDepth 100000 in
theorem mc_leaves (l : Launch) (D : va_G) (bd : Nat → Nat) (cI cT cJ : ClassId) (X : va_W) (S : fk_S) (t : Nat) (w : Int32) (ht : t < 8) (hat : S 1 t = 2 → vp_in (S 3 t) 16) : fk_C l D (fk_ty cI cT cJ) yX3_leaves wsX3_leaves rmX3_leaves [.ref (bd 0), .int (nI t), .int w] (fk_mW bd cI S ++ X) none (fk_mW bd cI (mm_leave S t w) ++ X) := by
  refine fk_C_of (cc := cX3_leaves) (maxL := 4) (ret := none) (own := RX3) (by decide) rfl rfl (Nat.le_of_ble_eq_true rfl) ?_
  intro p e s m below meth c A ls hx hb hr hlocks hml hts hown hA hP hK hD hl
  have hS : va_S A s.heap s.heap [] := va_S.rf
  have hl : lv_has ls 4 [(0, .ref (bd 0)), (1, .int (nI t)), (2, .int w)] := hl
  have hiX3 : ∀ w ∈ u_ws RX3 TX3 17, w ∈ wsX3_leaves := by decide +kernel
  refine lv_aload_n hx hb dX3_leaves_0 rfl (lv_at hl 0 rfl) ?_
  refine fk_getM hx hb hts hiX3 hown hK hP 1 (by decide) (v := .ref (bd 2)) rfl (List.mem_of_getElem? (i := 1) rfl) rfl dX3_leaves_1 ?_
  refine lv_iload_n hx hb dX3_leaves_4 rfl (lv_at hl 1 rfl) ?_
  refine fk_ldN hx hb hK hP 1 1 8 rfl (by decide) rfl rfl (vp_in_nI (show t < 8 from (by omega)) (by decide)) dX3_leaves_5 ?_
  refine W.eq (g2 := F0 m 6 ls [.int (S 1 t)]) (by rw [nI_clamp (by omega)]) ?_
  refine lv_iconst (v := 2) hx hb dX3_leaves_6 (by decide) ?_
  refine lv_icmp_ne (tgt := 14) hx hb dX3_leaves_7 (by decide) (fun c_1 => ?_) (fun c_1 => ?_)
  · refine lv_iconst (v := 0) hx hb dX3_leaves_14 (by decide) ?_
    refine lv_istore_n (lv' := [(3, .int 0), (0, .ref (bd 0)), (1, .int (nI t)), (2, .int w)]) hx hb dX3_leaves_15 rfl hl (by decide) rfl (fun ls hl => ?_)
    refine lv_aload_n hx hb dX3_leaves_16 rfl (lv_at hl 1 rfl) ?_
    refine fk_getM hx hb hts hiX3 hown hK hP 1 (by decide) (v := .ref (bd 2)) rfl (List.mem_of_getElem? (i := 1) rfl) rfl dX3_leaves_17 ?_
    refine lv_iload_n hx hb dX3_leaves_20 rfl (lv_at hl 2 rfl) ?_
    refine lv_iload_n hx hb dX3_leaves_21 rfl (lv_at hl 3 rfl) ?_
    refine fk_stN hx hb hK hP hD hS 1 1 8 rfl (by decide) rfl rfl (vp_in_nI (show t < 8 from (by omega)) (by decide)) dX3_leaves_22 (fun H locs hP hD hS => ?_)
    rw [show ((nI t)).toNatClampNeg = t from nI_clamp (n := t) (by omega)] at hP hD
    refine lv_iload_n hx hb dX3_leaves_23 rfl (lv_at hl 0 rfl) ?_
    refine lv_if_eq (tgt := 56) hx hb dX3_leaves_24 (by decide) (fun _ => ?_) (fun c => absurd c (by decide))
    exact fk_vret hx hb hr hlocks hP hK hD hS (congrArg (fun z => fk_mW bd cI z ++ X) (by first | rfl | simp [mm_leave, c_1])) (by rfl) dX3_leaves_56
  · refine lv_iconst (v := 1) hx hb dX3_leaves_10 (by decide) ?_
    refine lv_goto (tgt := 15) hx hb dX3_leaves_11 (by decide) ?_
    refine lv_istore_n (lv' := [(3, .int 1), (0, .ref (bd 0)), (1, .int (nI t)), (2, .int w)]) hx hb dX3_leaves_15 rfl hl (by decide) rfl (fun ls hl => ?_)
    refine lv_aload_n hx hb dX3_leaves_16 rfl (lv_at hl 1 rfl) ?_
    refine fk_getM hx hb hts hiX3 hown hK hP 1 (by decide) (v := .ref (bd 2)) rfl (List.mem_of_getElem? (i := 1) rfl) rfl dX3_leaves_17 ?_
    refine lv_iload_n hx hb dX3_leaves_20 rfl (lv_at hl 2 rfl) ?_
    refine lv_iload_n hx hb dX3_leaves_21 rfl (lv_at hl 3 rfl) ?_
    refine fk_stN hx hb hK hP hD hS 1 1 8 rfl (by decide) rfl rfl (vp_in_nI (show t < 8 from (by omega)) (by decide)) dX3_leaves_22 (fun H locs hP hD hS => ?_)
    rw [show ((nI t)).toNatClampNeg = t from nI_clamp (n := t) (by omega)] at hP hD
    refine lv_iload_n hx hb dX3_leaves_23 rfl (lv_at hl 0 rfl) ?_
    refine lv_if_eq (tgt := 56) hx hb dX3_leaves_24 (by decide) (fun c => absurd c (by decide)) (fun _ => ?_)
    refine lv_aload_n hx hb dX3_leaves_27 rfl (lv_at hl 1 rfl) ?_
    refine lv_aload_n hx hb dX3_leaves_28 rfl (lv_at hl 1 rfl) ?_
    refine fk_getM hx hb hts hiX3 hown hK hP 5 (by decide) (v := .ref (bd 6)) rfl (List.mem_of_getElem? (i := 2) rfl) rfl dX3_leaves_29 ?_
    refine lv_iload_n hx hb dX3_leaves_32 rfl (lv_at hl 2 rfl) ?_
    refine fk_ldN hx hb hK hP 5 3 8 rfl (by decide) rfl rfl (vp_in_nI (show t < 8 from (by omega)) (by decide)) dX3_leaves_33 ?_
    refine W.eq (g2 := F0 m 34 ls [.int (S 3 t), .ref (bd 0)]) (by simp [fk_up, nI_clamp (n := t) (by omega)]) ?_
    refine fk_callV (As := [.int (S 3 t)]) (rest := []) ⟨hx, hb, hml, hown, hts⟩ (mc_isSomebodyLocking l D bd cI cT cJ X (fk_up S 1 t w) (S 3 t)) (cwV 1 hts gX3_leaves_X3_isSomebodyLocking rfl rfl rfl (by decide +kernel) ⟨Nat.le_of_ble_eq_true rfl, Nat.le_of_ble_eq_true rfl⟩) (fk_rvM hK hP) hK hP hD hS hA rfl hl.1 rfl (Nat.le_of_ble_eq_true rfl) dX3_leaves_34 ⟨Nat.le_of_ble_eq_true rfl, Nat.le_of_ble_eq_true rfl⟩ (fun H locs hP hD hS => ?_)
    rcases o_4 : mm_lk (fk_up S 1 t w) (S 3 t) with _ | u5
    · refine W.eq (g2 := F0 m 37 ls [.int 0]) (by first | rfl | (rw [o_4]; rfl)) ?_
      refine lv_if_ne (tgt := 56) hx hb dX3_leaves_37 (by decide) (fun c => absurd c (by decide)) (fun _ => ?_)
      refine lv_aload_n hx hb dX3_leaves_40 rfl (lv_at hl 1 rfl) ?_
      refine fk_getM hx hb hts hiX3 hown hK hP 0 (by decide) (v := .ref (bd 1)) rfl (List.mem_of_getElem? (i := 3) rfl) rfl dX3_leaves_41 ?_
      refine lv_aload_n hx hb dX3_leaves_44 rfl (lv_at hl 1 rfl) ?_
      refine fk_getM hx hb hts hiX3 hown hK hP 5 (by decide) (v := .ref (bd 6)) rfl (List.mem_of_getElem? (i := 2) rfl) rfl dX3_leaves_45 ?_
      refine lv_iload_n hx hb dX3_leaves_48 rfl (lv_at hl 2 rfl) ?_
      refine fk_ldN hx hb hK hP 5 3 8 rfl (by decide) rfl rfl (vp_in_nI (show t < 8 from (by omega)) (by decide)) dX3_leaves_49 ?_
      refine W.eq (g2 := F0 m 50 ls [.int (S 3 t), .ref (bd 1)]) (by simp [fk_up, nI_clamp (n := t) (by omega)]) ?_
      refine lv_dup2_11 hx hb dX3_leaves_50 rfl rfl ?_
      refine fk_ldN hx hb hK hP 0 0 16 rfl (by decide) rfl rfl (hat c_1) dX3_leaves_51 ?_
      refine W.eq (g2 := F0 m 52 ls [.int (S 0 ((S 3 t).toNatClampNeg)), .int (S 3 t), .ref (bd 1)]) (by simp [fk_up]) ?_
      refine lv_ldc (own := RX3) (v := 2147483647) hx hb hown (hts (.constant RX3 67 (2147483647)) (List.mem_of_getElem? (i := 4) rfl)) dX3_leaves_52 ?_
      refine lv_iand hx hb dX3_leaves_54 ?_
      refine fk_stN hx hb hK hP hD hS 0 0 16 rfl (by decide) rfl rfl (hat c_1) dX3_leaves_55 (fun H locs hP hD hS => ?_)
      exact fk_vret hx hb hr hlocks hP hK hD hS (congrArg (fun z => fk_mW bd cI z ++ X) (by first | rfl | simp [mm_leave, c_1, o_4])) (by rfl) dX3_leaves_56
    · refine W.eq (g2 := F0 m 37 ls [.int 1]) (by first | rfl | (rw [o_4]; rfl)) ?_
      refine lv_if_ne (tgt := 56) hx hb dX3_leaves_37 (by decide) (fun _ => ?_) (fun c => absurd c (by decide))
      exact fk_vret hx hb hr hlocks hP hK hD hS (congrArg (fun z => fk_mW bd cI z ++ X) (by first | rfl | simp [mm_leave, c_1, o_4])) (by rfl) dX3_leaves_56

abbrev rmX3_ends : Room := { frames := 4, cells := 0, slots := 0, locals := 91 }
set_option maxHeartbeats 4000000 in
set_option maxRecDepth 100000 in
theorem mc_ends (l : Launch) (D : va_G) (bd : Nat → Nat) (cI cT cJ : ClassId) (X : va_W) (S : fk_S) (t : Nat) (r : Int32) (ht : t < 8) (hat : S 1 t = 2 → vp_in (S 3 t) 16) : fk_C l D (fk_ty cI cT cJ) yX3_ends wsX3_ends rmX3_ends [.ref (bd 0), .int (nI t), .int r] (fk_mW bd cI S ++ X) none (fk_mW bd cI (mm_end S t r) ++ X) := by
  refine fk_C_of (cc := cX3_ends) (maxL := 3) (ret := none) (own := RX3) (by decide) rfl rfl (Nat.le_of_ble_eq_true rfl) ?_
  intro p e s m below meth c A ls hx hb hr hlocks hml hts hown hA hP hK hD hl
  have hS : va_S A s.heap s.heap [] := va_S.rf
  have hl : lv_has ls 3 [(0, .ref (bd 0)), (1, .int (nI t)), (2, .int r)] := hl
  have hiX3 : ∀ w ∈ u_ws RX3 TX3 17, w ∈ wsX3_ends := by decide +kernel
  refine lv_aload_n hx hb dX3_ends_0 rfl (lv_at hl 0 rfl) ?_
  refine lv_iload_n hx hb dX3_ends_1 rfl (lv_at hl 1 rfl) ?_
  refine lv_iconst (v := 0) hx hb dX3_ends_2 (by decide) ?_
  refine fk_callV (As := [.int (nI t), .int 0]) (rest := []) ⟨hx, hb, hml, hown, hts⟩ (mc_leaves l D bd cI cT cJ X S t 0 ht hat) (cwV 2 hts gX3_ends_X3_leaves rfl rfl rfl (by decide +kernel) ⟨Nat.le_of_ble_eq_true rfl, Nat.le_of_ble_eq_true rfl⟩) (fk_rvM hK hP) hK hP hD hS hA rfl hl.1 rfl (Nat.le_of_ble_eq_true rfl) dX3_ends_3 ⟨Nat.le_of_ble_eq_true rfl, Nat.le_of_ble_eq_true rfl⟩ (fun H locs hP hD hS => ?_)
  refine W.eq (g2 := F0 m 6 ls []) rfl ?_
  refine lv_aload_n hx hb dX3_ends_6 rfl (lv_at hl 0 rfl) ?_
  refine fk_getM hx hb hts hiX3 hown hK hP 3 (by decide) (v := .ref (bd 4)) rfl (List.mem_of_getElem? (i := 1) rfl) rfl dX3_ends_7 ?_
  refine lv_iload_n hx hb dX3_ends_10 rfl (lv_at hl 1 rfl) ?_
  refine lv_iload_n hx hb dX3_ends_11 rfl (lv_at hl 2 rfl) ?_
  refine fk_stN hx hb hK hP hD hS 3 8 8 rfl (by decide) rfl rfl (vp_in_nI (show t < 8 from (by omega)) (by decide)) dX3_ends_12 (fun H locs hP hD hS => ?_)
  rw [show ((nI t)).toNatClampNeg = t from nI_clamp (n := t) (by omega)] at hP hD
  refine lv_aload_n hx hb dX3_ends_13 rfl (lv_at hl 0 rfl) ?_
  refine lv_dup hx hb dX3_ends_14 rfl ?_
  refine fk_getM hx hb hts hiX3 hown hK hP 13 (by decide) (v := .int ((mm_leave S t 0) 12 1)) (by simp [fk_fM, fk_up]) (List.mem_of_getElem? (i := 2) rfl) rfl dX3_ends_15 ?_
  refine lv_iconst (v := 1) hx hb dX3_ends_18 (by decide) ?_
  refine lv_iadd hx hb dX3_ends_19 ?_
  refine fk_putM (v := (((mm_leave S t 0) 12 1) + 1)) hx hb hts hiX3 hown hK hP hD hS 1 (by decide) (by simp [fk_fM, fk_up]) (List.mem_of_getElem? (i := 2) rfl) rfl rfl (by decide +kernel) dX3_ends_20 (fun H locs hP hD hS => ?_)
  refine lv_aload_n hx hb dX3_ends_23 rfl (lv_at hl 0 rfl) ?_
  refine fk_getM hx hb hts hiX3 hown hK hP 4 (by decide) (v := .ref (bd 5)) rfl (List.mem_of_getElem? (i := 3) rfl) rfl dX3_ends_24 ?_
  refine lv_iload_n hx hb dX3_ends_27 rfl (lv_at hl 1 rfl) ?_
  refine lv_aload_n hx hb dX3_ends_28 rfl (lv_at hl 0 rfl) ?_
  refine fk_getM hx hb hts hiX3 hown hK hP 13 (by decide) (v := .int (((mm_leave S t 0) 12 1) + 1)) (by simp [fk_fM, fk_up]) (List.mem_of_getElem? (i := 2) rfl) rfl dX3_ends_29 ?_
  refine fk_stN hx hb hK hP hD hS 4 9 8 rfl (by decide) rfl rfl (vp_in_nI (show t < 8 from (by omega)) (by decide)) dX3_ends_32 (fun H locs hP hD hS => ?_)
  rw [show ((nI t)).toNatClampNeg = t from nI_clamp (n := t) (by omega)] at hP hD
  exact fk_vret hx hb hr hlocks hP hK hD hS (congrArg (fun z => fk_mW bd cI z ++ X) (by rfl)) (by rfl) dX3_ends_33

abbrev rmX3_waits : Room := { frames := 1, cells := 0, slots := 0, locals := 22 }
set_option maxHeartbeats 4000000 in
set_option maxRecDepth 100000 in
theorem mc_waits (l : Launch) (D : va_G) (bd : Nat → Nat) (cI cT cJ : ClassId) (X : va_W) (S : fk_S) (t : Nat) (a w mk to : Int32) (ht : t < 8) : fk_C l D (fk_ty cI cT cJ) yX3_waits wsX3_waits rmX3_waits [.ref (bd 0), .int (nI t), .int a, .int w, .int mk, .int to] (fk_mW bd cI S ++ X) none (fk_mW bd cI (mm_wait S t a w mk to) ++ X) := by
  refine fk_C_of (cc := cX3_waits) (maxL := 6) (ret := none) (own := RX3) (by decide) rfl rfl (Nat.le_of_ble_eq_true rfl) ?_
  intro p e s m below meth c A ls hx hb hr hlocks hml hts hown hA hP hK hD hl
  have hS : va_S A s.heap s.heap [] := va_S.rf
  have hl : lv_has ls 6 [(0, .ref (bd 0)), (1, .int (nI t)), (2, .int a), (3, .int w), (4, .int mk), (5, .int to)] := hl
  have hiX3 : ∀ w ∈ u_ws RX3 TX3 17, w ∈ wsX3_waits := by decide +kernel
  refine lv_aload_n hx hb dX3_waits_0 rfl (lv_at hl 0 rfl) ?_
  refine fk_getM hx hb hts hiX3 hown hK hP 1 (by decide) (v := .ref (bd 2)) rfl (List.mem_of_getElem? (i := 1) rfl) rfl dX3_waits_1 ?_
  refine lv_iload_n hx hb dX3_waits_4 rfl (lv_at hl 1 rfl) ?_
  refine lv_iload_n hx hb dX3_waits_5 rfl (lv_at hl 3 rfl) ?_
  refine fk_stN hx hb hK hP hD hS 1 1 8 rfl (by decide) rfl rfl (vp_in_nI (show t < 8 from (by omega)) (by decide)) dX3_waits_6 (fun H locs hP hD hS => ?_)
  rw [show ((nI t)).toNatClampNeg = t from nI_clamp (n := t) (by omega)] at hP hD
  refine lv_aload_n hx hb dX3_waits_7 rfl (lv_at hl 0 rfl) ?_
  refine fk_getM hx hb hts hiX3 hown hK hP 6 (by decide) (v := .ref (bd 7)) rfl (List.mem_of_getElem? (i := 2) rfl) rfl dX3_waits_8 ?_
  refine lv_iload_n hx hb dX3_waits_11 rfl (lv_at hl 1 rfl) ?_
  refine lv_iload hx hb dX3_waits_12 (lv_at hl 4 rfl) ?_
  refine fk_stN hx hb hK hP hD hS 6 4 8 rfl (by decide) rfl rfl (vp_in_nI (show t < 8 from (by omega)) (by decide)) dX3_waits_14 (fun H locs hP hD hS => ?_)
  rw [show ((nI t)).toNatClampNeg = t from nI_clamp (n := t) (by omega)] at hP hD
  refine lv_aload_n hx hb dX3_waits_15 rfl (lv_at hl 0 rfl) ?_
  refine fk_getM hx hb hts hiX3 hown hK hP 7 (by decide) (v := .ref (bd 8)) rfl (List.mem_of_getElem? (i := 3) rfl) rfl dX3_waits_16 ?_
  refine lv_iload_n hx hb dX3_waits_19 rfl (lv_at hl 1 rfl) ?_
  refine lv_iload hx hb dX3_waits_20 (lv_at hl 5 rfl) ?_
  refine lv_if_ne (tgt := 29) hx hb dX3_waits_22 (by decide) (fun c_1 => ?_) (fun c_1 => ?_)
  · refine lv_aload_n hx hb dX3_waits_29 rfl (lv_at hl 0 rfl) ?_
    refine fk_getM hx hb hts hiX3 hown hK hP 12 (by decide) (v := .int (S 12 0)) (by simp [fk_fM, fk_up]) (List.mem_of_getElem? (i := 4) rfl) rfl dX3_waits_30 ?_
    refine lv_iload hx hb dX3_waits_33 (lv_at hl 5 rfl) ?_
    refine lv_iadd hx hb dX3_waits_35 ?_
    refine fk_stN hx hb hK hP hD hS 7 5 8 rfl (by decide) rfl rfl (vp_in_nI (show t < 8 from (by omega)) (by decide)) dX3_waits_36 (fun H locs hP hD hS => ?_)
    rw [show ((nI t)).toNatClampNeg = t from nI_clamp (n := t) (by omega)] at hP hD
    refine lv_aload_n hx hb dX3_waits_37 rfl (lv_at hl 0 rfl) ?_
    refine lv_dup hx hb dX3_waits_38 rfl ?_
    refine fk_getM hx hb hts hiX3 hown hK hP 14 (by decide) (v := .int (S 12 2)) (by simp [fk_fM, fk_up]) (List.mem_of_getElem? (i := 5) rfl) rfl dX3_waits_39 ?_
    refine lv_iconst (v := 1) hx hb dX3_waits_42 (by decide) ?_
    refine lv_iadd hx hb dX3_waits_43 ?_
    refine fk_putM (v := ((S 12 2) + 1)) hx hb hts hiX3 hown hK hP hD hS 2 (by decide) (by simp [fk_fM, fk_up]) (List.mem_of_getElem? (i := 5) rfl) rfl rfl (by decide +kernel) dX3_waits_44 (fun H locs hP hD hS => ?_)
    refine lv_aload_n hx hb dX3_waits_47 rfl (lv_at hl 0 rfl) ?_
    refine fk_getM hx hb hts hiX3 hown hK hP 8 (by decide) (v := .ref (bd 9)) rfl (List.mem_of_getElem? (i := 6) rfl) rfl dX3_waits_48 ?_
    refine lv_iload_n hx hb dX3_waits_51 rfl (lv_at hl 1 rfl) ?_
    refine lv_aload_n hx hb dX3_waits_52 rfl (lv_at hl 0 rfl) ?_
    refine fk_getM hx hb hts hiX3 hown hK hP 14 (by decide) (v := .int ((S 12 2) + 1)) (by simp [fk_fM, fk_up]) (List.mem_of_getElem? (i := 5) rfl) rfl dX3_waits_53 ?_
    refine fk_stN hx hb hK hP hD hS 8 6 8 rfl (by decide) rfl rfl (vp_in_nI (show t < 8 from (by omega)) (by decide)) dX3_waits_56 (fun H locs hP hD hS => ?_)
    rw [show ((nI t)).toNatClampNeg = t from nI_clamp (n := t) (by omega)] at hP hD
    refine lv_aload_n hx hb dX3_waits_57 rfl (lv_at hl 0 rfl) ?_
    refine lv_iload_n hx hb dX3_waits_58 rfl (lv_at hl 1 rfl) ?_
    refine lv_iload_n hx hb dX3_waits_59 rfl (lv_at hl 2 rfl) ?_
    refine fk_callV (As := [.int (nI t), .int a]) (rest := []) ⟨hx, hb, hml, hown, hts⟩ (mc_joins l D bd cI cT cJ X (fk_up (fk_up (fk_up (fk_up (fk_up S 1 t w) 4 t mk) 5 t ((S 12 0) + to)) 12 2 ((S 12 2) + 1)) 6 t ((S 12 2) + 1)) t a ht) (cwV 2 hts gX3_waits_X3_joins rfl rfl rfl (by decide +kernel) ⟨Nat.le_of_ble_eq_true rfl, Nat.le_of_ble_eq_true rfl⟩) (fk_rvM hK hP) hK hP hD hS hA rfl hl.1 rfl (Nat.le_of_ble_eq_true rfl) dX3_waits_60 ⟨Nat.le_of_ble_eq_true rfl, Nat.le_of_ble_eq_true rfl⟩ (fun H locs hP hD hS => ?_)
    refine W.eq (g2 := F0 m 63 ls []) rfl ?_
    exact fk_vret hx hb hr hlocks hP hK hD hS (congrArg (fun z => fk_mW bd cI z ++ X) (by first | rfl | simp [mm_wait, c_1])) (by rfl) dX3_waits_63
  · refine lv_iconst (v := 0) hx hb dX3_waits_25 (by decide) ?_
    refine lv_goto (tgt := 36) hx hb dX3_waits_26 (by decide) ?_
    refine fk_stN hx hb hK hP hD hS 7 5 8 rfl (by decide) rfl rfl (vp_in_nI (show t < 8 from (by omega)) (by decide)) dX3_waits_36 (fun H locs hP hD hS => ?_)
    rw [show ((nI t)).toNatClampNeg = t from nI_clamp (n := t) (by omega)] at hP hD
    refine lv_aload_n hx hb dX3_waits_37 rfl (lv_at hl 0 rfl) ?_
    refine lv_dup hx hb dX3_waits_38 rfl ?_
    refine fk_getM hx hb hts hiX3 hown hK hP 14 (by decide) (v := .int (S 12 2)) (by simp [fk_fM, fk_up]) (List.mem_of_getElem? (i := 5) rfl) rfl dX3_waits_39 ?_
    refine lv_iconst (v := 1) hx hb dX3_waits_42 (by decide) ?_
    refine lv_iadd hx hb dX3_waits_43 ?_
    refine fk_putM (v := ((S 12 2) + 1)) hx hb hts hiX3 hown hK hP hD hS 2 (by decide) (by simp [fk_fM, fk_up]) (List.mem_of_getElem? (i := 5) rfl) rfl rfl (by decide +kernel) dX3_waits_44 (fun H locs hP hD hS => ?_)
    refine lv_aload_n hx hb dX3_waits_47 rfl (lv_at hl 0 rfl) ?_
    refine fk_getM hx hb hts hiX3 hown hK hP 8 (by decide) (v := .ref (bd 9)) rfl (List.mem_of_getElem? (i := 6) rfl) rfl dX3_waits_48 ?_
    refine lv_iload_n hx hb dX3_waits_51 rfl (lv_at hl 1 rfl) ?_
    refine lv_aload_n hx hb dX3_waits_52 rfl (lv_at hl 0 rfl) ?_
    refine fk_getM hx hb hts hiX3 hown hK hP 14 (by decide) (v := .int ((S 12 2) + 1)) (by simp [fk_fM, fk_up]) (List.mem_of_getElem? (i := 5) rfl) rfl dX3_waits_53 ?_
    refine fk_stN hx hb hK hP hD hS 8 6 8 rfl (by decide) rfl rfl (vp_in_nI (show t < 8 from (by omega)) (by decide)) dX3_waits_56 (fun H locs hP hD hS => ?_)
    rw [show ((nI t)).toNatClampNeg = t from nI_clamp (n := t) (by omega)] at hP hD
    refine lv_aload_n hx hb dX3_waits_57 rfl (lv_at hl 0 rfl) ?_
    refine lv_iload_n hx hb dX3_waits_58 rfl (lv_at hl 1 rfl) ?_
    refine lv_iload_n hx hb dX3_waits_59 rfl (lv_at hl 2 rfl) ?_
    refine fk_callV (As := [.int (nI t), .int a]) (rest := []) ⟨hx, hb, hml, hown, hts⟩ (mc_joins l D bd cI cT cJ X (fk_up (fk_up (fk_up (fk_up (fk_up S 1 t w) 4 t mk) 5 t 0) 12 2 ((S 12 2) + 1)) 6 t ((S 12 2) + 1)) t a ht) (cwV 2 hts gX3_waits_X3_joins rfl rfl rfl (by decide +kernel) ⟨Nat.le_of_ble_eq_true rfl, Nat.le_of_ble_eq_true rfl⟩) (fk_rvM hK hP) hK hP hD hS hA rfl hl.1 rfl (Nat.le_of_ble_eq_true rfl) dX3_waits_60 ⟨Nat.le_of_ble_eq_true rfl, Nat.le_of_ble_eq_true rfl⟩ (fun H locs hP hD hS => ?_)
    refine W.eq (g2 := F0 m 63 ls []) rfl ?_
    exact fk_vret hx hb hr hlocks hP hK hD hS (congrArg (fun z => fk_mW bd cI z ++ X) (by first | rfl | simp [mm_wait, c_1])) (by rfl) dX3_waits_63

abbrev rmX3_asksRunning : Room := { frames := 1, cells := 0, slots := 0, locals := 20 }
set_option maxHeartbeats 4000000 in
set_option maxRecDepth 100000 in
theorem mc_asksRunning (l : Launch) (D : va_G) (bd : Nat → Nat) (cI cT cJ : ClassId) (X : va_W) (S : fk_S) (th av : Int32) (b : Bool) (wh : Int32) : fk_C l D (fk_ty cI cT cJ) yX3_asksRunning wsX3_asksRunning rmX3_asksRunning [.ref (bd 0), .int th, .int av, .int (fk_b b), .int wh] (fk_mW bd cI S ++ X) (some (.int (fk_b (decide (mm_code S th av b wh = 0))))) (fk_mW bd cI (mm_set S (mm_code S th av b wh)) ++ X) := by
  refine fk_C_of (cc := cX3_asksRunning) (maxL := 5) (ret := (some .boolean)) (own := RX3) (by decide) rfl rfl (Nat.le_of_ble_eq_true rfl) ?_
  intro p e s m below meth c A ls hx hb hr hlocks hml hts hown hA hP hK hD hl
  have hS : va_S A s.heap s.heap [] := va_S.rf
  have hl : lv_has ls 5 [(0, .ref (bd 0)), (1, .int th), (2, .int av), (3, .int (fk_b b)), (4, .int wh)] := hl
  have hiX3 : ∀ w ∈ u_ws RX3 TX3 17, w ∈ wsX3_asksRunning := by decide +kernel
  cases b with
  | true =>
    have hl : lv_has ls 5 [(0, .ref (bd 0)), (1, .int th), (2, .int av), (3, .int 1), (4, .int wh)] := hl
    refine lv_aload_n hx hb dX3_asksRunning_0 rfl (lv_at hl 0 rfl) ?_
    refine lv_iload_n hx hb dX3_asksRunning_1 rfl (lv_at hl 1 rfl) ?_
    refine fk_callS (As := [.int th]) (rest := [.ref (bd 0)]) ⟨hx, hb, hml, hown, hts⟩ (mc_isThread l D bd cI cT cJ X S th) (va_cwS 1 hts gX3_asksRunning_X3_isThread rfl rfl rfl (by decide +kernel) ⟨Nat.le_of_ble_eq_true rfl, Nat.le_of_ble_eq_true rfl⟩) hK hP hD hS hA rfl hl.1 rfl (Nat.le_of_ble_eq_true rfl) dX3_asksRunning_2 ⟨Nat.le_of_ble_eq_true rfl, Nat.le_of_ble_eq_true rfl⟩ (fun H locs hP hD hS => ?_)
    cases b_1 : fk_isT th with
    | true =>
      refine W.eq (g2 := F0 m 5 ls [.int 1, .ref (bd 0)]) (by first | rfl | (rw [b_1]; rfl)) ?_
      refine lv_if_eq (tgt := 15) hx hb dX3_asksRunning_5 (by decide) (fun c => absurd c (by decide)) (fun _ => ?_)
      refine lv_iload_n hx hb dX3_asksRunning_8 rfl (lv_at hl 2 rfl) ?_
      refine fk_callS (As := [.int av]) (rest := [.ref (bd 0)]) ⟨hx, hb, hml, hown, hts⟩ (mc_isAddress l D bd cI cT cJ X S av) (va_cwS 1 hts gX3_asksRunning_X3_isAddress rfl rfl rfl (by decide +kernel) ⟨Nat.le_of_ble_eq_true rfl, Nat.le_of_ble_eq_true rfl⟩) hK hP hD hS hA rfl hl.1 rfl (Nat.le_of_ble_eq_true rfl) dX3_asksRunning_9 ⟨Nat.le_of_ble_eq_true rfl, Nat.le_of_ble_eq_true rfl⟩ (fun H locs hP hD hS => ?_)
      cases b_3 : fk_isA av with
      | true =>
        refine W.eq (g2 := F0 m 12 ls [.int 1, .ref (bd 0)]) (by first | rfl | (rw [b_3]; rfl)) ?_
        refine lv_if_ne (tgt := 19) hx hb dX3_asksRunning_12 (by decide) (fun _ => ?_) (fun c => absurd c (by decide))
        refine lv_iload_n hx hb dX3_asksRunning_19 rfl (lv_at hl 3 rfl) ?_
        refine lv_if_ne (tgt := 27) hx hb dX3_asksRunning_20 (by decide) (fun _ => ?_) (fun c => absurd c (by decide))
        refine lv_aload_n hx hb dX3_asksRunning_27 rfl (lv_at hl 0 rfl) ?_
        refine fk_getM hx hb hts hiX3 hown hK hP 1 (by decide) (v := .ref (bd 2)) rfl (List.mem_of_getElem? (i := 1) rfl) rfl dX3_asksRunning_28 ?_
        refine lv_iload_n hx hb dX3_asksRunning_31 rfl (lv_at hl 1 rfl) ?_
        refine fk_ldN hx hb hK hP 1 1 8 rfl (by decide) rfl rfl (fk_isT_in b_1) dX3_asksRunning_32 ?_
        refine lv_if_eq (tgt := 41) hx hb dX3_asksRunning_33 (by decide) (fun c_6 => ?_) (fun c_6 => ?_)
        · refine lv_iconst (v := 0) hx hb dX3_asksRunning_41 (by decide) ?_
          refine fk_putM (v := 0) hx hb hts hiX3 hown hK hP hD hS 4 (by decide) (by simp [fk_fM, fk_up]) (List.mem_of_getElem? (i := 2) rfl) rfl rfl (by decide +kernel) dX3_asksRunning_42 (fun H locs hP hD hS => ?_)
          refine lv_aload_n hx hb dX3_asksRunning_45 rfl (lv_at hl 0 rfl) ?_
          refine fk_getM hx hb hts hiX3 hown hK hP 16 (by decide) (v := .int 0) (by simp [fk_fM, fk_up]) (List.mem_of_getElem? (i := 2) rfl) rfl dX3_asksRunning_46 ?_
          refine lv_if_ne (tgt := 56) hx hb dX3_asksRunning_49 (by decide) (fun c => absurd c (by decide)) (fun _ => ?_)
          refine lv_iconst (v := 1) hx hb dX3_asksRunning_52 (by decide) ?_
          refine lv_goto (tgt := 57) hx hb dX3_asksRunning_53 (by decide) ?_
          exact fk_zret hx hb hr hlocks hP hK hD hS (congrArg (fun z => fk_mW bd cI z ++ X) (by first | rfl | simp [mm_set, mm_code, b_1, b_3, c_6])) rfl (by first | rfl | simp [fk_b, mm_code, b_1, b_3, c_6]) dX3_asksRunning_57
        · refine lv_iload hx hb dX3_asksRunning_36 (lv_at hl 4 rfl) ?_
          refine lv_goto (tgt := 42) hx hb dX3_asksRunning_38 (by decide) ?_
          refine fk_putM (v := wh) hx hb hts hiX3 hown hK hP hD hS 4 (by decide) (by simp [fk_fM, fk_up]) (List.mem_of_getElem? (i := 2) rfl) rfl rfl (by decide +kernel) dX3_asksRunning_42 (fun H locs hP hD hS => ?_)
          refine lv_aload_n hx hb dX3_asksRunning_45 rfl (lv_at hl 0 rfl) ?_
          refine fk_getM hx hb hts hiX3 hown hK hP 16 (by decide) (v := .int wh) (by simp [fk_fM, fk_up]) (List.mem_of_getElem? (i := 2) rfl) rfl dX3_asksRunning_46 ?_
          refine lv_if_ne (tgt := 56) hx hb dX3_asksRunning_49 (by decide) (fun c_8 => ?_) (fun c_8 => ?_)
          · refine lv_iconst (v := 0) hx hb dX3_asksRunning_56 (by decide) ?_
            exact fk_zret hx hb hr hlocks hP hK hD hS (congrArg (fun z => fk_mW bd cI z ++ X) (by first | rfl | simp [mm_set, mm_code, b_1, b_3, c_6, c_8])) rfl (by first | rfl | simp [fk_b, mm_code, b_1, b_3, c_6, c_8]) dX3_asksRunning_57
          · refine lv_iconst (v := 1) hx hb dX3_asksRunning_52 (by decide) ?_
            refine lv_goto (tgt := 57) hx hb dX3_asksRunning_53 (by decide) ?_
            exact fk_zret hx hb hr hlocks hP hK hD hS (congrArg (fun z => fk_mW bd cI z ++ X) (by first | rfl | simp [mm_set, mm_code, b_1, b_3, c_6, c_8])) rfl (by first | rfl | simp [fk_b, mm_code, b_1, b_3, c_6, c_8]) dX3_asksRunning_57
      | false =>
        refine W.eq (g2 := F0 m 12 ls [.int 0, .ref (bd 0)]) (by first | rfl | (rw [b_3]; rfl)) ?_
        refine lv_if_ne (tgt := 19) hx hb dX3_asksRunning_12 (by decide) (fun c => absurd c (by decide)) (fun _ => ?_)
        refine lv_iconst (v := 1) hx hb dX3_asksRunning_15 (by decide) ?_
        refine lv_goto (tgt := 42) hx hb dX3_asksRunning_16 (by decide) ?_
        refine fk_putM (v := 1) hx hb hts hiX3 hown hK hP hD hS 4 (by decide) (by simp [fk_fM, fk_up]) (List.mem_of_getElem? (i := 2) rfl) rfl rfl (by decide +kernel) dX3_asksRunning_42 (fun H locs hP hD hS => ?_)
        refine lv_aload_n hx hb dX3_asksRunning_45 rfl (lv_at hl 0 rfl) ?_
        refine fk_getM hx hb hts hiX3 hown hK hP 16 (by decide) (v := .int 1) (by simp [fk_fM, fk_up]) (List.mem_of_getElem? (i := 2) rfl) rfl dX3_asksRunning_46 ?_
        refine lv_if_ne (tgt := 56) hx hb dX3_asksRunning_49 (by decide) (fun _ => ?_) (fun c => absurd c (by decide))
        refine lv_iconst (v := 0) hx hb dX3_asksRunning_56 (by decide) ?_
        exact fk_zret hx hb hr hlocks hP hK hD hS (congrArg (fun z => fk_mW bd cI z ++ X) (by first | rfl | simp [mm_set, mm_code, b_1, b_3])) rfl (by first | rfl | simp [fk_b, mm_code, b_1, b_3]) dX3_asksRunning_57
    | false =>
      refine W.eq (g2 := F0 m 5 ls [.int 0, .ref (bd 0)]) (by first | rfl | (rw [b_1]; rfl)) ?_
      refine lv_if_eq (tgt := 15) hx hb dX3_asksRunning_5 (by decide) (fun _ => ?_) (fun c => absurd c (by decide))
      refine lv_iconst (v := 1) hx hb dX3_asksRunning_15 (by decide) ?_
      refine lv_goto (tgt := 42) hx hb dX3_asksRunning_16 (by decide) ?_
      refine fk_putM (v := 1) hx hb hts hiX3 hown hK hP hD hS 4 (by decide) (by simp [fk_fM, fk_up]) (List.mem_of_getElem? (i := 2) rfl) rfl rfl (by decide +kernel) dX3_asksRunning_42 (fun H locs hP hD hS => ?_)
      refine lv_aload_n hx hb dX3_asksRunning_45 rfl (lv_at hl 0 rfl) ?_
      refine fk_getM hx hb hts hiX3 hown hK hP 16 (by decide) (v := .int 1) (by simp [fk_fM, fk_up]) (List.mem_of_getElem? (i := 2) rfl) rfl dX3_asksRunning_46 ?_
      refine lv_if_ne (tgt := 56) hx hb dX3_asksRunning_49 (by decide) (fun _ => ?_) (fun c => absurd c (by decide))
      refine lv_iconst (v := 0) hx hb dX3_asksRunning_56 (by decide) ?_
      exact fk_zret hx hb hr hlocks hP hK hD hS (congrArg (fun z => fk_mW bd cI z ++ X) (by first | rfl | simp [mm_set, mm_code, b_1])) rfl (by first | rfl | simp [fk_b, mm_code, b_1]) dX3_asksRunning_57
  | false =>
    have hl : lv_has ls 5 [(0, .ref (bd 0)), (1, .int th), (2, .int av), (3, .int 0), (4, .int wh)] := hl
    refine lv_aload_n hx hb dX3_asksRunning_0 rfl (lv_at hl 0 rfl) ?_
    refine lv_iload_n hx hb dX3_asksRunning_1 rfl (lv_at hl 1 rfl) ?_
    refine fk_callS (As := [.int th]) (rest := [.ref (bd 0)]) ⟨hx, hb, hml, hown, hts⟩ (mc_isThread l D bd cI cT cJ X S th) (va_cwS 1 hts gX3_asksRunning_X3_isThread rfl rfl rfl (by decide +kernel) ⟨Nat.le_of_ble_eq_true rfl, Nat.le_of_ble_eq_true rfl⟩) hK hP hD hS hA rfl hl.1 rfl (Nat.le_of_ble_eq_true rfl) dX3_asksRunning_2 ⟨Nat.le_of_ble_eq_true rfl, Nat.le_of_ble_eq_true rfl⟩ (fun H locs hP hD hS => ?_)
    cases b_13 : fk_isT th with
    | true =>
      refine W.eq (g2 := F0 m 5 ls [.int 1, .ref (bd 0)]) (by first | rfl | (rw [b_13]; rfl)) ?_
      refine lv_if_eq (tgt := 15) hx hb dX3_asksRunning_5 (by decide) (fun c => absurd c (by decide)) (fun _ => ?_)
      refine lv_iload_n hx hb dX3_asksRunning_8 rfl (lv_at hl 2 rfl) ?_
      refine fk_callS (As := [.int av]) (rest := [.ref (bd 0)]) ⟨hx, hb, hml, hown, hts⟩ (mc_isAddress l D bd cI cT cJ X S av) (va_cwS 1 hts gX3_asksRunning_X3_isAddress rfl rfl rfl (by decide +kernel) ⟨Nat.le_of_ble_eq_true rfl, Nat.le_of_ble_eq_true rfl⟩) hK hP hD hS hA rfl hl.1 rfl (Nat.le_of_ble_eq_true rfl) dX3_asksRunning_9 ⟨Nat.le_of_ble_eq_true rfl, Nat.le_of_ble_eq_true rfl⟩ (fun H locs hP hD hS => ?_)
      cases b_15 : fk_isA av with
      | true =>
        refine W.eq (g2 := F0 m 12 ls [.int 1, .ref (bd 0)]) (by first | rfl | (rw [b_15]; rfl)) ?_
        refine lv_if_ne (tgt := 19) hx hb dX3_asksRunning_12 (by decide) (fun _ => ?_) (fun c => absurd c (by decide))
        refine lv_iload_n hx hb dX3_asksRunning_19 rfl (lv_at hl 3 rfl) ?_
        refine lv_if_ne (tgt := 27) hx hb dX3_asksRunning_20 (by decide) (fun c => absurd c (by decide)) (fun _ => ?_)
        refine lv_iconst (v := 2) hx hb dX3_asksRunning_23 (by decide) ?_
        refine lv_goto (tgt := 42) hx hb dX3_asksRunning_24 (by decide) ?_
        refine fk_putM (v := 2) hx hb hts hiX3 hown hK hP hD hS 4 (by decide) (by simp [fk_fM, fk_up]) (List.mem_of_getElem? (i := 2) rfl) rfl rfl (by decide +kernel) dX3_asksRunning_42 (fun H locs hP hD hS => ?_)
        refine lv_aload_n hx hb dX3_asksRunning_45 rfl (lv_at hl 0 rfl) ?_
        refine fk_getM hx hb hts hiX3 hown hK hP 16 (by decide) (v := .int 2) (by simp [fk_fM, fk_up]) (List.mem_of_getElem? (i := 2) rfl) rfl dX3_asksRunning_46 ?_
        refine lv_if_ne (tgt := 56) hx hb dX3_asksRunning_49 (by decide) (fun _ => ?_) (fun c => absurd c (by decide))
        refine lv_iconst (v := 0) hx hb dX3_asksRunning_56 (by decide) ?_
        exact fk_zret hx hb hr hlocks hP hK hD hS (congrArg (fun z => fk_mW bd cI z ++ X) (by first | rfl | simp [mm_set, mm_code, b_13, b_15])) rfl (by first | rfl | simp [fk_b, mm_code, b_13, b_15]) dX3_asksRunning_57
      | false =>
        refine W.eq (g2 := F0 m 12 ls [.int 0, .ref (bd 0)]) (by first | rfl | (rw [b_15]; rfl)) ?_
        refine lv_if_ne (tgt := 19) hx hb dX3_asksRunning_12 (by decide) (fun c => absurd c (by decide)) (fun _ => ?_)
        refine lv_iconst (v := 1) hx hb dX3_asksRunning_15 (by decide) ?_
        refine lv_goto (tgt := 42) hx hb dX3_asksRunning_16 (by decide) ?_
        refine fk_putM (v := 1) hx hb hts hiX3 hown hK hP hD hS 4 (by decide) (by simp [fk_fM, fk_up]) (List.mem_of_getElem? (i := 2) rfl) rfl rfl (by decide +kernel) dX3_asksRunning_42 (fun H locs hP hD hS => ?_)
        refine lv_aload_n hx hb dX3_asksRunning_45 rfl (lv_at hl 0 rfl) ?_
        refine fk_getM hx hb hts hiX3 hown hK hP 16 (by decide) (v := .int 1) (by simp [fk_fM, fk_up]) (List.mem_of_getElem? (i := 2) rfl) rfl dX3_asksRunning_46 ?_
        refine lv_if_ne (tgt := 56) hx hb dX3_asksRunning_49 (by decide) (fun _ => ?_) (fun c => absurd c (by decide))
        refine lv_iconst (v := 0) hx hb dX3_asksRunning_56 (by decide) ?_
        exact fk_zret hx hb hr hlocks hP hK hD hS (congrArg (fun z => fk_mW bd cI z ++ X) (by first | rfl | simp [mm_set, mm_code, b_13, b_15])) rfl (by first | rfl | simp [fk_b, mm_code, b_13, b_15]) dX3_asksRunning_57
    | false =>
      refine W.eq (g2 := F0 m 5 ls [.int 0, .ref (bd 0)]) (by first | rfl | (rw [b_13]; rfl)) ?_
      refine lv_if_eq (tgt := 15) hx hb dX3_asksRunning_5 (by decide) (fun _ => ?_) (fun c => absurd c (by decide))
      refine lv_iconst (v := 1) hx hb dX3_asksRunning_15 (by decide) ?_
      refine lv_goto (tgt := 42) hx hb dX3_asksRunning_16 (by decide) ?_
      refine fk_putM (v := 1) hx hb hts hiX3 hown hK hP hD hS 4 (by decide) (by simp [fk_fM, fk_up]) (List.mem_of_getElem? (i := 2) rfl) rfl rfl (by decide +kernel) dX3_asksRunning_42 (fun H locs hP hD hS => ?_)
      refine lv_aload_n hx hb dX3_asksRunning_45 rfl (lv_at hl 0 rfl) ?_
      refine fk_getM hx hb hts hiX3 hown hK hP 16 (by decide) (v := .int 1) (by simp [fk_fM, fk_up]) (List.mem_of_getElem? (i := 2) rfl) rfl dX3_asksRunning_46 ?_
      refine lv_if_ne (tgt := 56) hx hb dX3_asksRunning_49 (by decide) (fun _ => ?_) (fun c => absurd c (by decide))
      refine lv_iconst (v := 0) hx hb dX3_asksRunning_56 (by decide) ?_
      exact fk_zret hx hb hr hlocks hP hK hD hS (congrArg (fun z => fk_mW bd cI z ++ X) (by first | rfl | simp [mm_set, mm_code, b_13])) rfl (by first | rfl | simp [fk_b, mm_code, b_13]) dX3_asksRunning_57

abbrev rmX3_place : Room := { frames := 0, cells := 0, slots := 0, locals := 0 }
set_option maxHeartbeats 4000000 in
set_option maxRecDepth 100000 in
theorem mc_place (l : Launch) (D : va_G) (bd : Nat → Nat) (cI cT cJ : ClassId) (X : va_W) (S : fk_S) (t : Nat) (a : Int32) (ht : t < 8) (hls : fk_ls S) : fk_C l D (fk_ty cI cT cJ) yX3_place wsX3_place rmX3_place [.ref (bd 0), .int (nI t), .int a] (fk_mW bd cI S ++ X) (some (.int (fk_oI (fk_place S t a)))) (fk_mW bd cI S ++ X) := by
  refine fk_C_of (cc := cX3_place) (maxL := 5) (ret := (some .int)) (own := RX3) (by decide) rfl rfl (Nat.le_of_ble_eq_true rfl) ?_
  intro p e s m below meth c A ls hx hb hr hlocks hml hts hown hA hP hK hD hl
  have hS : va_S A s.heap s.heap [] := va_S.rf
  have hl : lv_has ls 5 [(0, .ref (bd 0)), (1, .int (nI t)), (2, .int a)] := hl
  have hiX3 : ∀ w ∈ u_ws RX3 TX3 17, w ∈ wsX3_place := by decide +kernel
  obtain ⟨k, hk, hs, hv9, hd9⟩ := hls t ht
  refine lv_iconst (v := (-1)) hx hb dX3_place_0 (by decide) ?_
  refine lv_istore_n (lv' := [(3, .int (-1)), (0, .ref (bd 0)), (1, .int (nI t)), (2, .int a)]) hx hb dX3_place_1 rfl hl (by decide) rfl (fun ls hl => ?_)
  refine lv_iconst (v := 0) hx hb dX3_place_2 (by decide) ?_
  refine lv_istore (lv' := [(4, .int 0), (3, .int (-1)), (0, .ref (bd 0)), (1, .int (nI t)), (2, .int a)]) hx hb dX3_place_3 hl (by decide) rfl (fun ls hl => ?_)
  have loop : ∀ (n : Nat) (i : Nat) (x : Option Nat), i + n = k → fk_lp (mm_pl1 S t a) n i x = fk_place S t a → ∀ (H : Heap) (locs : List Loc) (ls : Array Slot), va_P D vwCl (fk_mW bd cI S ++ X) H → va_D A (fk_mW bd cI S ++ X) → va_S A s.heap H locs → lv_has ls 5 [(4, .int (nI i)), (3, .int (fk_oI x)), (0, .ref (bd 0)), (1, .int (nI t)), (2, .int a)] → W p l e rmX3_place s m ([.ref (bd 0), .int (nI t), .int a] : List Value).toArray below meth c H locs 0 0 (fk_Q below D (fk_ty cI cT cJ) [.ref (bd 0), .int (nI t), .int a] s A (fk_mW bd cI S ++ X) (some (.int (fk_oI (fk_place S t a))))) (F0 m 5 ls []) := by
    intro n
    induction n with
    | zero =>
      intro i x hi hR H locs ls hP hD hS hl
      refine lv_iload hx hb dX3_place_5 (lv_at hl 0 rfl) ?_
      refine lv_aload_n hx hb dX3_place_7 rfl (lv_at hl 2 rfl) ?_
      refine fk_getM hx hb hts hiX3 hown hK hP 10 (by decide) (v := .ref (bd 11)) rfl (List.mem_of_getElem? (i := 1) rfl) rfl dX3_place_8 ?_
      refine lv_iload_n hx hb dX3_place_11 rfl (lv_at hl 3 rfl) ?_
      refine fk_ldN hx hb hK hP 10 10 8 rfl (by decide) rfl rfl (vp_in_nI (show t < 8 from (by omega)) (by decide)) dX3_place_12 ?_
      refine W.eq (g2 := F0 m 13 ls [.int (S 10 t), .int (nI i)]) (by rw [nI_clamp (by omega)]) ?_
      refine W.eq (g2 := F0 m 13 ls [.int (nI k), .int (nI i)]) (by rw [hs]) ?_
      refine lv_icmp_ge (tgt := 45) hx hb dX3_place_13 (by decide) (fun c_1 => ?_) (fun c_1 => absurd (nI_le (a := k) (b := i) (by omega) (by omega)) c_1)
      refine lv_iload_n hx hb dX3_place_45 rfl (lv_at hl 1 rfl) ?_
      exact fk_iret hx hb hr hlocks hP hK hD hS (congrArg (fun z => fk_mW bd cI z ++ X) (by first | rfl | simp [c_1])) (by rw [← hR]; rfl) dX3_place_46
    | succ n ih =>
      intro i x hi hR H locs ls hP hD hS hl
      refine lv_iload hx hb dX3_place_5 (lv_at hl 0 rfl) ?_
      refine lv_aload_n hx hb dX3_place_7 rfl (lv_at hl 2 rfl) ?_
      refine fk_getM hx hb hts hiX3 hown hK hP 10 (by decide) (v := .ref (bd 11)) rfl (List.mem_of_getElem? (i := 1) rfl) rfl dX3_place_8 ?_
      refine lv_iload_n hx hb dX3_place_11 rfl (lv_at hl 3 rfl) ?_
      refine fk_ldN hx hb hK hP 10 10 8 rfl (by decide) rfl rfl (vp_in_nI (show t < 8 from (by omega)) (by decide)) dX3_place_12 ?_
      refine W.eq (g2 := F0 m 13 ls [.int (S 10 t), .int (nI i)]) (by rw [nI_clamp (by omega)]) ?_
      refine W.eq (g2 := F0 m 13 ls [.int (nI k), .int (nI i)]) (by rw [hs]) ?_
      refine lv_icmp_ge (tgt := 45) hx hb dX3_place_13 (by decide) (fun c_2 => absurd c_2 (nI_ge (a := i) (b := k) (by omega) (by omega))) (fun c_2 => ?_)
      refine lv_aload_n hx hb dX3_place_16 rfl (lv_at hl 2 rfl) ?_
      refine fk_getM hx hb hts hiX3 hown hK hP 11 (by decide) (v := .ref (bd 12)) rfl (List.mem_of_getElem? (i := 2) rfl) rfl dX3_place_17 ?_
      refine lv_bipush (v := 16) hx hb dX3_place_20 (by decide) ?_
      refine lv_iload_n hx hb dX3_place_22 rfl (lv_at hl 3 rfl) ?_
      refine lv_imul hx hb dX3_place_23 ?_
      refine W.eq (g2 := F0 m 24 ls [.int (nI (16 * t)), .ref (bd 12)]) (by rw [show (16 : Int32) = nI 16 from rfl, pk_mul]) ?_
      refine lv_iload hx hb dX3_place_24 (lv_at hl 0 rfl) ?_
      refine lv_iadd hx hb dX3_place_26 ?_
      refine W.eq (g2 := F0 m 27 ls [.int (nI (16 * t + i)), .ref (bd 12)]) (by rw [nI_add]) ?_
      refine fk_ldN hx hb hK hP 11 11 128 rfl (by decide) rfl rfl (vp_in_nI (show 16 * t + i < 128 from (by omega)) (by decide)) dX3_place_27 ?_
      refine W.eq (g2 := F0 m 28 ls [.int (S 11 (16 * t + i))]) (by rw [nI_clamp (by omega)]) ?_
      refine lv_iload_n hx hb dX3_place_28 rfl (lv_at hl 4 rfl) ?_
      refine lv_icmp_ne (tgt := 37) hx hb dX3_place_29 (by decide) (fun c_3 => ?_) (fun c_3 => ?_)
      · refine lv_iload_n hx hb dX3_place_37 rfl (lv_at hl 1 rfl) ?_
        refine lv_istore_n (lv' := [(3, .int (fk_oI x)), (4, .int (nI i)), (0, .ref (bd 0)), (1, .int (nI t)), (2, .int a)]) hx hb dX3_place_38 rfl hl (by decide) rfl (fun ls hl => ?_)
        refine lv_iinc (v := (nI (i + 1))) (lv' := [(4, .int (nI (i + 1))), (3, .int (fk_oI x)), (0, .ref (bd 0)), (1, .int (nI t)), (2, .int a)]) hx hb dX3_place_39 hl (k := 1) rfl (nI_1 i) (by decide) rfl (fun ls hl => ?_)
        refine lv_goto (tgt := 5) hx hb dX3_place_42 (by decide) ?_
        exact ih (i + 1) x (by omega) ((congrArg (fk_lp _ n (i + 1)) (show x = mm_pl1 S t a i x from by simp [mm_pl1, c_3])).trans hR) _ _ _ hP hD hS (lv_sub hl [0, 1, 2, 3, 4] rfl)
      · refine lv_iload hx hb dX3_place_32 (lv_at hl 0 rfl) ?_
        refine lv_goto (tgt := 38) hx hb dX3_place_34 (by decide) ?_
        refine lv_istore_n (lv' := [(3, .int (nI i)), (4, .int (nI i)), (0, .ref (bd 0)), (1, .int (nI t)), (2, .int a)]) hx hb dX3_place_38 rfl hl (by decide) rfl (fun ls hl => ?_)
        refine lv_iinc (v := (nI (i + 1))) (lv' := [(4, .int (nI (i + 1))), (3, .int (nI i)), (0, .ref (bd 0)), (1, .int (nI t)), (2, .int a)]) hx hb dX3_place_39 hl (k := 1) rfl (nI_1 i) (by decide) rfl (fun ls hl => ?_)
        refine lv_goto (tgt := 5) hx hb dX3_place_42 (by decide) ?_
        exact ih (i + 1) (some i) (by omega) ((congrArg (fk_lp _ n (i + 1)) (show (some i) = mm_pl1 S t a i x from by simp [mm_pl1, c_3])).trans hR) _ _ _ hP hD hS (lv_sub hl [0, 1, 2, 3, 4] rfl)
  exact loop k 0 none (by omega) (by rw [mm_pl_eq hd9 k 0 none (by omega) (by intro q h9; cases h9), fk_place, hs, nI_clamp (by omega)]) _ _ _ hP hD hS (lv_sub hl [0, 1, 2, 3, 4] rfl)

abbrev rmX3_gets : Room := { frames := 1, cells := 0, slots := 0, locals := 24 }
set_option maxHeartbeats 4000000 in
set_option maxRecDepth 100000 in
theorem mc_gets (l : Launch) (D : va_G) (bd : Nat → Nat) (cI cT cJ : ClassId) (X : va_W) (S : fk_S) (t : Nat) (a : Int32) (ht : t < 8) (hls : fk_ls S) (ha9 : vp_in a 16) : fk_C l D (fk_ty cI cT cJ) yX3_gets wsX3_gets rmX3_gets [.ref (bd 0), .int (nI t), .int a] (fk_mW bd cI S ++ X) none (fk_mW bd cI (kk_add S t a) ++ X) := by
  refine fk_C_of (cc := cX3_gets) (maxL := 3) (ret := none) (own := RX3) (by decide) rfl rfl (Nat.le_of_ble_eq_true rfl) ?_
  intro p e s m below meth c A ls hx hb hr hlocks hml hts hown hA hP hK hD hl
  have hS : va_S A s.heap s.heap [] := va_S.rf
  have hl : lv_has ls 3 [(0, .ref (bd 0)), (1, .int (nI t)), (2, .int a)] := hl
  have hiX3 : ∀ w ∈ u_ws RX3 TX3 17, w ∈ wsX3_gets := by decide +kernel
  obtain ⟨k, hk, hs, hv9, hd9⟩ := hls t ht
  refine lv_aload_n hx hb dX3_gets_0 rfl (lv_at hl 0 rfl) ?_
  refine lv_iload_n hx hb dX3_gets_1 rfl (lv_at hl 1 rfl) ?_
  refine lv_iload_n hx hb dX3_gets_2 rfl (lv_at hl 2 rfl) ?_
  refine fk_callV (As := [.int (nI t), .int a]) (rest := []) ⟨hx, hb, hml, hown, hts⟩ (mc_place l D bd cI cT cJ X S t a ht hls) (cwV 2 hts gX3_gets_X3_place rfl rfl rfl (by decide +kernel) ⟨Nat.le_of_ble_eq_true rfl, Nat.le_of_ble_eq_true rfl⟩) (fk_rvM hK hP) hK hP hD hS hA rfl hl.1 rfl (Nat.le_of_ble_eq_true rfl) dX3_gets_3 ⟨Nat.le_of_ble_eq_true rfl, Nat.le_of_ble_eq_true rfl⟩ (fun H locs hP hD hS => ?_)
  rcases o_1 : fk_place S t a with _ | u2
  · refine W.eq (g2 := F0 m 6 ls [.int (-1)]) (by first | rfl | (rw [o_1]; rfl)) ?_
    refine lv_iconst (v := (-1)) hx hb dX3_gets_6 (by decide) ?_
    refine lv_icmp_ne (tgt := 37) hx hb dX3_gets_7 (by decide) (fun c => absurd c (by decide)) (fun _ => ?_)
    have hk16 : k < 16 := fk_ls_room hk hs hv9 hd9 ha9 o_1
    refine lv_aload_n hx hb dX3_gets_10 rfl (lv_at hl 0 rfl) ?_
    refine fk_getM hx hb hts hiX3 hown hK hP 11 (by decide) (v := .ref (bd 12)) rfl (List.mem_of_getElem? (i := 1) rfl) rfl dX3_gets_11 ?_
    refine lv_bipush (v := 16) hx hb dX3_gets_14 (by decide) ?_
    refine lv_iload_n hx hb dX3_gets_16 rfl (lv_at hl 1 rfl) ?_
    refine lv_imul hx hb dX3_gets_17 ?_
    refine W.eq (g2 := F0 m 18 ls [.int (nI (16 * t)), .ref (bd 12)]) (by rw [show (16 : Int32) = nI 16 from rfl, pk_mul]) ?_
    refine lv_aload_n hx hb dX3_gets_18 rfl (lv_at hl 0 rfl) ?_
    refine fk_getM hx hb hts hiX3 hown hK hP 10 (by decide) (v := .ref (bd 11)) rfl (List.mem_of_getElem? (i := 2) rfl) rfl dX3_gets_19 ?_
    refine lv_iload_n hx hb dX3_gets_22 rfl (lv_at hl 1 rfl) ?_
    refine fk_ldN hx hb hK hP 10 10 8 rfl (by decide) rfl rfl (vp_in_nI (show t < 8 from (by omega)) (by decide)) dX3_gets_23 ?_
    refine W.eq (g2 := F0 m 24 ls [.int (S 10 t), .int (nI (16 * t)), .ref (bd 12)]) (by rw [nI_clamp (by omega)]) ?_
    refine W.eq (g2 := F0 m 24 ls [.int (nI k), .int (nI (16 * t)), .ref (bd 12)]) (by rw [hs]) ?_
    refine lv_iadd hx hb dX3_gets_24 ?_
    refine W.eq (g2 := F0 m 25 ls [.int (nI (16 * t + k)), .ref (bd 12)]) (by rw [nI_add]) ?_
    refine lv_iload_n hx hb dX3_gets_25 rfl (lv_at hl 2 rfl) ?_
    refine fk_stN hx hb hK hP hD hS 11 11 128 rfl (by decide) rfl rfl (vp_in_nI (show 16 * t + k < 128 from (by omega)) (by decide)) dX3_gets_26 (fun H locs hP hD hS => ?_)
    rw [show ((nI (16 * t + k))).toNatClampNeg = 16 * t + k from nI_clamp (n := (16 * t + k)) (by omega)] at hP hD
    refine lv_aload_n hx hb dX3_gets_27 rfl (lv_at hl 0 rfl) ?_
    refine fk_getM hx hb hts hiX3 hown hK hP 10 (by decide) (v := .ref (bd 11)) rfl (List.mem_of_getElem? (i := 2) rfl) rfl dX3_gets_28 ?_
    refine lv_iload_n hx hb dX3_gets_31 rfl (lv_at hl 1 rfl) ?_
    refine lv_dup2_11 hx hb dX3_gets_32 rfl rfl ?_
    refine fk_ldN hx hb hK hP 10 10 8 rfl (by decide) rfl rfl (vp_in_nI (show t < 8 from (by omega)) (by decide)) dX3_gets_33 ?_
    refine W.eq (g2 := F0 m 34 ls [.int (S 10 t), .int (nI t), .ref (bd 11)]) (by simp [fk_up, nI_clamp (n := t) (by omega)]) ?_
    refine W.eq (g2 := F0 m 34 ls [.int (nI k), .int (nI t), .ref (bd 11)]) (by rw [hs]) ?_
    refine lv_iconst (v := 1) hx hb dX3_gets_34 (by decide) ?_
    refine lv_iadd hx hb dX3_gets_35 ?_
    refine W.eq (g2 := F0 m 36 ls [.int (nI (k + 1)), .int (nI t), .ref (bd 11)]) (by rw [nI_1]) ?_
    refine fk_stN hx hb hK hP hD hS 10 10 8 rfl (by decide) rfl rfl (vp_in_nI (show t < 8 from (by omega)) (by decide)) dX3_gets_36 (fun H locs hP hD hS => ?_)
    rw [show ((nI t)).toNatClampNeg = t from nI_clamp (n := t) (by omega)] at hP hD
    exact fk_vret hx hb hr hlocks hP hK hD hS (congrArg (fun z => fk_mW bd cI z ++ X) (by rw [kk_add, if_pos ⟨o_1, by rw [hs]; exact nI_lt (b := 16) hk16 (by decide)⟩, hs, nI_clamp (by omega), nI_1])) (by rfl) dX3_gets_37
  · have hu_4 : u2 < k := fk_place_lt hk hs o_1
    refine W.eq (g2 := F0 m 6 ls [.int (nI u2)]) (by first | rfl | (rw [o_1]; rfl)) ?_
    refine lv_iconst (v := (-1)) hx hb dX3_gets_6 (by decide) ?_
    refine lv_icmp_ne (tgt := 37) hx hb dX3_gets_7 (by decide) (fun _ => ?_) (fun c => absurd c (fk_nI_m1 (by omega)))
    exact fk_vret hx hb hr hlocks hP hK hD hS (congrArg (fun z => fk_mW bd cI z ++ X) (by simp [kk_add, o_1])) (by rfl) dX3_gets_37

abbrev rmX3_drops : Room := { frames := 1, cells := 0, slots := 0, locals := 24 }
set_option maxHeartbeats 4000000 in
set_option maxRecDepth 100000 in
theorem mc_drops (l : Launch) (D : va_G) (bd : Nat → Nat) (cI cT cJ : ClassId) (X : va_W) (S : fk_S) (t : Nat) (a : Int32) (ht : t < 8) (hls : fk_ls S) : fk_C l D (fk_ty cI cT cJ) yX3_drops wsX3_drops rmX3_drops [.ref (bd 0), .int (nI t), .int a] (fk_mW bd cI S ++ X) none (fk_mW bd cI (kk_drop S t a) ++ X) := by
  refine fk_C_of (cc := cX3_drops) (maxL := 4) (ret := none) (own := RX3) (by decide) rfl rfl (Nat.le_of_ble_eq_true rfl) ?_
  intro p e s m below meth c A ls hx hb hr hlocks hml hts hown hA hP hK hD hl
  have hS : va_S A s.heap s.heap [] := va_S.rf
  have hl : lv_has ls 4 [(0, .ref (bd 0)), (1, .int (nI t)), (2, .int a)] := hl
  have hiX3 : ∀ w ∈ u_ws RX3 TX3 17, w ∈ wsX3_drops := by decide +kernel
  obtain ⟨k, hk, hs, hv9, hd9⟩ := hls t ht
  refine lv_aload_n hx hb dX3_drops_0 rfl (lv_at hl 0 rfl) ?_
  refine lv_iload_n hx hb dX3_drops_1 rfl (lv_at hl 1 rfl) ?_
  refine lv_iload_n hx hb dX3_drops_2 rfl (lv_at hl 2 rfl) ?_
  refine fk_callV (As := [.int (nI t), .int a]) (rest := []) ⟨hx, hb, hml, hown, hts⟩ (mc_place l D bd cI cT cJ X S t a ht hls) (cwV 2 hts gX3_drops_X3_place rfl rfl rfl (by decide +kernel) ⟨Nat.le_of_ble_eq_true rfl, Nat.le_of_ble_eq_true rfl⟩) (fk_rvM hK hP) hK hP hD hS hA rfl hl.1 rfl (Nat.le_of_ble_eq_true rfl) dX3_drops_3 ⟨Nat.le_of_ble_eq_true rfl, Nat.le_of_ble_eq_true rfl⟩ (fun H locs hP hD hS => ?_)
  rcases o_1 : fk_place S t a with _ | u2
  · refine W.eq (g2 := F0 m 6 ls [.int (-1)]) (by first | rfl | (rw [o_1]; rfl)) ?_
    refine lv_istore_n (lv' := [(3, .int (-1)), (0, .ref (bd 0)), (1, .int (nI t)), (2, .int a)]) hx hb dX3_drops_6 rfl hl (by decide) rfl (fun ls hl => ?_)
    refine lv_iload_n hx hb dX3_drops_7 rfl (lv_at hl 0 rfl) ?_
    refine lv_iconst (v := (-1)) hx hb dX3_drops_8 (by decide) ?_
    refine lv_icmp_ne (tgt := 13) hx hb dX3_drops_9 (by decide) (fun c => absurd c (by decide)) (fun _ => ?_)
    exact fk_vret hx hb hr hlocks hP hK hD hS (congrArg (fun z => fk_mW bd cI z ++ X) (by first | rfl | simp [kk_drop, o_1])) (by rfl) dX3_drops_12
  · have hu_4 : u2 < k := fk_place_lt hk hs o_1
    refine W.eq (g2 := F0 m 6 ls [.int (nI u2)]) (by first | rfl | (rw [o_1]; rfl)) ?_
    refine lv_istore_n (lv' := [(3, .int (nI u2)), (0, .ref (bd 0)), (1, .int (nI t)), (2, .int a)]) hx hb dX3_drops_6 rfl hl (by decide) rfl (fun ls hl => ?_)
    refine lv_iload_n hx hb dX3_drops_7 rfl (lv_at hl 0 rfl) ?_
    refine lv_iconst (v := (-1)) hx hb dX3_drops_8 (by decide) ?_
    refine lv_icmp_ne (tgt := 13) hx hb dX3_drops_9 (by decide) (fun _ => ?_) (fun c => absurd c (fk_nI_m1 (by omega)))
    obtain ⟨q, rfl⟩ : ∃ q, k = q + 1 := ⟨k - 1, by omega⟩
    refine lv_aload_n hx hb dX3_drops_13 rfl (lv_at hl 1 rfl) ?_
    refine fk_getM hx hb hts hiX3 hown hK hP 10 (by decide) (v := .ref (bd 11)) rfl (List.mem_of_getElem? (i := 1) rfl) rfl dX3_drops_14 ?_
    refine lv_iload_n hx hb dX3_drops_17 rfl (lv_at hl 2 rfl) ?_
    refine lv_dup2_11 hx hb dX3_drops_18 rfl rfl ?_
    refine fk_ldN hx hb hK hP 10 10 8 rfl (by decide) rfl rfl (vp_in_nI (show t < 8 from (by omega)) (by decide)) dX3_drops_19 ?_
    refine W.eq (g2 := F0 m 20 ls [.int (S 10 t), .int (nI t), .ref (bd 11)]) (by rw [nI_clamp (by omega)]) ?_
    refine W.eq (g2 := F0 m 20 ls [.int (nI (q + 1)), .int (nI t), .ref (bd 11)]) (by rw [hs]) ?_
    refine lv_iconst (v := 1) hx hb dX3_drops_20 (by decide) ?_
    refine lv_isub hx hb dX3_drops_21 ?_
    refine W.eq (g2 := F0 m 22 ls [.int (nI q), .int (nI t), .ref (bd 11)]) (by rw [nI_pred]) ?_
    refine fk_stN hx hb hK hP hD hS 10 10 8 rfl (by decide) rfl rfl (vp_in_nI (show t < 8 from (by omega)) (by decide)) dX3_drops_22 (fun H locs hP hD hS => ?_)
    rw [show ((nI t)).toNatClampNeg = t from nI_clamp (n := t) (by omega)] at hP hD
    have loop : ∀ (n : Nat) (i : Nat) (S1 : fk_S), i + n = q → S1 10 t = nI q → fk_shift t n i S1 = fk_shift t (q - u2) u2 (fk_up S 10 t (nI q)) → ∀ (H : Heap) (locs : List Loc) (ls : Array Slot), va_P D vwCl (fk_mW bd cI S1 ++ X) H → va_D A (fk_mW bd cI S1 ++ X) → va_S A s.heap H locs → lv_has ls 4 [(3, .int (nI i)), (0, .ref (bd 0)), (1, .int (nI t)), (2, .int a)] → W p l e rmX3_drops s m ([.ref (bd 0), .int (nI t), .int a] : List Value).toArray below meth c H locs 0 0 (fk_Q below D (fk_ty cI cT cJ) [.ref (bd 0), .int (nI t), .int a] s A (fk_mW bd cI (kk_drop S t a) ++ X) none) (F0 m 23 ls []) := by
      intro n
      induction n with
      | zero =>
        intro i S1 hi hs1 hR H locs ls hP hD hS hl
        refine lv_iload_n hx hb dX3_drops_23 rfl (lv_at hl 0 rfl) ?_
        refine lv_aload_n hx hb dX3_drops_24 rfl (lv_at hl 1 rfl) ?_
        refine fk_getM hx hb hts hiX3 hown hK hP 10 (by decide) (v := .ref (bd 11)) rfl (List.mem_of_getElem? (i := 1) rfl) rfl dX3_drops_25 ?_
        refine lv_iload_n hx hb dX3_drops_28 rfl (lv_at hl 2 rfl) ?_
        refine fk_ldN hx hb hK hP 10 10 8 rfl (by decide) rfl rfl (vp_in_nI (show t < 8 from (by omega)) (by decide)) dX3_drops_29 ?_
        refine W.eq (g2 := F0 m 30 ls [.int (S1 10 t), .int (nI i)]) (by rw [nI_clamp (by omega)]) ?_
        refine W.eq (g2 := F0 m 30 ls [.int (nI q), .int (nI i)]) (by rw [hs1]) ?_
        refine lv_icmp_ge (tgt := 63) hx hb dX3_drops_30 (by decide) (fun c_5 => ?_) (fun c_5 => absurd (nI_le (a := q) (b := i) (by omega) (by omega)) c_5)
        exact fk_vret hx hb hr hlocks hP hK hD hS (congrArg (fun z => fk_mW bd cI z ++ X) (by simp only [kk_drop, o_1, hs, nI_clamp (n := q + 1) (show q + 1 < 2 ^ 31 by omega), nI_pred]; rw [← fk_shift_up10, show q + 1 - (u2 + 1) = q - u2 from by omega]; exact hR)) (by rfl) dX3_drops_63
      | succ n ih =>
        intro i S1 hi hs1 hR H locs ls hP hD hS hl
        refine lv_iload_n hx hb dX3_drops_23 rfl (lv_at hl 0 rfl) ?_
        refine lv_aload_n hx hb dX3_drops_24 rfl (lv_at hl 1 rfl) ?_
        refine fk_getM hx hb hts hiX3 hown hK hP 10 (by decide) (v := .ref (bd 11)) rfl (List.mem_of_getElem? (i := 1) rfl) rfl dX3_drops_25 ?_
        refine lv_iload_n hx hb dX3_drops_28 rfl (lv_at hl 2 rfl) ?_
        refine fk_ldN hx hb hK hP 10 10 8 rfl (by decide) rfl rfl (vp_in_nI (show t < 8 from (by omega)) (by decide)) dX3_drops_29 ?_
        refine W.eq (g2 := F0 m 30 ls [.int (S1 10 t), .int (nI i)]) (by rw [nI_clamp (by omega)]) ?_
        refine W.eq (g2 := F0 m 30 ls [.int (nI q), .int (nI i)]) (by rw [hs1]) ?_
        refine lv_icmp_ge (tgt := 63) hx hb dX3_drops_30 (by decide) (fun c_6 => absurd c_6 (nI_ge (a := i) (b := q) (by omega) (by omega))) (fun c_6 => ?_)
        refine lv_aload_n hx hb dX3_drops_33 rfl (lv_at hl 1 rfl) ?_
        refine fk_getM hx hb hts hiX3 hown hK hP 11 (by decide) (v := .ref (bd 12)) rfl (List.mem_of_getElem? (i := 2) rfl) rfl dX3_drops_34 ?_
        refine lv_bipush (v := 16) hx hb dX3_drops_37 (by decide) ?_
        refine lv_iload_n hx hb dX3_drops_39 rfl (lv_at hl 2 rfl) ?_
        refine lv_imul hx hb dX3_drops_40 ?_
        refine W.eq (g2 := F0 m 41 ls [.int (nI (16 * t)), .ref (bd 12)]) (by rw [show (16 : Int32) = nI 16 from rfl, pk_mul]) ?_
        refine lv_iload_n hx hb dX3_drops_41 rfl (lv_at hl 0 rfl) ?_
        refine lv_iadd hx hb dX3_drops_42 ?_
        refine W.eq (g2 := F0 m 43 ls [.int (nI (16 * t + i)), .ref (bd 12)]) (by rw [nI_add]) ?_
        refine lv_aload_n hx hb dX3_drops_43 rfl (lv_at hl 1 rfl) ?_
        refine fk_getM hx hb hts hiX3 hown hK hP 11 (by decide) (v := .ref (bd 12)) rfl (List.mem_of_getElem? (i := 2) rfl) rfl dX3_drops_44 ?_
        refine lv_bipush (v := 16) hx hb dX3_drops_47 (by decide) ?_
        refine lv_iload_n hx hb dX3_drops_49 rfl (lv_at hl 2 rfl) ?_
        refine lv_imul hx hb dX3_drops_50 ?_
        refine W.eq (g2 := F0 m 51 ls [.int (nI (16 * t)), .ref (bd 12), .int (nI (16 * t + i)), .ref (bd 12)]) (by rw [show (16 : Int32) = nI 16 from rfl, pk_mul]) ?_
        refine lv_iload_n hx hb dX3_drops_51 rfl (lv_at hl 0 rfl) ?_
        refine lv_iadd hx hb dX3_drops_52 ?_
        refine W.eq (g2 := F0 m 53 ls [.int (nI (16 * t + i)), .ref (bd 12), .int (nI (16 * t + i)), .ref (bd 12)]) (by rw [nI_add]) ?_
        refine lv_iconst (v := 1) hx hb dX3_drops_53 (by decide) ?_
        refine lv_iadd hx hb dX3_drops_54 ?_
        refine W.eq (g2 := F0 m 55 ls [.int (nI (16 * t + i + 1)), .ref (bd 12), .int (nI (16 * t + i)), .ref (bd 12)]) (by rw [nI_1]) ?_
        refine fk_ldN hx hb hK hP 11 11 128 rfl (by decide) rfl rfl (vp_in_nI (show 16 * t + i + 1 < 128 from (by omega)) (by decide)) dX3_drops_55 ?_
        refine W.eq (g2 := F0 m 56 ls [.int (S1 11 (16 * t + i + 1)), .int (nI (16 * t + i)), .ref (bd 12)]) (by rw [nI_clamp (by omega)]) ?_
        refine fk_stN hx hb hK hP hD hS 11 11 128 rfl (by decide) rfl rfl (vp_in_nI (show 16 * t + i < 128 from (by omega)) (by decide)) dX3_drops_56 (fun H locs hP hD hS => ?_)
        rw [show ((nI (16 * t + i))).toNatClampNeg = 16 * t + i from nI_clamp (n := (16 * t + i)) (by omega)] at hP hD
        refine lv_iinc (v := (nI (i + 1))) (lv' := [(3, .int (nI (i + 1))), (0, .ref (bd 0)), (1, .int (nI t)), (2, .int a)]) hx hb dX3_drops_57 hl (k := 0) rfl (nI_1 i) (by decide) rfl (fun ls hl => ?_)
        refine lv_goto (tgt := 23) hx hb dX3_drops_60 (by decide) ?_
        exact ih (i + 1) (fk_up S1 11 (16 * t + i) (S1 11 (16 * t + i + 1))) (by omega) (by simp [fk_up]; exact hs1) hR _ _ _ hP hD hS (lv_sub hl [0, 1, 2, 3] rfl)
    exact loop (q - u2) u2 (fk_up S 10 t (nI q)) (by omega) (by simp [fk_up]) rfl _ _ _ hP hD hS (lv_sub hl [0, 1, 2, 3] rfl)

abbrev rmX3_passes : Room := { frames := 5, cells := 0, slots := 0, locals := 113 }
set_option maxHeartbeats 4000000 in
set_option maxRecDepth 100000 in
theorem mc_passes (l : Launch) (D : va_G) (bd : Nat → Nat) (cI cT cJ : ClassId) (X : va_W) (S : fk_S) (a : Int32) (b : Bool) (hls : fk_ls S) (ha9 : vp_in a 16) : fk_C l D (fk_ty cI cT cJ) yX3_passes wsX3_passes rmX3_passes [.ref (bd 0), .int a, .int (fk_b b)] (fk_mW bd cI S ++ X) (some (.int (fk_oI (mm_lk S a)))) (fk_mW bd cI (mm_pass S a b) ++ X) := by
  refine fk_C_of (cc := cX3_passes) (maxL := 5) (ret := (some .int)) (own := RX3) (by decide) rfl rfl (Nat.le_of_ble_eq_true rfl) ?_
  intro p e s m below meth c A ls hx hb hr hlocks hml hts hown hA hP hK hD hl
  have hS : va_S A s.heap s.heap [] := va_S.rf
  have hl : lv_has ls 5 [(0, .ref (bd 0)), (1, .int a), (2, .int (fk_b b))] := hl
  have hiX3 : ∀ w ∈ u_ws RX3 TX3 17, w ∈ wsX3_passes := by decide +kernel
  cases b with
  | true =>
    have hl : lv_has ls 5 [(0, .ref (bd 0)), (1, .int a), (2, .int 1)] := hl
    refine lv_iload_n hx hb dX3_passes_0 rfl (lv_at hl 2 rfl) ?_
    refine lv_if_eq (tgt := 9) hx hb dX3_passes_1 (by decide) (fun c => absurd c (by decide)) (fun _ => ?_)
    refine lv_ldc (own := RX3) (v := 1073741824) hx hb hown (hts (.constant RX3 120 (1073741824)) (List.mem_of_getElem? (i := 1) rfl)) dX3_passes_4 ?_
    refine lv_goto (tgt := 10) hx hb dX3_passes_6 (by decide) ?_
    refine lv_istore_n (lv' := [(3, .int 1073741824), (0, .ref (bd 0)), (1, .int a), (2, .int 1)]) hx hb dX3_passes_10 rfl hl (by decide) rfl (fun ls hl => ?_)
    refine lv_aload_n hx hb dX3_passes_11 rfl (lv_at hl 1 rfl) ?_
    refine lv_iload_n hx hb dX3_passes_12 rfl (lv_at hl 2 rfl) ?_
    refine lv_iconst (v := 2) hx hb dX3_passes_13 (by decide) ?_
    refine lv_sipush (v := 255) hx hb dX3_passes_14 (by decide) ?_
    refine fk_callV (As := [.int a, .int 2, .int 255]) (rest := []) ⟨hx, hb, hml, hown, hts⟩ (mc_first l D bd cI cT cJ X S a 2 255) (cwV 3 hts gX3_passes_X3_first rfl rfl rfl (by decide +kernel) ⟨Nat.le_of_ble_eq_true rfl, Nat.le_of_ble_eq_true rfl⟩) (fk_rvM hK hP) hK hP hD hS hA rfl hl.1 rfl (Nat.le_of_ble_eq_true rfl) dX3_passes_17 ⟨Nat.le_of_ble_eq_true rfl, Nat.le_of_ble_eq_true rfl⟩ (fun H locs hP hD hS => ?_)
    rcases o_2 : mm_first S a 2 255 with _ | u3
    · refine W.eq (g2 := F0 m 20 ls [.int (-1)]) (by first | rfl | (rw [o_2]; rfl)) ?_
      refine lv_istore (lv' := [(4, .int (-1)), (3, .int 1073741824), (0, .ref (bd 0)), (1, .int a), (2, .int 1)]) hx hb dX3_passes_20 hl (by decide) rfl (fun ls hl => ?_)
      refine lv_iload hx hb dX3_passes_22 (lv_at hl 0 rfl) ?_
      refine lv_iconst (v := (-1)) hx hb dX3_passes_24 (by decide) ?_
      refine lv_icmp_ne (tgt := 37) hx hb dX3_passes_25 (by decide) (fun c => absurd c (by decide)) (fun _ => ?_)
      refine lv_aload_n hx hb dX3_passes_28 rfl (lv_at hl 2 rfl) ?_
      refine fk_getM hx hb hts hiX3 hown hK hP 0 (by decide) (v := .ref (bd 1)) rfl (List.mem_of_getElem? (i := 2) rfl) rfl dX3_passes_29 ?_
      refine lv_iload_n hx hb dX3_passes_32 rfl (lv_at hl 3 rfl) ?_
      refine lv_iload_n hx hb dX3_passes_33 rfl (lv_at hl 1 rfl) ?_
      refine fk_stN hx hb hK hP hD hS 0 0 16 rfl (by decide) rfl rfl ha9 dX3_passes_34 (fun H locs hP hD hS => ?_)
      refine lv_iconst (v := (-1)) hx hb dX3_passes_35 (by decide) ?_
      exact fk_iret hx hb hr hlocks hP hK hD hS (congrArg (fun z => fk_mW bd cI z ++ X) (by have e9 : mm_lk S a = _ := o_2; simp [mm_pass, kk_died, e9])) (by have e9 : mm_lk S a = _ := o_2; rw [e9]; rfl) dX3_passes_36
    · have hu_5 : u3 < 8 := mm_first_lt o_2
      refine W.eq (g2 := F0 m 20 ls [.int (nI u3)]) (by first | rfl | (rw [o_2]; rfl)) ?_
      refine lv_istore (lv' := [(4, .int (nI u3)), (3, .int 1073741824), (0, .ref (bd 0)), (1, .int a), (2, .int 1)]) hx hb dX3_passes_20 hl (by decide) rfl (fun ls hl => ?_)
      refine lv_iload hx hb dX3_passes_22 (lv_at hl 0 rfl) ?_
      refine lv_iconst (v := (-1)) hx hb dX3_passes_24 (by decide) ?_
      refine lv_icmp_ne (tgt := 37) hx hb dX3_passes_25 (by decide) (fun _ => ?_) (fun c => absurd c (fk_nI_m1 (by omega)))
      refine lv_aload_n hx hb dX3_passes_37 rfl (lv_at hl 2 rfl) ?_
      refine lv_iload hx hb dX3_passes_38 (lv_at hl 0 rfl) ?_
      refine lv_iload_n hx hb dX3_passes_40 rfl (lv_at hl 4 rfl) ?_
      refine lv_if_eq (tgt := 48) hx hb dX3_passes_41 (by decide) (fun c => absurd c (by decide)) (fun _ => ?_)
      refine lv_iconst (v := 4) hx hb dX3_passes_44 (by decide) ?_
      refine lv_goto (tgt := 49) hx hb dX3_passes_45 (by decide) ?_
      refine fk_callV (As := [.int (nI u3), .int 4]) (rest := []) ⟨hx, hb, hml, hown, hts⟩ (mc_ends l D bd cI cT cJ X S u3 4 hu_5 (fun _ => by rw [(mm_first_spec o_2).2]; exact ha9)) (cwV 2 hts gX3_passes_X3_ends rfl rfl rfl (by decide +kernel) ⟨Nat.le_of_ble_eq_true rfl, Nat.le_of_ble_eq_true rfl⟩) (fk_rvM hK hP) hK hP hD hS hA rfl hl.1 rfl (Nat.le_of_ble_eq_true rfl) dX3_passes_49 ⟨Nat.le_of_ble_eq_true rfl, Nat.le_of_ble_eq_true rfl⟩ (fun H locs hP hD hS => ?_)
      refine W.eq (g2 := F0 m 52 ls []) rfl ?_
      refine lv_aload_n hx hb dX3_passes_52 rfl (lv_at hl 2 rfl) ?_
      refine fk_getM hx hb hts hiX3 hown hK hP 0 (by decide) (v := .ref (bd 1)) rfl (List.mem_of_getElem? (i := 2) rfl) rfl dX3_passes_53 ?_
      refine lv_iload_n hx hb dX3_passes_56 rfl (lv_at hl 3 rfl) ?_
      refine lv_iload hx hb dX3_passes_57 (lv_at hl 0 rfl) ?_
      refine lv_iconst (v := 1) hx hb dX3_passes_59 (by decide) ?_
      refine lv_iadd hx hb dX3_passes_60 ?_
      refine W.eq (g2 := F0 m 61 ls [.int (nI (u3 + 1)), .int a, .ref (bd 1)]) (by rw [nI_1]) ?_
      refine lv_iload_n hx hb dX3_passes_61 rfl (lv_at hl 1 rfl) ?_
      refine lv_ior hx hb dX3_passes_62 ?_
      refine lv_aload_n hx hb dX3_passes_63 rfl (lv_at hl 2 rfl) ?_
      refine lv_iload_n hx hb dX3_passes_64 rfl (lv_at hl 3 rfl) ?_
      refine fk_callV (As := [.int a]) (rest := [.int ((nI (u3 + 1)) ||| 1073741824), .int a, .ref (bd 1)]) ⟨hx, hb, hml, hown, hts⟩ (mc_isSomebodyLocking l D bd cI cT cJ X (mm_end S u3 4) a) (cwV 1 hts gX3_passes_X3_isSomebodyLocking rfl rfl rfl (by decide +kernel) ⟨Nat.le_of_ble_eq_true rfl, Nat.le_of_ble_eq_true rfl⟩) (fk_rvM hK hP) hK hP hD hS hA rfl hl.1 rfl (Nat.le_of_ble_eq_true rfl) dX3_passes_65 ⟨Nat.le_of_ble_eq_true rfl, Nat.le_of_ble_eq_true rfl⟩ (fun H locs hP hD hS => ?_)
      rcases o_7 : mm_lk (mm_end S u3 4) a with _ | u8
      · refine W.eq (g2 := F0 m 68 ls [.int 0, .int ((nI (u3 + 1)) ||| 1073741824), .int a, .ref (bd 1)]) (by first | rfl | (rw [o_7]; rfl)) ?_
        refine lv_if_eq (tgt := 76) hx hb dX3_passes_68 (by decide) (fun _ => ?_) (fun c => absurd c (by decide))
        refine lv_iconst (v := 0) hx hb dX3_passes_76 (by decide) ?_
        refine lv_ior hx hb dX3_passes_77 ?_
        refine fk_stN hx hb hK hP hD hS 0 0 16 rfl (by decide) rfl rfl ha9 dX3_passes_78 (fun H locs hP hD hS => ?_)
        refine lv_aload_n hx hb dX3_passes_79 rfl (lv_at hl 2 rfl) ?_
        refine lv_iload hx hb dX3_passes_80 (lv_at hl 0 rfl) ?_
        refine lv_iload_n hx hb dX3_passes_82 rfl (lv_at hl 3 rfl) ?_
        refine fk_callV (As := [.int (nI u3), .int a]) (rest := []) ⟨hx, hb, hml, hown, hts⟩ (mc_gets l D bd cI cT cJ X (fk_up (mm_end S u3 4) 0 a.toNatClampNeg (((nI (u3 + 1)) ||| 1073741824) ||| 0)) u3 a hu_5 (fk_ls_of (by rw [fk_up_f (by decide), mm_end_10]) (by rw [fk_up_f (by decide), mm_end_11]) hls) ha9) (cwV 2 hts gX3_passes_X3_gets rfl rfl rfl (by decide +kernel) ⟨Nat.le_of_ble_eq_true rfl, Nat.le_of_ble_eq_true rfl⟩) (fk_rvM hK hP) hK hP hD hS hA rfl hl.1 rfl (Nat.le_of_ble_eq_true rfl) dX3_passes_83 ⟨Nat.le_of_ble_eq_true rfl, Nat.le_of_ble_eq_true rfl⟩ (fun H locs hP hD hS => ?_)
        refine W.eq (g2 := F0 m 86 ls []) rfl ?_
        refine lv_iload hx hb dX3_passes_86 (lv_at hl 0 rfl) ?_
        exact fk_iret hx hb hr hlocks hP hK hD hS (congrArg (fun z => fk_mW bd cI z ++ X) (by have e9 : mm_lk S a = _ := o_2; simp [mm_pass, kk_died, mm_word, e9, o_7])) (by have e9 : mm_lk S a = _ := o_2; rw [e9]; rfl) dX3_passes_88
      · refine W.eq (g2 := F0 m 68 ls [.int 1, .int ((nI (u3 + 1)) ||| 1073741824), .int a, .ref (bd 1)]) (by first | rfl | (rw [o_7]; rfl)) ?_
        refine lv_if_eq (tgt := 76) hx hb dX3_passes_68 (by decide) (fun c => absurd c (by decide)) (fun _ => ?_)
        refine lv_ldc (own := RX3) (v := (-2147483648)) hx hb hown (hts (.constant RX3 121 (-2147483648)) (List.mem_of_getElem? (i := 3) rfl)) dX3_passes_71 ?_
        refine lv_goto (tgt := 77) hx hb dX3_passes_73 (by decide) ?_
        refine lv_ior hx hb dX3_passes_77 ?_
        refine fk_stN hx hb hK hP hD hS 0 0 16 rfl (by decide) rfl rfl ha9 dX3_passes_78 (fun H locs hP hD hS => ?_)
        refine lv_aload_n hx hb dX3_passes_79 rfl (lv_at hl 2 rfl) ?_
        refine lv_iload hx hb dX3_passes_80 (lv_at hl 0 rfl) ?_
        refine lv_iload_n hx hb dX3_passes_82 rfl (lv_at hl 3 rfl) ?_
        refine fk_callV (As := [.int (nI u3), .int a]) (rest := []) ⟨hx, hb, hml, hown, hts⟩ (mc_gets l D bd cI cT cJ X (fk_up (mm_end S u3 4) 0 a.toNatClampNeg (((nI (u3 + 1)) ||| 1073741824) ||| (-2147483648))) u3 a hu_5 (fk_ls_of (by rw [fk_up_f (by decide), mm_end_10]) (by rw [fk_up_f (by decide), mm_end_11]) hls) ha9) (cwV 2 hts gX3_passes_X3_gets rfl rfl rfl (by decide +kernel) ⟨Nat.le_of_ble_eq_true rfl, Nat.le_of_ble_eq_true rfl⟩) (fk_rvM hK hP) hK hP hD hS hA rfl hl.1 rfl (Nat.le_of_ble_eq_true rfl) dX3_passes_83 ⟨Nat.le_of_ble_eq_true rfl, Nat.le_of_ble_eq_true rfl⟩ (fun H locs hP hD hS => ?_)
        refine W.eq (g2 := F0 m 86 ls []) rfl ?_
        refine lv_iload hx hb dX3_passes_86 (lv_at hl 0 rfl) ?_
        exact fk_iret hx hb hr hlocks hP hK hD hS (congrArg (fun z => fk_mW bd cI z ++ X) (by have e9 : mm_lk S a = _ := o_2; simp [mm_pass, kk_died, mm_word, e9, o_7])) (by have e9 : mm_lk S a = _ := o_2; rw [e9]; rfl) dX3_passes_88
  | false =>
    have hl : lv_has ls 5 [(0, .ref (bd 0)), (1, .int a), (2, .int 0)] := hl
    refine lv_iload_n hx hb dX3_passes_0 rfl (lv_at hl 2 rfl) ?_
    refine lv_if_eq (tgt := 9) hx hb dX3_passes_1 (by decide) (fun _ => ?_) (fun c => absurd c (by decide))
    refine lv_iconst (v := 0) hx hb dX3_passes_9 (by decide) ?_
    refine lv_istore_n (lv' := [(3, .int 0), (0, .ref (bd 0)), (1, .int a), (2, .int 0)]) hx hb dX3_passes_10 rfl hl (by decide) rfl (fun ls hl => ?_)
    refine lv_aload_n hx hb dX3_passes_11 rfl (lv_at hl 1 rfl) ?_
    refine lv_iload_n hx hb dX3_passes_12 rfl (lv_at hl 2 rfl) ?_
    refine lv_iconst (v := 2) hx hb dX3_passes_13 (by decide) ?_
    refine lv_sipush (v := 255) hx hb dX3_passes_14 (by decide) ?_
    refine fk_callV (As := [.int a, .int 2, .int 255]) (rest := []) ⟨hx, hb, hml, hown, hts⟩ (mc_first l D bd cI cT cJ X S a 2 255) (cwV 3 hts gX3_passes_X3_first rfl rfl rfl (by decide +kernel) ⟨Nat.le_of_ble_eq_true rfl, Nat.le_of_ble_eq_true rfl⟩) (fk_rvM hK hP) hK hP hD hS hA rfl hl.1 rfl (Nat.le_of_ble_eq_true rfl) dX3_passes_17 ⟨Nat.le_of_ble_eq_true rfl, Nat.le_of_ble_eq_true rfl⟩ (fun H locs hP hD hS => ?_)
    rcases o_12 : mm_first S a 2 255 with _ | u13
    · refine W.eq (g2 := F0 m 20 ls [.int (-1)]) (by first | rfl | (rw [o_12]; rfl)) ?_
      refine lv_istore (lv' := [(4, .int (-1)), (3, .int 0), (0, .ref (bd 0)), (1, .int a), (2, .int 0)]) hx hb dX3_passes_20 hl (by decide) rfl (fun ls hl => ?_)
      refine lv_iload hx hb dX3_passes_22 (lv_at hl 0 rfl) ?_
      refine lv_iconst (v := (-1)) hx hb dX3_passes_24 (by decide) ?_
      refine lv_icmp_ne (tgt := 37) hx hb dX3_passes_25 (by decide) (fun c => absurd c (by decide)) (fun _ => ?_)
      refine lv_aload_n hx hb dX3_passes_28 rfl (lv_at hl 2 rfl) ?_
      refine fk_getM hx hb hts hiX3 hown hK hP 0 (by decide) (v := .ref (bd 1)) rfl (List.mem_of_getElem? (i := 2) rfl) rfl dX3_passes_29 ?_
      refine lv_iload_n hx hb dX3_passes_32 rfl (lv_at hl 3 rfl) ?_
      refine lv_iload_n hx hb dX3_passes_33 rfl (lv_at hl 1 rfl) ?_
      refine fk_stN hx hb hK hP hD hS 0 0 16 rfl (by decide) rfl rfl ha9 dX3_passes_34 (fun H locs hP hD hS => ?_)
      refine lv_iconst (v := (-1)) hx hb dX3_passes_35 (by decide) ?_
      exact fk_iret hx hb hr hlocks hP hK hD hS (congrArg (fun z => fk_mW bd cI z ++ X) (by have e9 : mm_lk S a = _ := o_12; simp [mm_pass, kk_died, e9])) (by have e9 : mm_lk S a = _ := o_12; rw [e9]; rfl) dX3_passes_36
    · have hu_15 : u13 < 8 := mm_first_lt o_12
      refine W.eq (g2 := F0 m 20 ls [.int (nI u13)]) (by first | rfl | (rw [o_12]; rfl)) ?_
      refine lv_istore (lv' := [(4, .int (nI u13)), (3, .int 0), (0, .ref (bd 0)), (1, .int a), (2, .int 0)]) hx hb dX3_passes_20 hl (by decide) rfl (fun ls hl => ?_)
      refine lv_iload hx hb dX3_passes_22 (lv_at hl 0 rfl) ?_
      refine lv_iconst (v := (-1)) hx hb dX3_passes_24 (by decide) ?_
      refine lv_icmp_ne (tgt := 37) hx hb dX3_passes_25 (by decide) (fun _ => ?_) (fun c => absurd c (fk_nI_m1 (by omega)))
      refine lv_aload_n hx hb dX3_passes_37 rfl (lv_at hl 2 rfl) ?_
      refine lv_iload hx hb dX3_passes_38 (lv_at hl 0 rfl) ?_
      refine lv_iload_n hx hb dX3_passes_40 rfl (lv_at hl 4 rfl) ?_
      refine lv_if_eq (tgt := 48) hx hb dX3_passes_41 (by decide) (fun _ => ?_) (fun c => absurd c (by decide))
      refine lv_iconst (v := 3) hx hb dX3_passes_48 (by decide) ?_
      refine fk_callV (As := [.int (nI u13), .int 3]) (rest := []) ⟨hx, hb, hml, hown, hts⟩ (mc_ends l D bd cI cT cJ X S u13 3 hu_15 (fun _ => by rw [(mm_first_spec o_12).2]; exact ha9)) (cwV 2 hts gX3_passes_X3_ends rfl rfl rfl (by decide +kernel) ⟨Nat.le_of_ble_eq_true rfl, Nat.le_of_ble_eq_true rfl⟩) (fk_rvM hK hP) hK hP hD hS hA rfl hl.1 rfl (Nat.le_of_ble_eq_true rfl) dX3_passes_49 ⟨Nat.le_of_ble_eq_true rfl, Nat.le_of_ble_eq_true rfl⟩ (fun H locs hP hD hS => ?_)
      refine W.eq (g2 := F0 m 52 ls []) rfl ?_
      refine lv_aload_n hx hb dX3_passes_52 rfl (lv_at hl 2 rfl) ?_
      refine fk_getM hx hb hts hiX3 hown hK hP 0 (by decide) (v := .ref (bd 1)) rfl (List.mem_of_getElem? (i := 2) rfl) rfl dX3_passes_53 ?_
      refine lv_iload_n hx hb dX3_passes_56 rfl (lv_at hl 3 rfl) ?_
      refine lv_iload hx hb dX3_passes_57 (lv_at hl 0 rfl) ?_
      refine lv_iconst (v := 1) hx hb dX3_passes_59 (by decide) ?_
      refine lv_iadd hx hb dX3_passes_60 ?_
      refine W.eq (g2 := F0 m 61 ls [.int (nI (u13 + 1)), .int a, .ref (bd 1)]) (by rw [nI_1]) ?_
      refine lv_iload_n hx hb dX3_passes_61 rfl (lv_at hl 1 rfl) ?_
      refine lv_ior hx hb dX3_passes_62 ?_
      refine lv_aload_n hx hb dX3_passes_63 rfl (lv_at hl 2 rfl) ?_
      refine lv_iload_n hx hb dX3_passes_64 rfl (lv_at hl 3 rfl) ?_
      refine fk_callV (As := [.int a]) (rest := [.int ((nI (u13 + 1)) ||| 0), .int a, .ref (bd 1)]) ⟨hx, hb, hml, hown, hts⟩ (mc_isSomebodyLocking l D bd cI cT cJ X (mm_end S u13 3) a) (cwV 1 hts gX3_passes_X3_isSomebodyLocking rfl rfl rfl (by decide +kernel) ⟨Nat.le_of_ble_eq_true rfl, Nat.le_of_ble_eq_true rfl⟩) (fk_rvM hK hP) hK hP hD hS hA rfl hl.1 rfl (Nat.le_of_ble_eq_true rfl) dX3_passes_65 ⟨Nat.le_of_ble_eq_true rfl, Nat.le_of_ble_eq_true rfl⟩ (fun H locs hP hD hS => ?_)
      rcases o_17 : mm_lk (mm_end S u13 3) a with _ | u18
      · refine W.eq (g2 := F0 m 68 ls [.int 0, .int ((nI (u13 + 1)) ||| 0), .int a, .ref (bd 1)]) (by first | rfl | (rw [o_17]; rfl)) ?_
        refine lv_if_eq (tgt := 76) hx hb dX3_passes_68 (by decide) (fun _ => ?_) (fun c => absurd c (by decide))
        refine lv_iconst (v := 0) hx hb dX3_passes_76 (by decide) ?_
        refine lv_ior hx hb dX3_passes_77 ?_
        refine fk_stN hx hb hK hP hD hS 0 0 16 rfl (by decide) rfl rfl ha9 dX3_passes_78 (fun H locs hP hD hS => ?_)
        refine lv_aload_n hx hb dX3_passes_79 rfl (lv_at hl 2 rfl) ?_
        refine lv_iload hx hb dX3_passes_80 (lv_at hl 0 rfl) ?_
        refine lv_iload_n hx hb dX3_passes_82 rfl (lv_at hl 3 rfl) ?_
        refine fk_callV (As := [.int (nI u13), .int a]) (rest := []) ⟨hx, hb, hml, hown, hts⟩ (mc_gets l D bd cI cT cJ X (fk_up (mm_end S u13 3) 0 a.toNatClampNeg (((nI (u13 + 1)) ||| 0) ||| 0)) u13 a hu_15 (fk_ls_of (by rw [fk_up_f (by decide), mm_end_10]) (by rw [fk_up_f (by decide), mm_end_11]) hls) ha9) (cwV 2 hts gX3_passes_X3_gets rfl rfl rfl (by decide +kernel) ⟨Nat.le_of_ble_eq_true rfl, Nat.le_of_ble_eq_true rfl⟩) (fk_rvM hK hP) hK hP hD hS hA rfl hl.1 rfl (Nat.le_of_ble_eq_true rfl) dX3_passes_83 ⟨Nat.le_of_ble_eq_true rfl, Nat.le_of_ble_eq_true rfl⟩ (fun H locs hP hD hS => ?_)
        refine W.eq (g2 := F0 m 86 ls []) rfl ?_
        refine lv_iload hx hb dX3_passes_86 (lv_at hl 0 rfl) ?_
        exact fk_iret hx hb hr hlocks hP hK hD hS (congrArg (fun z => fk_mW bd cI z ++ X) (by have e9 : mm_lk S a = _ := o_12; simp [mm_pass, kk_died, mm_word, e9, o_17])) (by have e9 : mm_lk S a = _ := o_12; rw [e9]; rfl) dX3_passes_88
      · refine W.eq (g2 := F0 m 68 ls [.int 1, .int ((nI (u13 + 1)) ||| 0), .int a, .ref (bd 1)]) (by first | rfl | (rw [o_17]; rfl)) ?_
        refine lv_if_eq (tgt := 76) hx hb dX3_passes_68 (by decide) (fun c => absurd c (by decide)) (fun _ => ?_)
        refine lv_ldc (own := RX3) (v := (-2147483648)) hx hb hown (hts (.constant RX3 121 (-2147483648)) (List.mem_of_getElem? (i := 3) rfl)) dX3_passes_71 ?_
        refine lv_goto (tgt := 77) hx hb dX3_passes_73 (by decide) ?_
        refine lv_ior hx hb dX3_passes_77 ?_
        refine fk_stN hx hb hK hP hD hS 0 0 16 rfl (by decide) rfl rfl ha9 dX3_passes_78 (fun H locs hP hD hS => ?_)
        refine lv_aload_n hx hb dX3_passes_79 rfl (lv_at hl 2 rfl) ?_
        refine lv_iload hx hb dX3_passes_80 (lv_at hl 0 rfl) ?_
        refine lv_iload_n hx hb dX3_passes_82 rfl (lv_at hl 3 rfl) ?_
        refine fk_callV (As := [.int (nI u13), .int a]) (rest := []) ⟨hx, hb, hml, hown, hts⟩ (mc_gets l D bd cI cT cJ X (fk_up (mm_end S u13 3) 0 a.toNatClampNeg (((nI (u13 + 1)) ||| 0) ||| (-2147483648))) u13 a hu_15 (fk_ls_of (by rw [fk_up_f (by decide), mm_end_10]) (by rw [fk_up_f (by decide), mm_end_11]) hls) ha9) (cwV 2 hts gX3_passes_X3_gets rfl rfl rfl (by decide +kernel) ⟨Nat.le_of_ble_eq_true rfl, Nat.le_of_ble_eq_true rfl⟩) (fk_rvM hK hP) hK hP hD hS hA rfl hl.1 rfl (Nat.le_of_ble_eq_true rfl) dX3_passes_83 ⟨Nat.le_of_ble_eq_true rfl, Nat.le_of_ble_eq_true rfl⟩ (fun H locs hP hD hS => ?_)
        refine W.eq (g2 := F0 m 86 ls []) rfl ?_
        refine lv_iload hx hb dX3_passes_86 (lv_at hl 0 rfl) ?_
        exact fk_iret hx hb hr hlocks hP hK hD hS (congrArg (fun z => fk_mW bd cI z ++ X) (by have e9 : mm_lk S a = _ := o_12; simp [mm_pass, kk_died, mm_word, e9, o_17])) (by have e9 : mm_lk S a = _ := o_12; rw [e9]; rfl) dX3_passes_88
