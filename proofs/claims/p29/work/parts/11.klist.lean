abbrev rmX0_placeOf : Room := { frames := 0, cells := 0, slots := 0, locals := 0 }
set_option maxHeartbeats 4000000 in
set_option maxRecDepth 100000 in
theorem kc_placeOf (l : Launch) (D : va_G) (ad : Nat → Nat) (cI cT cJ : ClassId) (X : va_W) (S : fk_S) (t k : Nat) (a : Int32) (ht : t < 8) (hk : k ≤ 16) (hs : S 10 t = nI k) : fk_C l D (fk_ty cI cT cJ) yX0_placeOf wsX0_placeOf rmX0_placeOf [.ref (ad (11 + t)), .int a] (fk_kW ad cI cT S ++ X) (some (.int (fk_oI (fk_place S t a)))) (fk_kW ad cI cT S ++ X) := by
  refine fk_C_of (cc := cX0_placeOf) (maxL := 3) (ret := (some .int)) (own := RX0) (by decide) rfl rfl (Nat.le_of_ble_eq_true rfl) ?_
  intro p e s m below meth c A ls hx hb hr hlocks hml hts hown hA hP hK hD hl
  have hS : va_S A s.heap s.heap [] := va_S.rf
  have hl : lv_has ls 3 [(0, .ref (ad (11 + t))), (1, .int a)] := hl
  have hiX0 : ∀ w ∈ u_ws RX0 TX0 2, w ∈ wsX0_placeOf := by decide +kernel
  refine lv_iconst (v := 0) hx hb dX0_placeOf_0 (by decide) ?_
  refine lv_istore_n (lv' := [(2, .int 0), (0, .ref (ad (11 + t))), (1, .int a)]) hx hb dX0_placeOf_1 rfl hl (by decide) rfl (fun ls hl => ?_)
  have loop : ∀ (n : Nat) (i : Nat), i + n = k → fk_find S t a n i = fk_find S t a k 0 → ∀ (H : Heap) (locs : List Loc) (ls : Array Slot), va_P D vwCl (fk_kW ad cI cT S ++ X) H → va_D A (fk_kW ad cI cT S ++ X) → va_S A s.heap H locs → lv_has ls 3 [(2, .int (nI i)), (0, .ref (ad (11 + t))), (1, .int a)] → W p l e rmX0_placeOf s m ([.ref (ad (11 + t)), .int a] : List Value).toArray below meth c H locs 0 0 (fk_Q below D (fk_ty cI cT cJ) [.ref (ad (11 + t)), .int a] s A (fk_kW ad cI cT S ++ X) (some (.int (fk_oI (fk_place S t a))))) (F0 m 2 ls []) := by
    intro n
    induction n with
    | zero =>
      intro i hi hR H locs ls hP hD hS hl
      refine lv_iload_n hx hb dX0_placeOf_2 rfl (lv_at hl 0 rfl) ?_
      refine lv_aload_n hx hb dX0_placeOf_3 rfl (lv_at hl 1 rfl) ?_
      refine fk_getL hx hb hts hiX0 hown hK hP ht 1 (by decide) (v := .int (S 10 t)) rfl (List.mem_of_getElem? (i := 1) rfl) rfl dX0_placeOf_4 ?_
      refine lv_icmp_ge (tgt := 28) hx hb dX0_placeOf_7 (by decide) (fun c_1 => ?_) (fun c_1 => absurd (by rw [hs]; exact nI_le (a := k) (b := i) (by omega) (by omega)) c_1)
      refine lv_iconst (v := (-1)) hx hb dX0_placeOf_28 (by decide) ?_
      exact fk_iret hx hb hr hlocks hP hK hD hS (congrArg (fun z => fk_kW ad cI cT z ++ X) (by first | rfl | simp [c_1])) (by simp only [fk_place, hs, nI_clamp (n := k) (by omega), ← hR]; rfl) dX0_placeOf_29
    | succ n ih =>
      intro i hi hR H locs ls hP hD hS hl
      refine lv_iload_n hx hb dX0_placeOf_2 rfl (lv_at hl 0 rfl) ?_
      refine lv_aload_n hx hb dX0_placeOf_3 rfl (lv_at hl 1 rfl) ?_
      refine fk_getL hx hb hts hiX0 hown hK hP ht 1 (by decide) (v := .int (S 10 t)) rfl (List.mem_of_getElem? (i := 1) rfl) rfl dX0_placeOf_4 ?_
      refine lv_icmp_ge (tgt := 28) hx hb dX0_placeOf_7 (by decide) (fun c_2 => absurd c_2 (by rw [hs]; exact nI_ge (a := i) (b := k) (by omega) (by omega))) (fun c_2 => ?_)
      refine lv_aload_n hx hb dX0_placeOf_10 rfl (lv_at hl 1 rfl) ?_
      refine fk_getL hx hb hts hiX0 hown hK hP ht 0 (by decide) (v := .ref (ad (19 + t))) rfl (List.mem_of_getElem? (i := 2) rfl) rfl dX0_placeOf_11 ?_
      refine lv_iload_n hx hb dX0_placeOf_14 rfl (lv_at hl 0 rfl) ?_
      refine fk_ldR hx hb hK hP ht (vp_in_nI (show i < 16 from (show i < 16 by omega)) (by decide)) dX0_placeOf_15 ?_
      refine W.eq (g2 := F0 m 16 ls [.int (S 11 (16 * t + i))]) (by rw [nI_clamp (by omega)]) ?_
      refine lv_iload_n hx hb dX0_placeOf_16 rfl (lv_at hl 2 rfl) ?_
      refine lv_icmp_ne (tgt := 22) hx hb dX0_placeOf_17 (by decide) (fun c_3 => ?_) (fun c_3 => ?_)
      · refine lv_iinc (v := (nI (i + 1))) (lv' := [(2, .int (nI (i + 1))), (0, .ref (ad (11 + t))), (1, .int a)]) hx hb dX0_placeOf_22 hl (k := 0) rfl (nI_1 i) (by decide) rfl (fun ls hl => ?_)
        refine lv_goto (tgt := 2) hx hb dX0_placeOf_25 (by decide) ?_
        exact ih (i + 1) (by omega) (by rw [← hR]; simp [fk_find, c_3]) _ _ _ hP hD hS (lv_sub hl [0, 1, 2] rfl)
      · refine lv_iload_n hx hb dX0_placeOf_20 rfl (lv_at hl 0 rfl) ?_
        exact fk_iret hx hb hr hlocks hP hK hD hS (congrArg (fun z => fk_kW ad cI cT z ++ X) (by first | rfl | simp [c_2, c_3])) (by simp only [fk_place, hs, nI_clamp (n := k) (by omega), ← hR]; simp [fk_find, fk_oI, c_3]) dX0_placeOf_21
  exact loop k 0 (by omega) rfl _ _ _ hP hD hS (lv_sub hl [0, 1, 2] rfl)

abbrev rmX0_addressAt : Room := { frames := 0, cells := 0, slots := 0, locals := 0 }
set_option maxHeartbeats 4000000 in
set_option maxRecDepth 100000 in
theorem kc_addressAt (l : Launch) (D : va_G) (ad : Nat → Nat) (cI cT cJ : ClassId) (X : va_W) (S : fk_S) (t : Nat) (q : Int32) (ht : t < 8) (hsz : fk_sz S) : fk_C l D (fk_ty cI cT cJ) yX0_addressAt wsX0_addressAt rmX0_addressAt [.ref (ad (11 + t)), .int q] (fk_kW ad cI cT S ++ X) (some (.int (kk_addrAt S t q))) (fk_kW ad cI cT S ++ X) := by
  refine fk_C_of (cc := cX0_addressAt) (maxL := 2) (ret := (some .int)) (own := RX0) (by decide) rfl rfl (Nat.le_of_ble_eq_true rfl) ?_
  intro p e s m below meth c A ls hx hb hr hlocks hml hts hown hA hP hK hD hl
  have hS : va_S A s.heap s.heap [] := va_S.rf
  have hl : lv_has ls 2 [(0, .ref (ad (11 + t))), (1, .int q)] := hl
  have hiX0 : ∀ w ∈ u_ws RX0 TX0 2, w ∈ wsX0_addressAt := by decide +kernel
  obtain ⟨k, hk, hs⟩ := hsz t ht
  refine lv_iload_n hx hb dX0_addressAt_0 rfl (lv_at hl 1 rfl) ?_
  refine lv_if_lt (tgt := 21) hx hb dX0_addressAt_1 (by decide) (fun c_1 => ?_) (fun c_1 => ?_)
  · refine lv_iconst (v := (-1)) hx hb dX0_addressAt_21 (by decide) ?_
    exact fk_iret hx hb hr hlocks hP hK hD hS (congrArg (fun z => fk_kW ad cI cT z ++ X) (by first | rfl | simp [c_1, Int32.not_le.mpr c_1])) (by first | rfl | simp [kk_addrAt, c_1, Int32.not_le.mpr c_1]) dX0_addressAt_22
  · refine lv_iload_n hx hb dX0_addressAt_4 rfl (lv_at hl 1 rfl) ?_
    refine lv_aload_n hx hb dX0_addressAt_5 rfl (lv_at hl 0 rfl) ?_
    refine fk_getL hx hb hts hiX0 hown hK hP ht 1 (by decide) (v := .int (S 10 t)) rfl (List.mem_of_getElem? (i := 1) rfl) rfl dX0_addressAt_6 ?_
    refine lv_icmp_ge (tgt := 21) hx hb dX0_addressAt_9 (by decide) (fun c_2 => ?_) (fun c_2 => ?_)
    · refine lv_iconst (v := (-1)) hx hb dX0_addressAt_21 (by decide) ?_
      exact fk_iret hx hb hr hlocks hP hK hD hS (congrArg (fun z => fk_kW ad cI cT z ++ X) (by first | rfl | simp [c_1, Int32.not_lt.mp c_1, c_2, Int32.not_lt.mpr c_2])) (by first | rfl | simp [kk_addrAt, c_1, Int32.not_lt.mp c_1, c_2, Int32.not_lt.mpr c_2]) dX0_addressAt_22
    · refine lv_aload_n hx hb dX0_addressAt_12 rfl (lv_at hl 0 rfl) ?_
      refine fk_getL hx hb hts hiX0 hown hK hP ht 0 (by decide) (v := .ref (ad (19 + t))) rfl (List.mem_of_getElem? (i := 2) rfl) rfl dX0_addressAt_13 ?_
      refine lv_iload_n hx hb dX0_addressAt_16 rfl (lv_at hl 1 rfl) ?_
      refine fk_ldR hx hb hK hP ht (fk_in_of (n := 16) (by decide) (Int32.not_lt.mp c_1) (by have h9 := Int32.not_le.mp c_2; rw [hs] at h9; exact Int32.lt_of_lt_of_le h9 (nI_le (b := 16) hk (by decide)))) dX0_addressAt_17 ?_
      refine lv_goto (tgt := 22) hx hb dX0_addressAt_18 (by decide) ?_
      exact fk_iret hx hb hr hlocks hP hK hD hS (congrArg (fun z => fk_kW ad cI cT z ++ X) (by first | rfl | simp [c_1, Int32.not_lt.mp c_1, c_2, Int32.not_le.mp c_2])) (by first | rfl | simp [kk_addrAt, c_1, Int32.not_lt.mp c_1, c_2, Int32.not_le.mp c_2]) dX0_addressAt_22

abbrev rmX0_add : Room := { frames := 1, cells := 0, slots := 0, locals := 22 }
set_option maxHeartbeats 4000000 in
set_option maxRecDepth 100000 in
theorem kc_add (l : Launch) (D : va_G) (ad : Nat → Nat) (cI cT cJ : ClassId) (X : va_W) (S : fk_S) (t : Nat) (a : Int32) (ht : t < 8) (hsz : fk_sz S) : fk_C l D (fk_ty cI cT cJ) yX0_add wsX0_add rmX0_add [.ref (ad (11 + t)), .int a] (fk_kW ad cI cT S ++ X) none (fk_kW ad cI cT (kk_add S t a) ++ X) := by
  refine fk_C_of (cc := cX0_add) (maxL := 2) (ret := none) (own := RX0) (by decide) rfl rfl (Nat.le_of_ble_eq_true rfl) ?_
  intro p e s m below meth c A ls hx hb hr hlocks hml hts hown hA hP hK hD hl
  have hS : va_S A s.heap s.heap [] := va_S.rf
  have hl : lv_has ls 2 [(0, .ref (ad (11 + t))), (1, .int a)] := hl
  have hiX0 : ∀ w ∈ u_ws RX0 TX0 2, w ∈ wsX0_add := by decide +kernel
  obtain ⟨k, hk, hs⟩ := hsz t ht
  refine lv_aload_n hx hb dX0_add_0 rfl (lv_at hl 0 rfl) ?_
  refine lv_iload_n hx hb dX0_add_1 rfl (lv_at hl 1 rfl) ?_
  refine fk_callV (As := [.int a]) (rest := []) ⟨hx, hb, hml, hown, hts⟩ (kc_placeOf l D ad cI cT cJ X S t k a ht hk hs) (cwV 1 hts gX0_add_X0_placeOf rfl rfl rfl (by decide +kernel) ⟨Nat.le_of_ble_eq_true rfl, Nat.le_of_ble_eq_true rfl⟩) (fk_rvL hK hP ht) hK hP hD hS hA rfl hl.1 rfl (Nat.le_of_ble_eq_true rfl) dX0_add_2 ⟨Nat.le_of_ble_eq_true rfl, Nat.le_of_ble_eq_true rfl⟩ (fun H locs hP hD hS => ?_)
  rcases o_1 : fk_place S t a with _ | u2
  · refine W.eq (g2 := F0 m 5 ls [.int (-1)]) (by first | rfl | (rw [o_1]; rfl)) ?_
    refine lv_iconst (v := (-1)) hx hb dX0_add_5 (by decide) ?_
    refine lv_icmp_ne (tgt := 38) hx hb dX0_add_6 (by decide) (fun c => absurd c (by decide)) (fun _ => ?_)
    refine lv_aload_n hx hb dX0_add_9 rfl (lv_at hl 0 rfl) ?_
    refine fk_getL hx hb hts hiX0 hown hK hP ht 1 (by decide) (v := .int (S 10 t)) rfl (List.mem_of_getElem? (i := 1) rfl) rfl dX0_add_10 ?_
    refine lv_bipush (v := 16) hx hb dX0_add_13 (by decide) ?_
    refine lv_icmp_ge (tgt := 38) hx hb dX0_add_15 (by decide) (fun c_4 => ?_) (fun c_4 => ?_)
    · exact fk_vret hx hb hr hlocks hP hK hD hS (congrArg (fun z => fk_kW ad cI cT z ++ X) (by first | rfl | simp [kk_add, o_1, c_4, Int32.not_lt.mpr c_4])) (by rfl) dX0_add_38
    · refine lv_aload_n hx hb dX0_add_18 rfl (lv_at hl 0 rfl) ?_
      refine fk_getL hx hb hts hiX0 hown hK hP ht 0 (by decide) (v := .ref (ad (19 + t))) rfl (List.mem_of_getElem? (i := 2) rfl) rfl dX0_add_19 ?_
      refine lv_aload_n hx hb dX0_add_22 rfl (lv_at hl 0 rfl) ?_
      refine fk_getL hx hb hts hiX0 hown hK hP ht 1 (by decide) (v := .int (S 10 t)) rfl (List.mem_of_getElem? (i := 1) rfl) rfl dX0_add_23 ?_
      refine lv_iload_n hx hb dX0_add_26 rfl (lv_at hl 1 rfl) ?_
      refine fk_stR hx hb hK hP hD hS ht (by have h9 := Int32.not_le.mp c_4; rw [hs] at h9 ⊢; exact vp_in_nI ((nI_ltI (b := 16) (by omega) (by decide)).mp h9) (by decide)) dX0_add_27 (fun H locs hP hD hS => ?_)
      refine lv_aload_n hx hb dX0_add_28 rfl (lv_at hl 0 rfl) ?_
      refine lv_dup hx hb dX0_add_29 rfl ?_
      refine fk_getL hx hb hts hiX0 hown hK hP ht 1 (by decide) (v := .int (S 10 t)) (by simp [fk_fL, fk_up]) (List.mem_of_getElem? (i := 1) rfl) rfl dX0_add_30 ?_
      refine lv_iconst (v := 1) hx hb dX0_add_33 (by decide) ?_
      refine lv_iadd hx hb dX0_add_34 ?_
      refine fk_putL (v := ((S 10 t) + 1)) hx hb hts hiX0 hown hK hP hD hS ht (List.mem_of_getElem? (i := 1) rfl) dX0_add_35 (fun H locs hP hD hS => ?_)
      exact fk_vret hx hb hr hlocks hP hK hD hS (congrArg (fun z => fk_kW ad cI cT z ++ X) (by first | rfl | simp [kk_add, o_1, c_4, Int32.not_le.mp c_4])) (by rfl) dX0_add_38
  · have hu_5 : u2 < k := fk_place_lt hk hs o_1
    refine W.eq (g2 := F0 m 5 ls [.int (nI u2)]) (by first | rfl | (rw [o_1]; rfl)) ?_
    refine lv_iconst (v := (-1)) hx hb dX0_add_5 (by decide) ?_
    refine lv_icmp_ne (tgt := 38) hx hb dX0_add_6 (by decide) (fun _ => ?_) (fun c => absurd c (fk_nI_m1 (by omega)))
    exact fk_vret hx hb hr hlocks hP hK hD hS (congrArg (fun z => fk_kW ad cI cT z ++ X) (by first | rfl | simp [kk_add, o_1])) (by rfl) dX0_add_38

abbrev rmX0_drop : Room := { frames := 1, cells := 0, slots := 0, locals := 22 }
set_option maxHeartbeats 4000000 in
set_option maxRecDepth 100000 in
theorem kc_drop (l : Launch) (D : va_G) (ad : Nat → Nat) (cI cT cJ : ClassId) (X : va_W) (S : fk_S) (t : Nat) (a : Int32) (ht : t < 8) (hsz : fk_sz S) : fk_C l D (fk_ty cI cT cJ) yX0_drop wsX0_drop rmX0_drop [.ref (ad (11 + t)), .int a] (fk_kW ad cI cT S ++ X) none (fk_kW ad cI cT (kk_drop S t a) ++ X) := by
  refine fk_C_of (cc := cX0_drop) (maxL := 4) (ret := none) (own := RX0) (by decide) rfl rfl (Nat.le_of_ble_eq_true rfl) ?_
  intro p e s m below meth c A ls hx hb hr hlocks hml hts hown hA hP hK hD hl
  have hS : va_S A s.heap s.heap [] := va_S.rf
  have hl : lv_has ls 4 [(0, .ref (ad (11 + t))), (1, .int a)] := hl
  have hiX0 : ∀ w ∈ u_ws RX0 TX0 2, w ∈ wsX0_drop := by decide +kernel
  obtain ⟨k, hk, hs⟩ := hsz t ht
  refine lv_aload_n hx hb dX0_drop_0 rfl (lv_at hl 0 rfl) ?_
  refine lv_iload_n hx hb dX0_drop_1 rfl (lv_at hl 1 rfl) ?_
  refine fk_callV (As := [.int a]) (rest := []) ⟨hx, hb, hml, hown, hts⟩ (kc_placeOf l D ad cI cT cJ X S t k a ht hk hs) (cwV 1 hts gX0_drop_X0_placeOf rfl rfl rfl (by decide +kernel) ⟨Nat.le_of_ble_eq_true rfl, Nat.le_of_ble_eq_true rfl⟩) (fk_rvL hK hP ht) hK hP hD hS hA rfl hl.1 rfl (Nat.le_of_ble_eq_true rfl) dX0_drop_2 ⟨Nat.le_of_ble_eq_true rfl, Nat.le_of_ble_eq_true rfl⟩ (fun H locs hP hD hS => ?_)
  rcases o_1 : fk_place S t a with _ | u2
  · refine W.eq (g2 := F0 m 5 ls [.int (-1)]) (by first | rfl | (rw [o_1]; rfl)) ?_
    refine lv_istore_n (lv' := [(2, .int (-1)), (0, .ref (ad (11 + t))), (1, .int a)]) hx hb dX0_drop_5 rfl hl (by decide) rfl (fun ls hl => ?_)
    refine lv_iload_n hx hb dX0_drop_6 rfl (lv_at hl 0 rfl) ?_
    refine lv_iconst (v := (-1)) hx hb dX0_drop_7 (by decide) ?_
    refine lv_icmp_eq (tgt := 53) hx hb dX0_drop_8 (by decide) (fun _ => ?_) (fun c => absurd c (by decide))
    exact fk_vret hx hb hr hlocks hP hK hD hS (congrArg (fun z => fk_kW ad cI cT z ++ X) (by first | rfl | simp [kk_drop, o_1])) (by rfl) dX0_drop_53
  · have hu_4 : u2 < k := fk_place_lt hk hs o_1
    refine W.eq (g2 := F0 m 5 ls [.int (nI u2)]) (by first | rfl | (rw [o_1]; rfl)) ?_
    refine lv_istore_n (lv' := [(2, .int (nI u2)), (0, .ref (ad (11 + t))), (1, .int a)]) hx hb dX0_drop_5 rfl hl (by decide) rfl (fun ls hl => ?_)
    refine lv_iload_n hx hb dX0_drop_6 rfl (lv_at hl 0 rfl) ?_
    refine lv_iconst (v := (-1)) hx hb dX0_drop_7 (by decide) ?_
    refine lv_icmp_eq (tgt := 53) hx hb dX0_drop_8 (by decide) (fun c => absurd c (fk_nI_m1 (by omega))) (fun _ => ?_)
    refine lv_iload_n hx hb dX0_drop_11 rfl (lv_at hl 0 rfl) ?_
    refine lv_iconst (v := 1) hx hb dX0_drop_12 (by decide) ?_
    refine lv_iadd hx hb dX0_drop_13 ?_
    refine W.eq (g2 := F0 m 14 ls [.int (nI (u2 + 1))]) (by rw [nI_1]) ?_
    refine lv_istore_n (lv' := [(3, .int (nI (u2 + 1))), (2, .int (nI u2)), (0, .ref (ad (11 + t))), (1, .int a)]) hx hb dX0_drop_14 rfl hl (by decide) rfl (fun ls hl => ?_)
    have loop : ∀ (n : Nat) (i : Nat) (S1 : fk_S), (i + 1) + n = k → S1 10 t = nI k → fk_shift t n i S1 = fk_shift t (k - (u2 + 1)) u2 S → ∀ (H : Heap) (locs : List Loc) (ls : Array Slot), va_P D vwCl (fk_kW ad cI cT S1 ++ X) H → va_D A (fk_kW ad cI cT S1 ++ X) → va_S A s.heap H locs → lv_has ls 4 [(3, .int (nI (i + 1))), (2, .int (nI u2)), (0, .ref (ad (11 + t))), (1, .int a)] → W p l e rmX0_drop s m ([.ref (ad (11 + t)), .int a] : List Value).toArray below meth c H locs 0 0 (fk_Q below D (fk_ty cI cT cJ) [.ref (ad (11 + t)), .int a] s A (fk_kW ad cI cT (kk_drop S t a) ++ X) none) (F0 m 15 ls []) := by
      intro n
      induction n with
      | zero =>
        intro i S1 hi hs1 hR H locs ls hP hD hS hl
        refine lv_iload_n hx hb dX0_drop_15 rfl (lv_at hl 0 rfl) ?_
        refine lv_aload_n hx hb dX0_drop_16 rfl (lv_at hl 2 rfl) ?_
        refine fk_getL hx hb hts hiX0 hown hK hP ht 1 (by decide) (v := .int (S1 10 t)) rfl (List.mem_of_getElem? (i := 1) rfl) rfl dX0_drop_17 ?_
        refine lv_icmp_ge (tgt := 43) hx hb dX0_drop_20 (by decide) (fun c_5 => ?_) (fun c_5 => absurd (by rw [hs1]; exact nI_le (a := k) (b := i + 1) (by omega) (by omega)) c_5)
        refine lv_aload_n hx hb dX0_drop_43 rfl (lv_at hl 2 rfl) ?_
        refine lv_dup hx hb dX0_drop_44 rfl ?_
        refine fk_getL hx hb hts hiX0 hown hK hP ht 1 (by decide) (v := .int (S1 10 t)) rfl (List.mem_of_getElem? (i := 1) rfl) rfl dX0_drop_45 ?_
        refine lv_iconst (v := 1) hx hb dX0_drop_48 (by decide) ?_
        refine lv_isub hx hb dX0_drop_49 ?_
        refine fk_putL (v := ((S1 10 t) - 1)) hx hb hts hiX0 hown hK hP hD hS ht (List.mem_of_getElem? (i := 1) rfl) dX0_drop_50 (fun H locs hP hD hS => ?_)
        exact fk_vret hx hb hr hlocks hP hK hD hS (congrArg (fun z => fk_kW ad cI cT z ++ X) (by simp only [kk_drop, o_1, hs, nI_clamp (n := k) (show k < 2 ^ 31 by omega), ← hR, hs1]; rfl)) (by rfl) dX0_drop_53
      | succ n ih =>
        intro i S1 hi hs1 hR H locs ls hP hD hS hl
        refine lv_iload_n hx hb dX0_drop_15 rfl (lv_at hl 0 rfl) ?_
        refine lv_aload_n hx hb dX0_drop_16 rfl (lv_at hl 2 rfl) ?_
        refine fk_getL hx hb hts hiX0 hown hK hP ht 1 (by decide) (v := .int (S1 10 t)) rfl (List.mem_of_getElem? (i := 1) rfl) rfl dX0_drop_17 ?_
        refine lv_icmp_ge (tgt := 43) hx hb dX0_drop_20 (by decide) (fun c_6 => absurd c_6 (by rw [hs1]; exact nI_ge (a := i + 1) (b := k) (by omega) (by omega))) (fun c_6 => ?_)
        refine lv_aload_n hx hb dX0_drop_23 rfl (lv_at hl 2 rfl) ?_
        refine fk_getL hx hb hts hiX0 hown hK hP ht 0 (by decide) (v := .ref (ad (19 + t))) rfl (List.mem_of_getElem? (i := 2) rfl) rfl dX0_drop_24 ?_
        refine lv_iload_n hx hb dX0_drop_27 rfl (lv_at hl 0 rfl) ?_
        refine lv_iconst (v := 1) hx hb dX0_drop_28 (by decide) ?_
        refine lv_isub hx hb dX0_drop_29 ?_
        refine W.eq (g2 := F0 m 30 ls [.int (nI i), .ref (ad (19 + t))]) (by rw [nI_pred]) ?_
        refine lv_aload_n hx hb dX0_drop_30 rfl (lv_at hl 2 rfl) ?_
        refine fk_getL hx hb hts hiX0 hown hK hP ht 0 (by decide) (v := .ref (ad (19 + t))) rfl (List.mem_of_getElem? (i := 2) rfl) rfl dX0_drop_31 ?_
        refine lv_iload_n hx hb dX0_drop_34 rfl (lv_at hl 0 rfl) ?_
        refine fk_ldR hx hb hK hP ht (vp_in_nI (show i + 1 < 16 from (show i + 1 < 16 by omega)) (by decide)) dX0_drop_35 ?_
        refine W.eq (g2 := F0 m 36 ls [.int (S1 11 (16 * t + (i + 1))), .int (nI i), .ref (ad (19 + t))]) (by rw [nI_clamp (by omega)]) ?_
        refine fk_stR hx hb hK hP hD hS ht (vp_in_nI (show i < 16 from (show i < 16 by omega)) (by decide)) dX0_drop_36 (fun H locs hP hD hS => ?_)
        rw [show ((nI i)).toNatClampNeg = i from nI_clamp (n := i) (by omega)] at hP hD
        refine lv_iinc (v := (nI (i + 1 + 1))) (lv' := [(3, .int (nI (i + 1 + 1))), (2, .int (nI u2)), (0, .ref (ad (11 + t))), (1, .int a)]) hx hb dX0_drop_37 hl (k := 0) rfl (nI_1 (i + 1)) (by decide) rfl (fun ls hl => ?_)
        refine lv_goto (tgt := 15) hx hb dX0_drop_40 (by decide) ?_
        exact ih (i + 1) (fk_up S1 11 (16 * t + i) (S1 11 (16 * t + (i + 1)))) (by omega) (by simp [fk_up]; exact hs1) hR _ _ _ hP hD hS (lv_sub hl [0, 1, 2, 3] rfl)
    exact loop (k - (u2 + 1)) u2 S (by omega) hs rfl _ _ _ hP hD hS (lv_sub hl [0, 1, 2, 3] rfl)
