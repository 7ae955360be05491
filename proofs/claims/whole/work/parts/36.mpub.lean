theorem mc_ar_ok (l : Launch) (D : va_G) (bd : Nat → Nat) (cI cT cJ : ClassId) (X : va_W) (S : fk_S) (th av : Int32) (b : Bool) (wh : Int32) (h : mm_code S th av b wh = 0) : fk_C l D (fk_ty cI cT cJ) yX3_asksRunning wsX3_asksRunning rmX3_asksRunning [.ref (bd 0), .int th, .int av, .int (fk_b b), .int wh] (fk_mW bd cI S ++ X) (some (.int 1)) (fk_mW bd cI (mm_set S 0) ++ X) := by
  have h9 := mc_asksRunning l D bd cI cT cJ X S th av b wh
  rw [h] at h9
  exact h9
theorem mc_ar_no (l : Launch) (D : va_G) (bd : Nat → Nat) (cI cT cJ : ClassId) (X : va_W) (S : fk_S) (th av : Int32) (b : Bool) (wh v : Int32) (h : mm_code S th av b wh = v) (hv : ¬ v = 0) : fk_C l D (fk_ty cI cT cJ) yX3_asksRunning wsX3_asksRunning rmX3_asksRunning [.ref (bd 0), .int th, .int av, .int (fk_b b), .int wh] (fk_mW bd cI S ++ X) (some (.int 0)) (fk_mW bd cI (mm_set S v) ++ X) := by
  have h9 := mc_asksRunning l D bd cI cT cJ X S th av b wh
  rw [h, decide_eq_false hv] at h9
  exact h9

theorem mc_asks_t (l : Launch) (D : va_G) (bd : Nat → Nat) (cI cT cJ : ClassId) (X : va_W) (S : fk_S) : fk_C l D (fk_ty cI cT cJ) yX3_asks wsX3_asks rmX3_asks [.ref (bd 0), .int 1] (fk_mW bd cI S ++ X) (some (.int 1)) (fk_mW bd cI (fk_up S 12 4 0) ++ X) := mc_asks l D bd cI cT cJ X S true
theorem mc_asks_f (l : Launch) (D : va_G) (bd : Nat → Nat) (cI cT cJ : ClassId) (X : va_W) (S : fk_S) : fk_C l D (fk_ty cI cT cJ) yX3_asks wsX3_asks rmX3_asks [.ref (bd 0), .int 0] (fk_mW bd cI S ++ X) (some (.int 0)) (fk_mW bd cI (fk_up S 12 4 1) ++ X) := mc_asks l D bd cI cT cJ X S false

abbrev rmX3_store : Room := { frames := 2, cells := 0, slots := 0, locals := 44 }
set_option maxHeartbeats 4000000 in
set_option maxRecDepth 100000 in
theorem mc_store (l : Launch) (D : va_G) (bd : Nat → Nat) (cI cT cJ : ClassId) (X : va_W) (S : fk_S) (t : Nat) (ht : t < 8) (a : Nat) (ha : a < 16) (v : Int32) (hr0 : S 1 t = 0)  : fk_C l D (fk_ty cI cT cJ) yX3_store wsX3_store rmX3_store [.ref (bd 0), .int (nI t), .int (nI a), .int v] (fk_mW bd cI S ++ X) (some (.int (S 0 a))) (fk_mW bd cI (fk_up (mm_set S 0) 0 a v) ++ X) := by
  refine fk_C_of (cc := cX3_store) (maxL := 5) (ret := (some .int)) (own := RX3) (by decide) rfl rfl (Nat.le_of_ble_eq_true rfl) ?_
  intro p e s m below meth c A ls hx hb hr hlocks hml hts hown hA hP hK hD hl
  have hS : va_S A s.heap s.heap [] := va_S.rf
  have hl : lv_has ls 5 [(0, .ref (bd 0)), (1, .int (nI t)), (2, .int (nI a)), (3, .int v)] := hl
  have hiX3 : ∀ w ∈ u_ws RX3 TX3 17, w ∈ wsX3_store := by decide +kernel
  refine lv_aload_n hx hb dX3_store_0 rfl (lv_at hl 0 rfl) ?_
  refine lv_iload_n hx hb dX3_store_1 rfl (lv_at hl 1 rfl) ?_
  refine lv_iload_n hx hb dX3_store_2 rfl (lv_at hl 2 rfl) ?_
  refine lv_iconst (v := 1) hx hb dX3_store_3 (by decide) ?_
  refine lv_iconst (v := 2) hx hb dX3_store_4 (by decide) ?_
  refine fk_callV (As := [.int (nI t), .int (nI a), .int 1, .int 2]) (rest := []) ⟨hx, hb, hml, hown, hts⟩ (mc_ar_ok l D bd cI cT cJ X S (nI t) (nI a) true 2 (mm_code_ok ht ha hr0)) (cwV 4 hts gX3_store_X3_asksRunning rfl rfl rfl (by decide +kernel) ⟨Nat.le_of_ble_eq_true rfl, Nat.le_of_ble_eq_true rfl⟩) (fk_rvM hK hP) hK hP hD hS hA rfl hl.1 rfl (Nat.le_of_ble_eq_true rfl) dX3_store_5 ⟨Nat.le_of_ble_eq_true rfl, Nat.le_of_ble_eq_true rfl⟩ (fun H locs hP hD hS => ?_)
  refine W.eq (g2 := F0 m 8 ls [.int 1]) rfl ?_
  refine lv_if_ne (tgt := 13) hx hb dX3_store_8 (by decide) (fun _ => ?_) (fun c => absurd c (by decide))
  refine lv_aload_n hx hb dX3_store_13 rfl (lv_at hl 0 rfl) ?_
  refine fk_getM hx hb hts hiX3 hown hK hP 0 (by decide) (v := .ref (bd 1)) rfl (List.mem_of_getElem? (i := 1) rfl) rfl dX3_store_14 ?_
  refine lv_iload_n hx hb dX3_store_17 rfl (lv_at hl 2 rfl) ?_
  refine fk_ldN hx hb hK hP 0 0 16 rfl (by decide) rfl rfl (vp_in_nI (show a < 16 from ha) (by decide)) dX3_store_18 ?_
  refine W.eq (g2 := F0 m 19 ls [.int (S 0 a)]) (by simp [fk_up, mm_set, nI_clamp (n := a) (by omega)]) ?_
  refine lv_istore (lv' := [(4, .int (S 0 a)), (0, .ref (bd 0)), (1, .int (nI t)), (2, .int (nI a)), (3, .int v)]) hx hb dX3_store_19 hl (by decide) rfl (fun ls hl => ?_)
  refine lv_aload_n hx hb dX3_store_21 rfl (lv_at hl 1 rfl) ?_
  refine fk_getM hx hb hts hiX3 hown hK hP 0 (by decide) (v := .ref (bd 1)) rfl (List.mem_of_getElem? (i := 1) rfl) rfl dX3_store_22 ?_
  refine lv_iload_n hx hb dX3_store_25 rfl (lv_at hl 3 rfl) ?_
  refine lv_iload_n hx hb dX3_store_26 rfl (lv_at hl 4 rfl) ?_
  refine fk_stN hx hb hK hP hD hS 0 0 16 rfl (by decide) rfl rfl (vp_in_nI (show a < 16 from ha) (by decide)) dX3_store_27 (fun H locs hP hD hS => ?_)
  rw [show ((nI a)).toNatClampNeg = a from nI_clamp (n := a) (by omega)] at hP hD
  refine lv_iload hx hb dX3_store_28 (lv_at hl 0 rfl) ?_
  exact fk_iret hx hb hr hlocks hP hK hD hS (congrArg (fun z => fk_mW bd cI z ++ X) (by rfl)) (by rfl) dX3_store_30

set_option maxHeartbeats 4000000 in
set_option maxRecDepth 100000 in
theorem mn_store (l : Launch) (D : va_G) (bd : Nat → Nat) (cI cT cJ : ClassId) (X : va_W) (S : fk_S) (th av : Int32) (v : Int32) (v9 : Int32) (h : mm_code S th av true 2 = v9) (hv9 : ¬ v9 = 0) : fk_C l D (fk_ty cI cT cJ) yX3_store wsX3_store rmX3_store [.ref (bd 0), .int th, .int av, .int v] (fk_mW bd cI S ++ X) (some (.int 0)) (fk_mW bd cI (mm_set S v9) ++ X) := by
  refine fk_C_of (cc := cX3_store) (maxL := 5) (ret := (some .int)) (own := RX3) (by decide) rfl rfl (Nat.le_of_ble_eq_true rfl) ?_
  intro p e s m below meth c A ls hx hb hr hlocks hml hts hown hA hP hK hD hl
  have hS : va_S A s.heap s.heap [] := va_S.rf
  have hl : lv_has ls 5 [(0, .ref (bd 0)), (1, .int th), (2, .int av), (3, .int v)] := hl
  refine lv_aload_n hx hb dX3_store_0 rfl (lv_at hl 0 rfl) ?_
  refine lv_iload_n hx hb dX3_store_1 rfl (lv_at hl 1 rfl) ?_
  refine lv_iload_n hx hb dX3_store_2 rfl (lv_at hl 2 rfl) ?_
  refine lv_iconst (v := 1) hx hb dX3_store_3 (by decide) ?_
  refine lv_iconst (v := 2) hx hb dX3_store_4 (by decide) ?_
  refine fk_callV (As := [.int th, .int av, .int 1, .int 2]) (rest := []) ⟨hx, hb, hml, hown, hts⟩ (mc_ar_no l D bd cI cT cJ X S th av true 2 v9 h hv9) (cwV 4 hts gX3_store_X3_asksRunning rfl rfl rfl (by decide +kernel) ⟨Nat.le_of_ble_eq_true rfl, Nat.le_of_ble_eq_true rfl⟩) (fk_rvM hK hP) hK hP hD hS hA rfl hl.1 rfl (Nat.le_of_ble_eq_true rfl) dX3_store_5 ⟨Nat.le_of_ble_eq_true rfl, Nat.le_of_ble_eq_true rfl⟩ (fun H locs hP hD hS => ?_)
  refine W.eq (g2 := F0 m 8 ls [.int 0]) rfl ?_
  refine lv_if_ne (tgt := 13) hx hb dX3_store_8 (by decide) (fun c => absurd c (by decide)) (fun _ => ?_)
  refine lv_iconst (v := 0) hx hb dX3_store_11 (by decide) ?_
  exact fk_iret hx hb hr hlocks hP hK hD hS (congrArg (fun z => fk_mW bd cI z ++ X) (by rfl)) (by rfl) dX3_store_12

abbrev rmX3_compareAndSet : Room := { frames := 2, cells := 0, slots := 0, locals := 44 }
set_option maxHeartbeats 4000000 in
set_option maxRecDepth 100000 in
theorem mc_compareAndSet (l : Launch) (D : va_G) (bd : Nat → Nat) (cI cT cJ : ClassId) (X : va_W) (S : fk_S) (t : Nat) (ht : t < 8) (a : Nat) (ha : a < 16) (x v : Int32) (hr0 : S 1 t = 0)  : fk_C l D (fk_ty cI cT cJ) yX3_compareAndSet wsX3_compareAndSet rmX3_compareAndSet [.ref (bd 0), .int (nI t), .int (nI a), .int x, .int v] (fk_mW bd cI S ++ X) (some (.int (fk_b (decide (S 0 a = x))))) (fk_mW bd cI (if S 0 a = x then fk_up (mm_set S 0) 0 a v else mm_set S 0) ++ X) := by
  refine fk_C_of (cc := cX3_compareAndSet) (maxL := 5) (ret := (some .boolean)) (own := RX3) (by decide) rfl rfl (Nat.le_of_ble_eq_true rfl) ?_
  intro p e s m below meth c A ls hx hb hr hlocks hml hts hown hA hP hK hD hl
  have hS : va_S A s.heap s.heap [] := va_S.rf
  have hl : lv_has ls 5 [(0, .ref (bd 0)), (1, .int (nI t)), (2, .int (nI a)), (3, .int x), (4, .int v)] := hl
  have hiX3 : ∀ w ∈ u_ws RX3 TX3 17, w ∈ wsX3_compareAndSet := by decide +kernel
  refine lv_aload_n hx hb dX3_compareAndSet_0 rfl (lv_at hl 0 rfl) ?_
  refine lv_iload_n hx hb dX3_compareAndSet_1 rfl (lv_at hl 1 rfl) ?_
  refine lv_iload_n hx hb dX3_compareAndSet_2 rfl (lv_at hl 2 rfl) ?_
  refine lv_iconst (v := 1) hx hb dX3_compareAndSet_3 (by decide) ?_
  refine lv_iconst (v := 2) hx hb dX3_compareAndSet_4 (by decide) ?_
  refine fk_callV (As := [.int (nI t), .int (nI a), .int 1, .int 2]) (rest := []) ⟨hx, hb, hml, hown, hts⟩ (mc_ar_ok l D bd cI cT cJ X S (nI t) (nI a) true 2 (mm_code_ok ht ha hr0)) (cwV 4 hts gX3_compareAndSet_X3_asksRunning rfl rfl rfl (by decide +kernel) ⟨Nat.le_of_ble_eq_true rfl, Nat.le_of_ble_eq_true rfl⟩) (fk_rvM hK hP) hK hP hD hS hA rfl hl.1 rfl (Nat.le_of_ble_eq_true rfl) dX3_compareAndSet_5 ⟨Nat.le_of_ble_eq_true rfl, Nat.le_of_ble_eq_true rfl⟩ (fun H locs hP hD hS => ?_)
  refine W.eq (g2 := F0 m 8 ls [.int 1]) rfl ?_
  refine lv_if_eq (tgt := 21) hx hb dX3_compareAndSet_8 (by decide) (fun c => absurd c (by decide)) (fun _ => ?_)
  refine lv_aload_n hx hb dX3_compareAndSet_11 rfl (lv_at hl 0 rfl) ?_
  refine fk_getM hx hb hts hiX3 hown hK hP 0 (by decide) (v := .ref (bd 1)) rfl (List.mem_of_getElem? (i := 1) rfl) rfl dX3_compareAndSet_12 ?_
  refine lv_iload_n hx hb dX3_compareAndSet_15 rfl (lv_at hl 2 rfl) ?_
  refine fk_ldN hx hb hK hP 0 0 16 rfl (by decide) rfl rfl (vp_in_nI (show a < 16 from ha) (by decide)) dX3_compareAndSet_16 ?_
  refine W.eq (g2 := F0 m 17 ls [.int (S 0 a)]) (by simp [fk_up, mm_set, nI_clamp (n := a) (by omega)]) ?_
  refine lv_iload_n hx hb dX3_compareAndSet_17 rfl (lv_at hl 3 rfl) ?_
  refine lv_icmp_eq (tgt := 23) hx hb dX3_compareAndSet_18 (by decide) (fun c_2 => ?_) (fun c_2 => ?_)
  · refine lv_aload_n hx hb dX3_compareAndSet_23 rfl (lv_at hl 0 rfl) ?_
    refine fk_getM hx hb hts hiX3 hown hK hP 0 (by decide) (v := .ref (bd 1)) rfl (List.mem_of_getElem? (i := 1) rfl) rfl dX3_compareAndSet_24 ?_
    refine lv_iload_n hx hb dX3_compareAndSet_27 rfl (lv_at hl 2 rfl) ?_
    refine lv_iload hx hb dX3_compareAndSet_28 (lv_at hl 4 rfl) ?_
    refine fk_stN hx hb hK hP hD hS 0 0 16 rfl (by decide) rfl rfl (vp_in_nI (show a < 16 from ha) (by decide)) dX3_compareAndSet_30 (fun H locs hP hD hS => ?_)
    rw [show ((nI a)).toNatClampNeg = a from nI_clamp (n := a) (by omega)] at hP hD
    refine lv_iconst (v := 1) hx hb dX3_compareAndSet_31 (by decide) ?_
    exact fk_zret hx hb hr hlocks hP hK hD hS (congrArg (fun z => fk_mW bd cI z ++ X) (by have h9 : S 0 a = x := c_2; simp [h9, mm_set])) rfl (by have h9 : S 0 a = x := c_2; simp [fk_b, h9]) dX3_compareAndSet_32
  · refine lv_iconst (v := 0) hx hb dX3_compareAndSet_21 (by decide) ?_
    exact fk_zret hx hb hr hlocks hP hK hD hS (congrArg (fun z => fk_mW bd cI z ++ X) (by have h9 : ¬ S 0 a = x := c_2; simp [h9, mm_set])) rfl (by have h9 : ¬ S 0 a = x := c_2; simp [fk_b, h9]) dX3_compareAndSet_22

set_option maxHeartbeats 4000000 in
set_option maxRecDepth 100000 in
theorem mn_compareAndSet (l : Launch) (D : va_G) (bd : Nat → Nat) (cI cT cJ : ClassId) (X : va_W) (S : fk_S) (th av : Int32) (x v : Int32) (v9 : Int32) (h : mm_code S th av true 2 = v9) (hv9 : ¬ v9 = 0) : fk_C l D (fk_ty cI cT cJ) yX3_compareAndSet wsX3_compareAndSet rmX3_compareAndSet [.ref (bd 0), .int th, .int av, .int x, .int v] (fk_mW bd cI S ++ X) (some (.int 0)) (fk_mW bd cI (mm_set S v9) ++ X) := by
  refine fk_C_of (cc := cX3_compareAndSet) (maxL := 5) (ret := (some .boolean)) (own := RX3) (by decide) rfl rfl (Nat.le_of_ble_eq_true rfl) ?_
  intro p e s m below meth c A ls hx hb hr hlocks hml hts hown hA hP hK hD hl
  have hS : va_S A s.heap s.heap [] := va_S.rf
  have hl : lv_has ls 5 [(0, .ref (bd 0)), (1, .int th), (2, .int av), (3, .int x), (4, .int v)] := hl
  refine lv_aload_n hx hb dX3_compareAndSet_0 rfl (lv_at hl 0 rfl) ?_
  refine lv_iload_n hx hb dX3_compareAndSet_1 rfl (lv_at hl 1 rfl) ?_
  refine lv_iload_n hx hb dX3_compareAndSet_2 rfl (lv_at hl 2 rfl) ?_
  refine lv_iconst (v := 1) hx hb dX3_compareAndSet_3 (by decide) ?_
  refine lv_iconst (v := 2) hx hb dX3_compareAndSet_4 (by decide) ?_
  refine fk_callV (As := [.int th, .int av, .int 1, .int 2]) (rest := []) ⟨hx, hb, hml, hown, hts⟩ (mc_ar_no l D bd cI cT cJ X S th av true 2 v9 h hv9) (cwV 4 hts gX3_compareAndSet_X3_asksRunning rfl rfl rfl (by decide +kernel) ⟨Nat.le_of_ble_eq_true rfl, Nat.le_of_ble_eq_true rfl⟩) (fk_rvM hK hP) hK hP hD hS hA rfl hl.1 rfl (Nat.le_of_ble_eq_true rfl) dX3_compareAndSet_5 ⟨Nat.le_of_ble_eq_true rfl, Nat.le_of_ble_eq_true rfl⟩ (fun H locs hP hD hS => ?_)
  refine W.eq (g2 := F0 m 8 ls [.int 0]) rfl ?_
  refine lv_if_eq (tgt := 21) hx hb dX3_compareAndSet_8 (by decide) (fun _ => ?_) (fun c => absurd c (by decide))
  refine lv_iconst (v := 0) hx hb dX3_compareAndSet_21 (by decide) ?_
  exact fk_zret hx hb hr hlocks hP hK hD hS (congrArg (fun z => fk_mW bd cI z ++ X) (by rfl)) rfl (by rfl) dX3_compareAndSet_22

abbrev rmX3_fetchAdd : Room := { frames := 2, cells := 0, slots := 0, locals := 44 }
set_option maxHeartbeats 4000000 in
set_option maxRecDepth 100000 in
theorem mc_fetchAdd (l : Launch) (D : va_G) (bd : Nat → Nat) (cI cT cJ : ClassId) (X : va_W) (S : fk_S) (t : Nat) (ht : t < 8) (a : Nat) (ha : a < 16) (v : Int32) (hr0 : S 1 t = 0)  : fk_C l D (fk_ty cI cT cJ) yX3_fetchAdd wsX3_fetchAdd rmX3_fetchAdd [.ref (bd 0), .int (nI t), .int (nI a), .int v] (fk_mW bd cI S ++ X) (some (.int (S 0 a))) (fk_mW bd cI (fk_up (mm_set S 0) 0 a (S 0 a + v)) ++ X) := by
  refine fk_C_of (cc := cX3_fetchAdd) (maxL := 5) (ret := (some .int)) (own := RX3) (by decide) rfl rfl (Nat.le_of_ble_eq_true rfl) ?_
  intro p e s m below meth c A ls hx hb hr hlocks hml hts hown hA hP hK hD hl
  have hS : va_S A s.heap s.heap [] := va_S.rf
  have hl : lv_has ls 5 [(0, .ref (bd 0)), (1, .int (nI t)), (2, .int (nI a)), (3, .int v)] := hl
  have hiX3 : ∀ w ∈ u_ws RX3 TX3 17, w ∈ wsX3_fetchAdd := by decide +kernel
  refine lv_aload_n hx hb dX3_fetchAdd_0 rfl (lv_at hl 0 rfl) ?_
  refine lv_iload_n hx hb dX3_fetchAdd_1 rfl (lv_at hl 1 rfl) ?_
  refine lv_iload_n hx hb dX3_fetchAdd_2 rfl (lv_at hl 2 rfl) ?_
  refine lv_iconst (v := 1) hx hb dX3_fetchAdd_3 (by decide) ?_
  refine lv_iconst (v := 2) hx hb dX3_fetchAdd_4 (by decide) ?_
  refine fk_callV (As := [.int (nI t), .int (nI a), .int 1, .int 2]) (rest := []) ⟨hx, hb, hml, hown, hts⟩ (mc_ar_ok l D bd cI cT cJ X S (nI t) (nI a) true 2 (mm_code_ok ht ha hr0)) (cwV 4 hts gX3_fetchAdd_X3_asksRunning rfl rfl rfl (by decide +kernel) ⟨Nat.le_of_ble_eq_true rfl, Nat.le_of_ble_eq_true rfl⟩) (fk_rvM hK hP) hK hP hD hS hA rfl hl.1 rfl (Nat.le_of_ble_eq_true rfl) dX3_fetchAdd_5 ⟨Nat.le_of_ble_eq_true rfl, Nat.le_of_ble_eq_true rfl⟩ (fun H locs hP hD hS => ?_)
  refine W.eq (g2 := F0 m 8 ls [.int 1]) rfl ?_
  refine lv_if_ne (tgt := 13) hx hb dX3_fetchAdd_8 (by decide) (fun _ => ?_) (fun c => absurd c (by decide))
  refine lv_aload_n hx hb dX3_fetchAdd_13 rfl (lv_at hl 0 rfl) ?_
  refine fk_getM hx hb hts hiX3 hown hK hP 0 (by decide) (v := .ref (bd 1)) rfl (List.mem_of_getElem? (i := 1) rfl) rfl dX3_fetchAdd_14 ?_
  refine lv_iload_n hx hb dX3_fetchAdd_17 rfl (lv_at hl 2 rfl) ?_
  refine fk_ldN hx hb hK hP 0 0 16 rfl (by decide) rfl rfl (vp_in_nI (show a < 16 from ha) (by decide)) dX3_fetchAdd_18 ?_
  refine W.eq (g2 := F0 m 19 ls [.int (S 0 a)]) (by simp [fk_up, mm_set, nI_clamp (n := a) (by omega)]) ?_
  refine lv_istore (lv' := [(4, .int (S 0 a)), (0, .ref (bd 0)), (1, .int (nI t)), (2, .int (nI a)), (3, .int v)]) hx hb dX3_fetchAdd_19 hl (by decide) rfl (fun ls hl => ?_)
  refine lv_aload_n hx hb dX3_fetchAdd_21 rfl (lv_at hl 1 rfl) ?_
  refine fk_getM hx hb hts hiX3 hown hK hP 0 (by decide) (v := .ref (bd 1)) rfl (List.mem_of_getElem? (i := 1) rfl) rfl dX3_fetchAdd_22 ?_
  refine lv_iload_n hx hb dX3_fetchAdd_25 rfl (lv_at hl 3 rfl) ?_
  refine lv_iload hx hb dX3_fetchAdd_26 (lv_at hl 0 rfl) ?_
  refine lv_iload_n hx hb dX3_fetchAdd_28 rfl (lv_at hl 4 rfl) ?_
  refine lv_iadd hx hb dX3_fetchAdd_29 ?_
  refine fk_stN hx hb hK hP hD hS 0 0 16 rfl (by decide) rfl rfl (vp_in_nI (show a < 16 from ha) (by decide)) dX3_fetchAdd_30 (fun H locs hP hD hS => ?_)
  rw [show ((nI a)).toNatClampNeg = a from nI_clamp (n := a) (by omega)] at hP hD
  refine lv_iload hx hb dX3_fetchAdd_31 (lv_at hl 0 rfl) ?_
  exact fk_iret hx hb hr hlocks hP hK hD hS (congrArg (fun z => fk_mW bd cI z ++ X) (by rfl)) (by rfl) dX3_fetchAdd_33

set_option maxHeartbeats 4000000 in
set_option maxRecDepth 100000 in
theorem mn_fetchAdd (l : Launch) (D : va_G) (bd : Nat → Nat) (cI cT cJ : ClassId) (X : va_W) (S : fk_S) (th av : Int32) (v : Int32) (v9 : Int32) (h : mm_code S th av true 2 = v9) (hv9 : ¬ v9 = 0) : fk_C l D (fk_ty cI cT cJ) yX3_fetchAdd wsX3_fetchAdd rmX3_fetchAdd [.ref (bd 0), .int th, .int av, .int v] (fk_mW bd cI S ++ X) (some (.int 0)) (fk_mW bd cI (mm_set S v9) ++ X) := by
  refine fk_C_of (cc := cX3_fetchAdd) (maxL := 5) (ret := (some .int)) (own := RX3) (by decide) rfl rfl (Nat.le_of_ble_eq_true rfl) ?_
  intro p e s m below meth c A ls hx hb hr hlocks hml hts hown hA hP hK hD hl
  have hS : va_S A s.heap s.heap [] := va_S.rf
  have hl : lv_has ls 5 [(0, .ref (bd 0)), (1, .int th), (2, .int av), (3, .int v)] := hl
  refine lv_aload_n hx hb dX3_fetchAdd_0 rfl (lv_at hl 0 rfl) ?_
  refine lv_iload_n hx hb dX3_fetchAdd_1 rfl (lv_at hl 1 rfl) ?_
  refine lv_iload_n hx hb dX3_fetchAdd_2 rfl (lv_at hl 2 rfl) ?_
  refine lv_iconst (v := 1) hx hb dX3_fetchAdd_3 (by decide) ?_
  refine lv_iconst (v := 2) hx hb dX3_fetchAdd_4 (by decide) ?_
  refine fk_callV (As := [.int th, .int av, .int 1, .int 2]) (rest := []) ⟨hx, hb, hml, hown, hts⟩ (mc_ar_no l D bd cI cT cJ X S th av true 2 v9 h hv9) (cwV 4 hts gX3_fetchAdd_X3_asksRunning rfl rfl rfl (by decide +kernel) ⟨Nat.le_of_ble_eq_true rfl, Nat.le_of_ble_eq_true rfl⟩) (fk_rvM hK hP) hK hP hD hS hA rfl hl.1 rfl (Nat.le_of_ble_eq_true rfl) dX3_fetchAdd_5 ⟨Nat.le_of_ble_eq_true rfl, Nat.le_of_ble_eq_true rfl⟩ (fun H locs hP hD hS => ?_)
  refine W.eq (g2 := F0 m 8 ls [.int 0]) rfl ?_
  refine lv_if_ne (tgt := 13) hx hb dX3_fetchAdd_8 (by decide) (fun c => absurd c (by decide)) (fun _ => ?_)
  refine lv_iconst (v := 0) hx hb dX3_fetchAdd_11 (by decide) ?_
  exact fk_iret hx hb hr hlocks hP hK hD hS (congrArg (fun z => fk_mW bd cI z ++ X) (by rfl)) (by rfl) dX3_fetchAdd_12

abbrev rmX3_word : Room := { frames := 1, cells := 0, slots := 0, locals := 21 }
set_option maxHeartbeats 4000000 in
set_option maxRecDepth 100000 in
theorem mc_word (l : Launch) (D : va_G) (bd : Nat → Nat) (cI cT cJ : ClassId) (X : va_W) (S : fk_S) (a : Nat) (ha : a < 16) : fk_C l D (fk_ty cI cT cJ) yX3_word wsX3_word rmX3_word [.ref (bd 0), .int (nI a)] (fk_mW bd cI S ++ X) (some (.int (S 0 a))) (fk_mW bd cI (mm_set S 0) ++ X) := by
  refine fk_C_of (cc := cX3_word) (maxL := 2) (ret := (some .int)) (own := RX3) (by decide) rfl rfl (Nat.le_of_ble_eq_true rfl) ?_
  intro p e s m below meth c A ls hx hb hr hlocks hml hts hown hA hP hK hD hl
  have hS : va_S A s.heap s.heap [] := va_S.rf
  have hl : lv_has ls 2 [(0, .ref (bd 0)), (1, .int (nI a))] := hl
  have hiX3 : ∀ w ∈ u_ws RX3 TX3 17, w ∈ wsX3_word := by decide +kernel
  refine lv_aload_n hx hb dX3_word_0 rfl (lv_at hl 0 rfl) ?_
  refine lv_iload_n hx hb dX3_word_1 rfl (lv_at hl 1 rfl) ?_
  refine fk_callS (As := [.int (nI a)]) (rest := [.ref (bd 0)]) ⟨hx, hb, hml, hown, hts⟩ (by have h9 := (mc_isAddress l D bd cI cT cJ X S (nI a)); rw [fk_isA_nI (by omega)] at h9; exact h9) (va_cwS 1 hts gX3_word_X3_isAddress rfl rfl rfl (by decide +kernel) ⟨Nat.le_of_ble_eq_true rfl, Nat.le_of_ble_eq_true rfl⟩) hK hP hD hS hA rfl hl.1 rfl (Nat.le_of_ble_eq_true rfl) dX3_word_2 ⟨Nat.le_of_ble_eq_true rfl, Nat.le_of_ble_eq_true rfl⟩ (fun H locs hP hD hS => ?_)
  refine W.eq (g2 := F0 m 5 ls [.int 1, .ref (bd 0)]) rfl ?_
  refine fk_callV (As := [.int 1]) (rest := []) ⟨hx, hb, hml, hown, hts⟩ (mc_asks_t l D bd cI cT cJ X S) (cwV 1 hts gX3_word_X3_asks rfl rfl rfl (by decide +kernel) ⟨Nat.le_of_ble_eq_true rfl, Nat.le_of_ble_eq_true rfl⟩) (fk_rvM hK hP) hK hP hD hS hA rfl hl.1 rfl (Nat.le_of_ble_eq_true rfl) dX3_word_5 ⟨Nat.le_of_ble_eq_true rfl, Nat.le_of_ble_eq_true rfl⟩ (fun H locs hP hD hS => ?_)
  refine W.eq (g2 := F0 m 8 ls [.int 1]) rfl ?_
  refine lv_if_eq (tgt := 20) hx hb dX3_word_8 (by decide) (fun c => absurd c (by decide)) (fun _ => ?_)
  refine lv_aload_n hx hb dX3_word_11 rfl (lv_at hl 0 rfl) ?_
  refine fk_getM hx hb hts hiX3 hown hK hP 0 (by decide) (v := .ref (bd 1)) rfl (List.mem_of_getElem? (i := 1) rfl) rfl dX3_word_12 ?_
  refine lv_iload_n hx hb dX3_word_15 rfl (lv_at hl 1 rfl) ?_
  refine fk_ldN hx hb hK hP 0 0 16 rfl (by decide) rfl rfl (vp_in_nI (show a < 16 from (by omega)) (by decide)) dX3_word_16 ?_
  refine W.eq (g2 := F0 m 17 ls [.int (S 0 a)]) (by simp [fk_up, mm_set, nI_clamp (n := a) (by omega)]) ?_
  refine lv_goto (tgt := 21) hx hb dX3_word_17 (by decide) ?_
  exact fk_iret hx hb hr hlocks hP hK hD hS (congrArg (fun z => fk_mW bd cI z ++ X) (by rfl)) (by rfl) dX3_word_21

set_option maxHeartbeats 4000000 in
set_option maxRecDepth 100000 in
theorem mn_word (l : Launch) (D : va_G) (bd : Nat → Nat) (cI cT cJ : ClassId) (X : va_W) (S : fk_S) (av : Int32) (h : fk_isA av = false) : fk_C l D (fk_ty cI cT cJ) yX3_word wsX3_word rmX3_word [.ref (bd 0), .int av] (fk_mW bd cI S ++ X) (some (.int 0)) (fk_mW bd cI (mm_set S 1) ++ X) := by
  refine fk_C_of (cc := cX3_word) (maxL := 2) (ret := (some .int)) (own := RX3) (by decide) rfl rfl (Nat.le_of_ble_eq_true rfl) ?_
  intro p e s m below meth c A ls hx hb hr hlocks hml hts hown hA hP hK hD hl
  have hS : va_S A s.heap s.heap [] := va_S.rf
  have hl : lv_has ls 2 [(0, .ref (bd 0)), (1, .int av)] := hl
  refine lv_aload_n hx hb dX3_word_0 rfl (lv_at hl 0 rfl) ?_
  refine lv_iload_n hx hb dX3_word_1 rfl (lv_at hl 1 rfl) ?_
  refine fk_callS (As := [.int av]) (rest := [.ref (bd 0)]) ⟨hx, hb, hml, hown, hts⟩ (by have h9 := (mc_isAddress l D bd cI cT cJ X S av); rw [h] at h9; exact h9) (va_cwS 1 hts gX3_word_X3_isAddress rfl rfl rfl (by decide +kernel) ⟨Nat.le_of_ble_eq_true rfl, Nat.le_of_ble_eq_true rfl⟩) hK hP hD hS hA rfl hl.1 rfl (Nat.le_of_ble_eq_true rfl) dX3_word_2 ⟨Nat.le_of_ble_eq_true rfl, Nat.le_of_ble_eq_true rfl⟩ (fun H locs hP hD hS => ?_)
  refine W.eq (g2 := F0 m 5 ls [.int 0, .ref (bd 0)]) rfl ?_
  refine fk_callV (As := [.int 0]) (rest := []) ⟨hx, hb, hml, hown, hts⟩ (mc_asks_f l D bd cI cT cJ X S) (cwV 1 hts gX3_word_X3_asks rfl rfl rfl (by decide +kernel) ⟨Nat.le_of_ble_eq_true rfl, Nat.le_of_ble_eq_true rfl⟩) (fk_rvM hK hP) hK hP hD hS hA rfl hl.1 rfl (Nat.le_of_ble_eq_true rfl) dX3_word_5 ⟨Nat.le_of_ble_eq_true rfl, Nat.le_of_ble_eq_true rfl⟩ (fun H locs hP hD hS => ?_)
  refine W.eq (g2 := F0 m 8 ls [.int 0]) rfl ?_
  refine lv_if_eq (tgt := 20) hx hb dX3_word_8 (by decide) (fun _ => ?_) (fun c => absurd c (by decide))
  refine lv_iconst (v := 0) hx hb dX3_word_20 (by decide) ?_
  exact fk_iret hx hb hr hlocks hP hK hD hS (congrArg (fun z => fk_mW bd cI z ++ X) (by rfl)) (by rfl) dX3_word_21

abbrev rmX3_await : Room := { frames := 2, cells := 0, slots := 0, locals := 47 }
set_option maxHeartbeats 4000000 in
set_option maxRecDepth 100000 in
theorem mc_await (l : Launch) (D : va_G) (bd : Nat → Nat) (cI cT cJ : ClassId) (X : va_W) (S : fk_S) (t : Nat) (ht : t < 8) (a : Nat) (ha : a < 16) (x mk to : Int32) (hr0 : S 1 t = 0) (hm0 : mm_msk mk = true) (hm1 : mm_tmo to = true) : fk_C l D (fk_ty cI cT cJ) yX3_await wsX3_await rmX3_await [.ref (bd 0), .int (nI t), .int (nI a), .int x, .int mk, .int to] (fk_mW bd cI S ++ X) (some (.int (fk_b (decide (S 0 a = x))))) (fk_mW bd cI (if S 0 a = x then mm_wait (mm_set S 0) t (nI a) 1 mk to else mm_set S 0) ++ X) := by
  refine fk_C_of (cc := cX3_await) (maxL := 6) (ret := (some .boolean)) (own := RX3) (by decide) rfl rfl (Nat.le_of_ble_eq_true rfl) ?_
  intro p e s m below meth c A ls hx hb hr hlocks hml hts hown hA hP hK hD hl
  have hS : va_S A s.heap s.heap [] := va_S.rf
  have hl : lv_has ls 6 [(0, .ref (bd 0)), (1, .int (nI t)), (2, .int (nI a)), (3, .int x), (4, .int mk), (5, .int to)] := hl
  have hiX3 : ∀ w ∈ u_ws RX3 TX3 17, w ∈ wsX3_await := by decide +kernel
  refine lv_aload_n hx hb dX3_await_0 rfl (lv_at hl 0 rfl) ?_
  refine lv_iload_n hx hb dX3_await_1 rfl (lv_at hl 1 rfl) ?_
  refine lv_iload_n hx hb dX3_await_2 rfl (lv_at hl 2 rfl) ?_
  refine lv_iload hx hb dX3_await_3 (lv_at hl 4 rfl) ?_
  refine fk_callS (As := [.int mk]) (rest := [.int (nI a), .int (nI t), .ref (bd 0)]) ⟨hx, hb, hml, hown, hts⟩ (by have h9 := (mc_isMask l D bd cI cT cJ X S mk); rw [hm0] at h9; exact h9) (va_cwS 1 hts gX3_await_X3_isMask rfl rfl rfl (by decide +kernel) ⟨Nat.le_of_ble_eq_true rfl, Nat.le_of_ble_eq_true rfl⟩) hK hP hD hS hA rfl hl.1 rfl (Nat.le_of_ble_eq_true rfl) dX3_await_5 ⟨Nat.le_of_ble_eq_true rfl, Nat.le_of_ble_eq_true rfl⟩ (fun H locs hP hD hS => ?_)
  refine W.eq (g2 := F0 m 8 ls [.int 1, .int (nI a), .int (nI t), .ref (bd 0)]) rfl ?_
  refine lv_if_eq (tgt := 23) hx hb dX3_await_8 (by decide) (fun c => absurd c (by decide)) (fun _ => ?_)
  refine lv_iload hx hb dX3_await_11 (lv_at hl 5 rfl) ?_
  refine fk_callS (As := [.int to]) (rest := [.int (nI a), .int (nI t), .ref (bd 0)]) ⟨hx, hb, hml, hown, hts⟩ (by have h9 := (mc_isTimeout l D bd cI cT cJ X S to); rw [hm1] at h9; exact h9) (va_cwS 1 hts gX3_await_X3_isTimeout rfl rfl rfl (by decide +kernel) ⟨Nat.le_of_ble_eq_true rfl, Nat.le_of_ble_eq_true rfl⟩) hK hP hD hS hA rfl hl.1 rfl (Nat.le_of_ble_eq_true rfl) dX3_await_13 ⟨Nat.le_of_ble_eq_true rfl, Nat.le_of_ble_eq_true rfl⟩ (fun H locs hP hD hS => ?_)
  refine W.eq (g2 := F0 m 16 ls [.int 1, .int (nI a), .int (nI t), .ref (bd 0)]) rfl ?_
  refine lv_if_eq (tgt := 23) hx hb dX3_await_16 (by decide) (fun c => absurd c (by decide)) (fun _ => ?_)
  refine lv_iconst (v := 1) hx hb dX3_await_19 (by decide) ?_
  refine lv_goto (tgt := 24) hx hb dX3_await_20 (by decide) ?_
  refine lv_iconst (v := 3) hx hb dX3_await_24 (by decide) ?_
  refine fk_callV (As := [.int (nI t), .int (nI a), .int 1, .int 3]) (rest := []) ⟨hx, hb, hml, hown, hts⟩ (mc_ar_ok l D bd cI cT cJ X S (nI t) (nI a) true 3 (mm_code_ok ht ha hr0)) (cwV 4 hts gX3_await_X3_asksRunning rfl rfl rfl (by decide +kernel) ⟨Nat.le_of_ble_eq_true rfl, Nat.le_of_ble_eq_true rfl⟩) (fk_rvM hK hP) hK hP hD hS hA rfl hl.1 rfl (Nat.le_of_ble_eq_true rfl) dX3_await_25 ⟨Nat.le_of_ble_eq_true rfl, Nat.le_of_ble_eq_true rfl⟩ (fun H locs hP hD hS => ?_)
  refine W.eq (g2 := F0 m 28 ls [.int 1]) rfl ?_
  refine lv_if_eq (tgt := 41) hx hb dX3_await_28 (by decide) (fun c => absurd c (by decide)) (fun _ => ?_)
  refine lv_aload_n hx hb dX3_await_31 rfl (lv_at hl 0 rfl) ?_
  refine fk_getM hx hb hts hiX3 hown hK hP 0 (by decide) (v := .ref (bd 1)) rfl (List.mem_of_getElem? (i := 1) rfl) rfl dX3_await_32 ?_
  refine lv_iload_n hx hb dX3_await_35 rfl (lv_at hl 2 rfl) ?_
  refine fk_ldN hx hb hK hP 0 0 16 rfl (by decide) rfl rfl (vp_in_nI (show a < 16 from ha) (by decide)) dX3_await_36 ?_
  refine W.eq (g2 := F0 m 37 ls [.int (S 0 a)]) (by simp [fk_up, mm_set, nI_clamp (n := a) (by omega)]) ?_
  refine lv_iload_n hx hb dX3_await_37 rfl (lv_at hl 3 rfl) ?_
  refine lv_icmp_eq (tgt := 43) hx hb dX3_await_38 (by decide) (fun c_4 => ?_) (fun c_4 => ?_)
  · refine lv_aload_n hx hb dX3_await_43 rfl (lv_at hl 0 rfl) ?_
    refine lv_iload_n hx hb dX3_await_44 rfl (lv_at hl 1 rfl) ?_
    refine lv_iload_n hx hb dX3_await_45 rfl (lv_at hl 2 rfl) ?_
    refine lv_iconst (v := 1) hx hb dX3_await_46 (by decide) ?_
    refine lv_iload hx hb dX3_await_47 (lv_at hl 4 rfl) ?_
    refine lv_iload hx hb dX3_await_49 (lv_at hl 5 rfl) ?_
    refine fk_callV (As := [.int (nI t), .int (nI a), .int 1, .int mk, .int to]) (rest := []) ⟨hx, hb, hml, hown, hts⟩ (mc_waits l D bd cI cT cJ X (fk_up S 12 4 0) t (nI a) 1 mk to ht) (cwV 5 hts gX3_await_X3_waits rfl rfl rfl (by decide +kernel) ⟨Nat.le_of_ble_eq_true rfl, Nat.le_of_ble_eq_true rfl⟩) (fk_rvM hK hP) hK hP hD hS hA rfl hl.1 rfl (Nat.le_of_ble_eq_true rfl) dX3_await_51 ⟨Nat.le_of_ble_eq_true rfl, Nat.le_of_ble_eq_true rfl⟩ (fun H locs hP hD hS => ?_)
    refine W.eq (g2 := F0 m 54 ls []) rfl ?_
    refine lv_iconst (v := 1) hx hb dX3_await_54 (by decide) ?_
    exact fk_zret hx hb hr hlocks hP hK hD hS (congrArg (fun z => fk_mW bd cI z ++ X) (by have h9 : S 0 a = x := c_4; simp [h9, mm_set])) rfl (by have h9 : S 0 a = x := c_4; simp [fk_b, h9]) dX3_await_55
  · refine lv_iconst (v := 0) hx hb dX3_await_41 (by decide) ?_
    exact fk_zret hx hb hr hlocks hP hK hD hS (congrArg (fun z => fk_mW bd cI z ++ X) (by have h9 : ¬ S 0 a = x := c_4; simp [h9, mm_set])) rfl (by have h9 : ¬ S 0 a = x := c_4; simp [fk_b, h9]) dX3_await_42

set_option maxHeartbeats 4000000 in
set_option maxRecDepth 100000 in
theorem mn_await (l : Launch) (D : va_G) (bd : Nat → Nat) (cI cT cJ : ClassId) (X : va_W) (S : fk_S) (th av : Int32) (x mk to : Int32) (v9 : Int32) (h : mm_code S th av (mm_msk mk && mm_tmo to) 3 = v9) (hv9 : ¬ v9 = 0) : fk_C l D (fk_ty cI cT cJ) yX3_await wsX3_await rmX3_await [.ref (bd 0), .int th, .int av, .int x, .int mk, .int to] (fk_mW bd cI S ++ X) (some (.int 0)) (fk_mW bd cI (mm_set S v9) ++ X) := by
  refine fk_C_of (cc := cX3_await) (maxL := 6) (ret := (some .boolean)) (own := RX3) (by decide) rfl rfl (Nat.le_of_ble_eq_true rfl) ?_
  intro p e s m below meth c A ls hx hb hr hlocks hml hts hown hA hP hK hD hl
  have hS : va_S A s.heap s.heap [] := va_S.rf
  have hl : lv_has ls 6 [(0, .ref (bd 0)), (1, .int th), (2, .int av), (3, .int x), (4, .int mk), (5, .int to)] := hl
  refine lv_aload_n hx hb dX3_await_0 rfl (lv_at hl 0 rfl) ?_
  refine lv_iload_n hx hb dX3_await_1 rfl (lv_at hl 1 rfl) ?_
  refine lv_iload_n hx hb dX3_await_2 rfl (lv_at hl 2 rfl) ?_
  refine lv_iload hx hb dX3_await_3 (lv_at hl 4 rfl) ?_
  refine fk_callS (As := [.int mk]) (rest := [.int av, .int th, .ref (bd 0)]) ⟨hx, hb, hml, hown, hts⟩ (mc_isMask l D bd cI cT cJ X S mk) (va_cwS 1 hts gX3_await_X3_isMask rfl rfl rfl (by decide +kernel) ⟨Nat.le_of_ble_eq_true rfl, Nat.le_of_ble_eq_true rfl⟩) hK hP hD hS hA rfl hl.1 rfl (Nat.le_of_ble_eq_true rfl) dX3_await_5 ⟨Nat.le_of_ble_eq_true rfl, Nat.le_of_ble_eq_true rfl⟩ (fun H locs hP hD hS => ?_)
  cases b_1 : mm_msk mk with
  | true =>
    refine W.eq (g2 := F0 m 8 ls [.int 1, .int av, .int th, .ref (bd 0)]) (by first | rfl | (rw [b_1]; rfl)) ?_
    refine lv_if_eq (tgt := 23) hx hb dX3_await_8 (by decide) (fun c => absurd c (by decide)) (fun _ => ?_)
    refine lv_iload hx hb dX3_await_11 (lv_at hl 5 rfl) ?_
    refine fk_callS (As := [.int to]) (rest := [.int av, .int th, .ref (bd 0)]) ⟨hx, hb, hml, hown, hts⟩ (mc_isTimeout l D bd cI cT cJ X S to) (va_cwS 1 hts gX3_await_X3_isTimeout rfl rfl rfl (by decide +kernel) ⟨Nat.le_of_ble_eq_true rfl, Nat.le_of_ble_eq_true rfl⟩) hK hP hD hS hA rfl hl.1 rfl (Nat.le_of_ble_eq_true rfl) dX3_await_13 ⟨Nat.le_of_ble_eq_true rfl, Nat.le_of_ble_eq_true rfl⟩ (fun H locs hP hD hS => ?_)
    cases b_3 : mm_tmo to with
    | true =>
      refine W.eq (g2 := F0 m 16 ls [.int 1, .int av, .int th, .ref (bd 0)]) (by first | rfl | (rw [b_3]; rfl)) ?_
      refine lv_if_eq (tgt := 23) hx hb dX3_await_16 (by decide) (fun c => absurd c (by decide)) (fun _ => ?_)
      refine lv_iconst (v := 1) hx hb dX3_await_19 (by decide) ?_
      refine lv_goto (tgt := 24) hx hb dX3_await_20 (by decide) ?_
      refine lv_iconst (v := 3) hx hb dX3_await_24 (by decide) ?_
      refine fk_callV (As := [.int th, .int av, .int 1, .int 3]) (rest := []) ⟨hx, hb, hml, hown, hts⟩ (mc_ar_no l D bd cI cT cJ X S th av true 3 v9 (by simpa [b_1, b_3] using h) hv9) (cwV 4 hts gX3_await_X3_asksRunning rfl rfl rfl (by decide +kernel) ⟨Nat.le_of_ble_eq_true rfl, Nat.le_of_ble_eq_true rfl⟩) (fk_rvM hK hP) hK hP hD hS hA rfl hl.1 rfl (Nat.le_of_ble_eq_true rfl) dX3_await_25 ⟨Nat.le_of_ble_eq_true rfl, Nat.le_of_ble_eq_true rfl⟩ (fun H locs hP hD hS => ?_)
      refine W.eq (g2 := F0 m 28 ls [.int 0]) rfl ?_
      refine lv_if_eq (tgt := 41) hx hb dX3_await_28 (by decide) (fun _ => ?_) (fun c => absurd c (by decide))
      refine lv_iconst (v := 0) hx hb dX3_await_41 (by decide) ?_
      exact fk_zret hx hb hr hlocks hP hK hD hS (congrArg (fun z => fk_mW bd cI z ++ X) (by rfl)) rfl (by rfl) dX3_await_42
    | false =>
      refine W.eq (g2 := F0 m 16 ls [.int 0, .int av, .int th, .ref (bd 0)]) (by first | rfl | (rw [b_3]; rfl)) ?_
      refine lv_if_eq (tgt := 23) hx hb dX3_await_16 (by decide) (fun _ => ?_) (fun c => absurd c (by decide))
      refine lv_iconst (v := 0) hx hb dX3_await_23 (by decide) ?_
      refine lv_iconst (v := 3) hx hb dX3_await_24 (by decide) ?_
      refine fk_callV (As := [.int th, .int av, .int 0, .int 3]) (rest := []) ⟨hx, hb, hml, hown, hts⟩ (mc_ar_no l D bd cI cT cJ X S th av false 3 v9 (by simpa [b_1, b_3] using h) hv9) (cwV 4 hts gX3_await_X3_asksRunning rfl rfl rfl (by decide +kernel) ⟨Nat.le_of_ble_eq_true rfl, Nat.le_of_ble_eq_true rfl⟩) (fk_rvM hK hP) hK hP hD hS hA rfl hl.1 rfl (Nat.le_of_ble_eq_true rfl) dX3_await_25 ⟨Nat.le_of_ble_eq_true rfl, Nat.le_of_ble_eq_true rfl⟩ (fun H locs hP hD hS => ?_)
      refine W.eq (g2 := F0 m 28 ls [.int 0]) rfl ?_
      refine lv_if_eq (tgt := 41) hx hb dX3_await_28 (by decide) (fun _ => ?_) (fun c => absurd c (by decide))
      refine lv_iconst (v := 0) hx hb dX3_await_41 (by decide) ?_
      exact fk_zret hx hb hr hlocks hP hK hD hS (congrArg (fun z => fk_mW bd cI z ++ X) (by rfl)) rfl (by rfl) dX3_await_42
  | false =>
    refine W.eq (g2 := F0 m 8 ls [.int 0, .int av, .int th, .ref (bd 0)]) (by first | rfl | (rw [b_1]; rfl)) ?_
    refine lv_if_eq (tgt := 23) hx hb dX3_await_8 (by decide) (fun _ => ?_) (fun c => absurd c (by decide))
    refine lv_iconst (v := 0) hx hb dX3_await_23 (by decide) ?_
    refine lv_iconst (v := 3) hx hb dX3_await_24 (by decide) ?_
    refine fk_callV (As := [.int th, .int av, .int 0, .int 3]) (rest := []) ⟨hx, hb, hml, hown, hts⟩ (mc_ar_no l D bd cI cT cJ X S th av false 3 v9 (by simpa [b_1] using h) hv9) (cwV 4 hts gX3_await_X3_asksRunning rfl rfl rfl (by decide +kernel) ⟨Nat.le_of_ble_eq_true rfl, Nat.le_of_ble_eq_true rfl⟩) (fk_rvM hK hP) hK hP hD hS hA rfl hl.1 rfl (Nat.le_of_ble_eq_true rfl) dX3_await_25 ⟨Nat.le_of_ble_eq_true rfl, Nat.le_of_ble_eq_true rfl⟩ (fun H locs hP hD hS => ?_)
    refine W.eq (g2 := F0 m 28 ls [.int 0]) rfl ?_
    refine lv_if_eq (tgt := 41) hx hb dX3_await_28 (by decide) (fun _ => ?_) (fun c => absurd c (by decide))
    refine lv_iconst (v := 0) hx hb dX3_await_41 (by decide) ?_
    exact fk_zret hx hb hr hlocks hP hK hD hS (congrArg (fun z => fk_mW bd cI z ++ X) (by rfl)) rfl (by rfl) dX3_await_42

def mm_rw (mo mk : Int32) : Bool := decide (0 < mo) && decide (mo < 9) && mm_msk mk

abbrev rmX3_wake : Room := { frames := 6, cells := 0, slots := 0, locals := 138 }
set_option maxHeartbeats 4000000 in
set_option maxRecDepth 100000 in
theorem mc_wake (l : Launch) (D : va_G) (bd : Nat → Nat) (cI cT cJ : ClassId) (X : va_W) (S : fk_S) (t : Nat) (ht : t < 8) (a : Nat) (ha : a < 16) (k : Nat) (hk : k ≤ 8) (mk : Int32) (hr0 : S 1 t = 0) (hk1 : 1 ≤ k) (hm0 : mm_msk mk = true) : fk_C l D (fk_ty cI cT cJ) yX3_wake wsX3_wake rmX3_wake [.ref (bd 0), .int (nI t), .int (nI a), .int (nI k), .int mk] (fk_mW bd cI S ++ X) (some (.int (nI (mm_wake (nI a) mk k (mm_set S 0)).1))) (fk_mW bd cI (mm_wake (nI a) mk k (mm_set S 0)).2 ++ X) := by
  refine fk_C_of (cc := cX3_wake) (maxL := 5) (ret := (some .int)) (own := RX3) (by decide) rfl rfl (Nat.le_of_ble_eq_true rfl) ?_
  intro p e s m below meth c A ls hx hb hr hlocks hml hts hown hA hP hK hD hl
  have hS : va_S A s.heap s.heap [] := va_S.rf
  have hl : lv_has ls 5 [(0, .ref (bd 0)), (1, .int (nI t)), (2, .int (nI a)), (3, .int (nI k)), (4, .int mk)] := hl
  refine lv_aload_n hx hb dX3_wake_0 rfl (lv_at hl 0 rfl) ?_
  refine lv_iload_n hx hb dX3_wake_1 rfl (lv_at hl 1 rfl) ?_
  refine lv_iload_n hx hb dX3_wake_2 rfl (lv_at hl 2 rfl) ?_
  refine lv_iload_n hx hb dX3_wake_3 rfl (lv_at hl 3 rfl) ?_
  refine lv_if_le (tgt := 25) hx hb dX3_wake_4 (by decide) (fun c_1 => absurd c_1 (nI_nle (n := k) (by omega) (by omega))) (fun c_1 => ?_)
  refine lv_iload_n hx hb dX3_wake_7 rfl (lv_at hl 3 rfl) ?_
  refine lv_bipush (v := 9) hx hb dX3_wake_8 (by decide) ?_
  refine lv_icmp_ge (tgt := 25) hx hb dX3_wake_10 (by decide) (fun c_2 => absurd c_2 (nI_ge (a := k) (b := 9) (by omega) (by decide))) (fun c_2 => ?_)
  refine lv_iload hx hb dX3_wake_13 (lv_at hl 4 rfl) ?_
  refine fk_callS (As := [.int mk]) (rest := [.int (nI a), .int (nI t), .ref (bd 0)]) ⟨hx, hb, hml, hown, hts⟩ (by have h9 := (mc_isMask l D bd cI cT cJ X S mk); rw [hm0] at h9; exact h9) (va_cwS 1 hts gX3_wake_X3_isMask rfl rfl rfl (by decide +kernel) ⟨Nat.le_of_ble_eq_true rfl, Nat.le_of_ble_eq_true rfl⟩) hK hP hD hS hA rfl hl.1 rfl (Nat.le_of_ble_eq_true rfl) dX3_wake_15 ⟨Nat.le_of_ble_eq_true rfl, Nat.le_of_ble_eq_true rfl⟩ (fun H locs hP hD hS => ?_)
  refine W.eq (g2 := F0 m 18 ls [.int 1, .int (nI a), .int (nI t), .ref (bd 0)]) rfl ?_
  refine lv_if_eq (tgt := 25) hx hb dX3_wake_18 (by decide) (fun c => absurd c (by decide)) (fun _ => ?_)
  refine lv_iconst (v := 1) hx hb dX3_wake_21 (by decide) ?_
  refine lv_goto (tgt := 26) hx hb dX3_wake_22 (by decide) ?_
  refine lv_iconst (v := 3) hx hb dX3_wake_26 (by decide) ?_
  refine fk_callV (As := [.int (nI t), .int (nI a), .int 1, .int 3]) (rest := []) ⟨hx, hb, hml, hown, hts⟩ (mc_ar_ok l D bd cI cT cJ X S (nI t) (nI a) true 3 (mm_code_ok ht ha hr0)) (cwV 4 hts gX3_wake_X3_asksRunning rfl rfl rfl (by decide +kernel) ⟨Nat.le_of_ble_eq_true rfl, Nat.le_of_ble_eq_true rfl⟩) (fk_rvM hK hP) hK hP hD hS hA rfl hl.1 rfl (Nat.le_of_ble_eq_true rfl) dX3_wake_27 ⟨Nat.le_of_ble_eq_true rfl, Nat.le_of_ble_eq_true rfl⟩ (fun H locs hP hD hS => ?_)
  refine W.eq (g2 := F0 m 30 ls [.int 1]) rfl ?_
  refine lv_if_eq (tgt := 44) hx hb dX3_wake_30 (by decide) (fun c => absurd c (by decide)) (fun _ => ?_)
  refine lv_aload_n hx hb dX3_wake_33 rfl (lv_at hl 0 rfl) ?_
  refine lv_iload_n hx hb dX3_wake_34 rfl (lv_at hl 2 rfl) ?_
  refine lv_iload_n hx hb dX3_wake_35 rfl (lv_at hl 3 rfl) ?_
  refine lv_iload hx hb dX3_wake_36 (lv_at hl 4 rfl) ?_
  refine fk_callV (As := [.int (nI a), .int (nI k), .int mk]) (rest := []) ⟨hx, hb, hml, hown, hts⟩ (mc_wakes l D bd cI cT cJ X (fk_up S 12 4 0) (nI a) mk k (by omega)) (cwV 3 hts gX3_wake_X3_wakes rfl rfl rfl (by decide +kernel) ⟨Nat.le_of_ble_eq_true rfl, Nat.le_of_ble_eq_true rfl⟩) (fk_rvM hK hP) hK hP hD hS hA rfl hl.1 rfl (Nat.le_of_ble_eq_true rfl) dX3_wake_38 ⟨Nat.le_of_ble_eq_true rfl, Nat.le_of_ble_eq_true rfl⟩ (fun H locs hP hD hS => ?_)
  refine W.eq (g2 := F0 m 41 ls [.int (nI ((mm_wake (nI a) mk k (fk_up S 12 4 0)).1))]) rfl ?_
  refine lv_goto (tgt := 45) hx hb dX3_wake_41 (by decide) ?_
  exact fk_iret hx hb hr hlocks hP hK hD hS (congrArg (fun z => fk_mW bd cI z ++ X) (by rfl)) (by rfl) dX3_wake_45

set_option maxHeartbeats 4000000 in
set_option maxRecDepth 100000 in
theorem mn_wake (l : Launch) (D : va_G) (bd : Nat → Nat) (cI cT cJ : ClassId) (X : va_W) (S : fk_S) (th av mo mk : Int32) (v9 : Int32) (h : mm_code S th av (mm_rw mo mk) 3 = v9) (hv9 : ¬ v9 = 0) : fk_C l D (fk_ty cI cT cJ) yX3_wake wsX3_wake rmX3_wake [.ref (bd 0), .int th, .int av, .int mo, .int mk] (fk_mW bd cI S ++ X) (some (.int 0)) (fk_mW bd cI (mm_set S v9) ++ X) := by
  refine fk_C_of (cc := cX3_wake) (maxL := 5) (ret := (some .int)) (own := RX3) (by decide) rfl rfl (Nat.le_of_ble_eq_true rfl) ?_
  intro p e s m below meth c A ls hx hb hr hlocks hml hts hown hA hP hK hD hl
  have hS : va_S A s.heap s.heap [] := va_S.rf
  have hl : lv_has ls 5 [(0, .ref (bd 0)), (1, .int th), (2, .int av), (3, .int mo), (4, .int mk)] := hl
  refine lv_aload_n hx hb dX3_wake_0 rfl (lv_at hl 0 rfl) ?_
  refine lv_iload_n hx hb dX3_wake_1 rfl (lv_at hl 1 rfl) ?_
  refine lv_iload_n hx hb dX3_wake_2 rfl (lv_at hl 2 rfl) ?_
  refine lv_iload_n hx hb dX3_wake_3 rfl (lv_at hl 3 rfl) ?_
  refine lv_if_le (tgt := 25) hx hb dX3_wake_4 (by decide) (fun c_1 => ?_) (fun c_1 => ?_)
  · refine lv_iconst (v := 0) hx hb dX3_wake_25 (by decide) ?_
    refine lv_iconst (v := 3) hx hb dX3_wake_26 (by decide) ?_
    refine fk_callV (As := [.int th, .int av, .int 0, .int 3]) (rest := []) ⟨hx, hb, hml, hown, hts⟩ (mc_ar_no l D bd cI cT cJ X S th av false 3 v9 (by simpa [mm_rw, c_1, Int32.not_lt.mpr c_1] using h) hv9) (cwV 4 hts gX3_wake_X3_asksRunning rfl rfl rfl (by decide +kernel) ⟨Nat.le_of_ble_eq_true rfl, Nat.le_of_ble_eq_true rfl⟩) (fk_rvM hK hP) hK hP hD hS hA rfl hl.1 rfl (Nat.le_of_ble_eq_true rfl) dX3_wake_27 ⟨Nat.le_of_ble_eq_true rfl, Nat.le_of_ble_eq_true rfl⟩ (fun H locs hP hD hS => ?_)
    refine W.eq (g2 := F0 m 30 ls [.int 0]) rfl ?_
    refine lv_if_eq (tgt := 44) hx hb dX3_wake_30 (by decide) (fun _ => ?_) (fun c => absurd c (by decide))
    refine lv_iconst (v := 0) hx hb dX3_wake_44 (by decide) ?_
    exact fk_iret hx hb hr hlocks hP hK hD hS (congrArg (fun z => fk_mW bd cI z ++ X) (by rfl)) (by rfl) dX3_wake_45
  · refine lv_iload_n hx hb dX3_wake_7 rfl (lv_at hl 3 rfl) ?_
    refine lv_bipush (v := 9) hx hb dX3_wake_8 (by decide) ?_
    refine lv_icmp_ge (tgt := 25) hx hb dX3_wake_10 (by decide) (fun c_3 => ?_) (fun c_3 => ?_)
    · refine lv_iconst (v := 0) hx hb dX3_wake_25 (by decide) ?_
      refine lv_iconst (v := 3) hx hb dX3_wake_26 (by decide) ?_
      refine fk_callV (As := [.int th, .int av, .int 0, .int 3]) (rest := []) ⟨hx, hb, hml, hown, hts⟩ (mc_ar_no l D bd cI cT cJ X S th av false 3 v9 (by simpa [mm_rw, c_1, Int32.not_le.mp c_1, c_3, Int32.not_lt.mpr c_3] using h) hv9) (cwV 4 hts gX3_wake_X3_asksRunning rfl rfl rfl (by decide +kernel) ⟨Nat.le_of_ble_eq_true rfl, Nat.le_of_ble_eq_true rfl⟩) (fk_rvM hK hP) hK hP hD hS hA rfl hl.1 rfl (Nat.le_of_ble_eq_true rfl) dX3_wake_27 ⟨Nat.le_of_ble_eq_true rfl, Nat.le_of_ble_eq_true rfl⟩ (fun H locs hP hD hS => ?_)
      refine W.eq (g2 := F0 m 30 ls [.int 0]) rfl ?_
      refine lv_if_eq (tgt := 44) hx hb dX3_wake_30 (by decide) (fun _ => ?_) (fun c => absurd c (by decide))
      refine lv_iconst (v := 0) hx hb dX3_wake_44 (by decide) ?_
      exact fk_iret hx hb hr hlocks hP hK hD hS (congrArg (fun z => fk_mW bd cI z ++ X) (by rfl)) (by rfl) dX3_wake_45
    · refine lv_iload hx hb dX3_wake_13 (lv_at hl 4 rfl) ?_
      refine fk_callS (As := [.int mk]) (rest := [.int av, .int th, .ref (bd 0)]) ⟨hx, hb, hml, hown, hts⟩ (mc_isMask l D bd cI cT cJ X S mk) (va_cwS 1 hts gX3_wake_X3_isMask rfl rfl rfl (by decide +kernel) ⟨Nat.le_of_ble_eq_true rfl, Nat.le_of_ble_eq_true rfl⟩) hK hP hD hS hA rfl hl.1 rfl (Nat.le_of_ble_eq_true rfl) dX3_wake_15 ⟨Nat.le_of_ble_eq_true rfl, Nat.le_of_ble_eq_true rfl⟩ (fun H locs hP hD hS => ?_)
      cases b_5 : mm_msk mk with
      | true =>
        refine W.eq (g2 := F0 m 18 ls [.int 1, .int av, .int th, .ref (bd 0)]) (by first | rfl | (rw [b_5]; rfl)) ?_
        refine lv_if_eq (tgt := 25) hx hb dX3_wake_18 (by decide) (fun c => absurd c (by decide)) (fun _ => ?_)
        refine lv_iconst (v := 1) hx hb dX3_wake_21 (by decide) ?_
        refine lv_goto (tgt := 26) hx hb dX3_wake_22 (by decide) ?_
        refine lv_iconst (v := 3) hx hb dX3_wake_26 (by decide) ?_
        refine fk_callV (As := [.int th, .int av, .int 1, .int 3]) (rest := []) ⟨hx, hb, hml, hown, hts⟩ (mc_ar_no l D bd cI cT cJ X S th av true 3 v9 (by simpa [mm_rw, c_1, Int32.not_le.mp c_1, c_3, Int32.not_le.mp c_3, b_5] using h) hv9) (cwV 4 hts gX3_wake_X3_asksRunning rfl rfl rfl (by decide +kernel) ⟨Nat.le_of_ble_eq_true rfl, Nat.le_of_ble_eq_true rfl⟩) (fk_rvM hK hP) hK hP hD hS hA rfl hl.1 rfl (Nat.le_of_ble_eq_true rfl) dX3_wake_27 ⟨Nat.le_of_ble_eq_true rfl, Nat.le_of_ble_eq_true rfl⟩ (fun H locs hP hD hS => ?_)
        refine W.eq (g2 := F0 m 30 ls [.int 0]) rfl ?_
        refine lv_if_eq (tgt := 44) hx hb dX3_wake_30 (by decide) (fun _ => ?_) (fun c => absurd c (by decide))
        refine lv_iconst (v := 0) hx hb dX3_wake_44 (by decide) ?_
        exact fk_iret hx hb hr hlocks hP hK hD hS (congrArg (fun z => fk_mW bd cI z ++ X) (by rfl)) (by rfl) dX3_wake_45
      | false =>
        refine W.eq (g2 := F0 m 18 ls [.int 0, .int av, .int th, .ref (bd 0)]) (by first | rfl | (rw [b_5]; rfl)) ?_
        refine lv_if_eq (tgt := 25) hx hb dX3_wake_18 (by decide) (fun _ => ?_) (fun c => absurd c (by decide))
        refine lv_iconst (v := 0) hx hb dX3_wake_25 (by decide) ?_
        refine lv_iconst (v := 3) hx hb dX3_wake_26 (by decide) ?_
        refine fk_callV (As := [.int th, .int av, .int 0, .int 3]) (rest := []) ⟨hx, hb, hml, hown, hts⟩ (mc_ar_no l D bd cI cT cJ X S th av false 3 v9 (by simpa [mm_rw, c_1, Int32.not_le.mp c_1, c_3, Int32.not_le.mp c_3, b_5] using h) hv9) (cwV 4 hts gX3_wake_X3_asksRunning rfl rfl rfl (by decide +kernel) ⟨Nat.le_of_ble_eq_true rfl, Nat.le_of_ble_eq_true rfl⟩) (fk_rvM hK hP) hK hP hD hS hA rfl hl.1 rfl (Nat.le_of_ble_eq_true rfl) dX3_wake_27 ⟨Nat.le_of_ble_eq_true rfl, Nat.le_of_ble_eq_true rfl⟩ (fun H locs hP hD hS => ?_)
        refine W.eq (g2 := F0 m 30 ls [.int 0]) rfl ?_
        refine lv_if_eq (tgt := 44) hx hb dX3_wake_30 (by decide) (fun _ => ?_) (fun c => absurd c (by decide))
        refine lv_iconst (v := 0) hx hb dX3_wake_44 (by decide) ?_
        exact fk_iret hx hb hr hlocks hP hK hD hS (congrArg (fun z => fk_mW bd cI z ++ X) (by rfl)) (by rfl) dX3_wake_45
