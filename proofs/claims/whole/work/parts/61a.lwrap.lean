theorem fk_v01 : vp_in (0 : Int32) 1 := vp_in_nI (n := 0) (N := 1) (by decide) (by decide)
/-- a truth as a long -/
def fk_lb (b : Bool) : Int64 := match b with
  | true => 1
  | false => 0

set_option maxHeartbeats 4000000 in
set_option maxRecDepth 100000 in
theorem Lc_store (l : Launch) (D : va_G) (ad : Nat → Nat) (cI cT cJ : ClassId) (X : va_W) (S : fk_S) (o : Nat) (f : Nat → Int64) (p0 p1 p2 : Int32) (S1 : fk_S) (v : Int32) (hC : ∀ X, fk_C l D (fk_ty cI cT cJ) yX2_store wsX2_store rmX2_store [.ref (ad 0), .int p0, .int p1, .int p2] (fk_kW ad cI cT S ++ X) (some (.int v)) (fk_kW ad cI cT S1 ++ X)) : fk_L l D (fk_ty cI cT cJ) yL_store wsL_store rm_L [.ref (ad 0), .int p0, .int p1, .int p2, .ref o] (fk_kW ad cI cT S ++ (o, fk_ou cJ f) :: X) (some (.int 0)) (fk_kW ad cI cT S1 ++ (o, fk_ou cJ (vp_updL f 0 v.toInt64)) :: X) := by
  refine fk_L_of (cc := cL_store) (maxL := 6) (ret := some .int) (own := RL) (hh := [(0, 12, 15, 13), (0, 12, 19, 15)]) (by decide) rfl rfl (Nat.le_of_ble_eq_true rfl) ?_
  intro p e s m below meth c A ls hx hb hr hlocks hml hts hown htab hA hP hK hD hZ hN hl
  have hS : va_S A s.heap s.heap [] := va_S.rf
  have hl : lv_has ls 6 [(0, .ref (ad 0)), (1, .int p0), (2, .int p1), (3, .int p2), (4, .ref o)] := hl
  refine lv_aload hx hb dL_store_0 (lv_at hl 4 rfl) ?_
  refine lv_iconst (v := 0) hx hb dL_store_2 (by decide) ?_
  refine lv_aload_n hx hb dL_store_3 rfl (lv_at hl 0 rfl) ?_
  refine lv_iload_n hx hb dL_store_4 rfl (lv_at hl 1 rfl) ?_
  refine lv_iload_n hx hb dL_store_5 rfl (lv_at hl 2 rfl) ?_
  refine lv_iload_n hx hb dL_store_6 rfl (lv_at hl 3 rfl) ?_
  refine fk_callV (As := [.int p0, .int p1, .int p2]) (rest := [.int 0, .ref o]) ⟨hx, hb, hml, hown, hts⟩ (hC _) (cwV 3 hts gL_store_X2_store rfl rfl rfl (by decide +kernel) ⟨Nat.le_of_ble_eq_true rfl, Nat.le_of_ble_eq_true rfl⟩) (fk_rvK hK hP) hK hP hD hS hA rfl hl.1 rfl (Nat.le_of_ble_eq_true rfl) dL_store_7 ⟨Nat.le_of_ble_eq_true rfl, Nat.le_of_ble_eq_true rfl⟩ (fun H locs hP hD hS => ?_)
  refine W.eq (g2 := F0 m 10 ls [.int v, .int 0, .ref o]) rfl ?_
  refine lv_i2l hx hb dL_store_10 rfl ?_
  refine va_last hx hb hK hP hD hS 27 2 fk_at27 rfl fk_v01 dL_store_11 (fun H locs hP hD hS => ?_)
  have hP : va_P D vwCl (fk_kW ad cI cT S1 ++ (o, fk_ou cJ (vp_updL f 0 v.toInt64)) :: X) H := by rw [fk_set27] at hP; exact hP
  have hD : va_D A (fk_kW ad cI cT S1 ++ (o, fk_ou cJ (vp_updL f 0 v.toInt64)) :: X) := by rw [fk_set27] at hD; exact hD
  refine lv_goto (tgt := 23) hx hb dL_store_12 (by decide) ?_
  refine lv_iconst (v := 0) hx hb dL_store_23 (by decide) ?_
  exact fk_iretL (Nat.zero_le _) (Nat.zero_le _) hx hb hr hlocks hP hK hD hS rfl rfl dL_store_24

set_option maxHeartbeats 4000000 in
set_option maxRecDepth 100000 in
theorem Lx_store_IO (l : Launch) (D : va_G) (ad : Nat → Nat) (cI cT cJ : ClassId) (X : va_W) (S : fk_S) (o : Nat) (f : Nat → Int64) (p0 p1 p2 : Int32) (hX : ∀ X, fk_X l D (fk_ty cI cT cJ) yX2_store wsX2_store rx_pub [.ref (ad 0), .int p0, .int p1, .int p2] (fk_kW ad cI cT S ++ X) "java/lang/IndexOutOfBoundsException") : fk_L l D (fk_ty cI cT cJ) yL_store wsL_store rm_L [.ref (ad 0), .int p0, .int p1, .int p2, .ref o] (fk_kW ad cI cT S ++ (o, fk_ou cJ f) :: X) (some (.int 1)) (fk_kW ad cI cT S ++ (o, fk_ou cJ f) :: X) := by
  refine fk_L_of (cc := cL_store) (maxL := 6) (ret := some .int) (own := RL) (hh := [(0, 12, 15, 13), (0, 12, 19, 15)]) (by decide) rfl rfl (Nat.le_of_ble_eq_true rfl) ?_
  intro p e s m below meth c A ls hx hb hr hlocks hml hts hown htab hA hP hK hD hZ hN hl
  have hS : va_S A s.heap s.heap [] := va_S.rf
  have hl : lv_has ls 6 [(0, .ref (ad 0)), (1, .int p0), (2, .int p1), (3, .int p2), (4, .ref o)] := hl
  refine lv_aload hx hb dL_store_0 (lv_at hl 4 rfl) ?_
  refine lv_iconst (v := 0) hx hb dL_store_2 (by decide) ?_
  refine lv_aload_n hx hb dL_store_3 rfl (lv_at hl 0 rfl) ?_
  refine lv_iload_n hx hb dL_store_4 rfl (lv_at hl 1 rfl) ?_
  refine lv_iload_n hx hb dL_store_5 rfl (lv_at hl 2 rfl) ?_
  refine lv_iload_n hx hb dL_store_6 rfl (lv_at hl 3 rfl) ?_
  refine fk_xcallV (As := [.int p0, .int p1, .int p2]) (rest := [.int 0, .ref o]) ⟨hx, hb, hml, hown, hts⟩ (hX _) (cwV 3 hts gL_store_X2_store rfl rfl rfl (by decide +kernel) ⟨Nat.le_of_ble_eq_true rfl, Nat.le_of_ble_eq_true rfl⟩) (fk_rvK hK hP) hK hP hD hS hA hZ rfl hl.1 rfl (Nat.le_of_ble_eq_true rfl) dL_store_7 ⟨Nat.le_of_ble_eq_true rfl, Nat.le_of_ble_eq_true rfl⟩ (fk_caught (x := (0, 12, 15, 13)) [] [(0, 12, 19, 15)] hown htab rfl rfl (fun _ h9 => absurd h9 List.not_mem_nil) (by decide) (by decide) (hts _ (List.mem_of_getElem? (i := 1) rfl)) hZ fk_cast1 (fun q9 H locs hP hS => ?_))
  refine lv_astore (lv' := [(5, .ref q9), (0, .ref (ad 0)), (1, .int p0), (2, .int p1), (3, .int p2), (4, .ref o)]) hx hb dL_store_15 hl (by decide) rfl (fun ls hl => ?_)
  refine lv_iconst (v := 1) hx hb dL_store_17 (by decide) ?_
  exact fk_iretL (Nat.le_of_ble_eq_true rfl) (Nat.le_of_ble_eq_true rfl) hx hb hr hlocks hP hK hD hS rfl rfl dL_store_18

set_option maxHeartbeats 4000000 in
set_option maxRecDepth 100000 in
theorem Lx_store_IS (l : Launch) (D : va_G) (ad : Nat → Nat) (cI cT cJ : ClassId) (X : va_W) (S : fk_S) (o : Nat) (f : Nat → Int64) (p0 p1 p2 : Int32) (hX : ∀ X, fk_X l D (fk_ty cI cT cJ) yX2_store wsX2_store rx_pub [.ref (ad 0), .int p0, .int p1, .int p2] (fk_kW ad cI cT S ++ X) "java/lang/IllegalStateException") : fk_L l D (fk_ty cI cT cJ) yL_store wsL_store rm_L [.ref (ad 0), .int p0, .int p1, .int p2, .ref o] (fk_kW ad cI cT S ++ (o, fk_ou cJ f) :: X) (some (.int 2)) (fk_kW ad cI cT S ++ (o, fk_ou cJ f) :: X) := by
  refine fk_L_of (cc := cL_store) (maxL := 6) (ret := some .int) (own := RL) (hh := [(0, 12, 15, 13), (0, 12, 19, 15)]) (by decide) rfl rfl (Nat.le_of_ble_eq_true rfl) ?_
  intro p e s m below meth c A ls hx hb hr hlocks hml hts hown htab hA hP hK hD hZ hN hl
  have hS : va_S A s.heap s.heap [] := va_S.rf
  have hl : lv_has ls 6 [(0, .ref (ad 0)), (1, .int p0), (2, .int p1), (3, .int p2), (4, .ref o)] := hl
  refine lv_aload hx hb dL_store_0 (lv_at hl 4 rfl) ?_
  refine lv_iconst (v := 0) hx hb dL_store_2 (by decide) ?_
  refine lv_aload_n hx hb dL_store_3 rfl (lv_at hl 0 rfl) ?_
  refine lv_iload_n hx hb dL_store_4 rfl (lv_at hl 1 rfl) ?_
  refine lv_iload_n hx hb dL_store_5 rfl (lv_at hl 2 rfl) ?_
  refine lv_iload_n hx hb dL_store_6 rfl (lv_at hl 3 rfl) ?_
  refine fk_xcallV (As := [.int p0, .int p1, .int p2]) (rest := [.int 0, .ref o]) ⟨hx, hb, hml, hown, hts⟩ (hX _) (cwV 3 hts gL_store_X2_store rfl rfl rfl (by decide +kernel) ⟨Nat.le_of_ble_eq_true rfl, Nat.le_of_ble_eq_true rfl⟩) (fk_rvK hK hP) hK hP hD hS hA hZ rfl hl.1 rfl (Nat.le_of_ble_eq_true rfl) dL_store_7 ⟨Nat.le_of_ble_eq_true rfl, Nat.le_of_ble_eq_true rfl⟩ (fk_caught (x := (0, 12, 19, 15)) [(0, 12, 15, 13)] [] hown htab rfl rfl (List.forall_mem_cons.mpr ⟨⟨by decide, _, hts _ (List.mem_of_getElem? (i := 1) rfl), hN.1⟩, (fun _ h9 => absurd h9 List.not_mem_nil)⟩) (by decide) (by decide) (hts _ (List.mem_of_getElem? (i := 2) rfl)) hZ fk_cast2 (fun q9 H locs hP hS => ?_))
  refine lv_astore (lv' := [(5, .ref q9), (0, .ref (ad 0)), (1, .int p0), (2, .int p1), (3, .int p2), (4, .ref o)]) hx hb dL_store_19 hl (by decide) rfl (fun ls hl => ?_)
  refine lv_iconst (v := 2) hx hb dL_store_21 (by decide) ?_
  exact fk_iretL (Nat.le_of_ble_eq_true rfl) (Nat.le_of_ble_eq_true rfl) hx hb hr hlocks hP hK hD hS rfl rfl dL_store_22

set_option maxHeartbeats 4000000 in
set_option maxRecDepth 100000 in
theorem Lc_compareAndSet (l : Launch) (D : va_G) (ad : Nat → Nat) (cI cT cJ : ClassId) (X : va_W) (S : fk_S) (o : Nat) (f : Nat → Int64) (p0 p1 p2 p3 : Int32) (S1 : fk_S) (v : Bool) (hC : ∀ X, fk_C l D (fk_ty cI cT cJ) yX2_compareAndSet wsX2_compareAndSet rmX2_compareAndSet [.ref (ad 0), .int p0, .int p1, .int p2, .int p3] (fk_kW ad cI cT S ++ X) (some (.int (fk_b v))) (fk_kW ad cI cT S1 ++ X)) : fk_L l D (fk_ty cI cT cJ) yL_compareAndSet wsL_compareAndSet rm_L [.ref (ad 0), .int p0, .int p1, .int p2, .int p3, .ref o] (fk_kW ad cI cT S ++ (o, fk_ou cJ f) :: X) (some (.int 0)) (fk_kW ad cI cT S1 ++ (o, fk_ou cJ (vp_updL f 0 (fk_lb v))) :: X) := by
  refine fk_L_of (cc := cL_compareAndSet) (maxL := 7) (ret := some .int) (own := RL) (hh := [(0, 21, 24, 13), (0, 21, 28, 15)]) (by decide) rfl rfl (Nat.le_of_ble_eq_true rfl) ?_
  intro p e s m below meth c A ls hx hb hr hlocks hml hts hown htab hA hP hK hD hZ hN hl
  have hS : va_S A s.heap s.heap [] := va_S.rf
  have hl : lv_has ls 7 [(0, .ref (ad 0)), (1, .int p0), (2, .int p1), (3, .int p2), (4, .int p3), (5, .ref o)] := hl
  refine lv_aload hx hb dL_compareAndSet_0 (lv_at hl 5 rfl) ?_
  refine lv_iconst (v := 0) hx hb dL_compareAndSet_2 (by decide) ?_
  refine lv_aload_n hx hb dL_compareAndSet_3 rfl (lv_at hl 0 rfl) ?_
  refine lv_iload_n hx hb dL_compareAndSet_4 rfl (lv_at hl 1 rfl) ?_
  refine lv_iload_n hx hb dL_compareAndSet_5 rfl (lv_at hl 2 rfl) ?_
  refine lv_iload_n hx hb dL_compareAndSet_6 rfl (lv_at hl 3 rfl) ?_
  refine lv_iload hx hb dL_compareAndSet_7 (lv_at hl 4 rfl) ?_
  refine fk_callV (As := [.int p0, .int p1, .int p2, .int p3]) (rest := [.int 0, .ref o]) ⟨hx, hb, hml, hown, hts⟩ (hC _) (cwV 4 hts gL_compareAndSet_X2_compareAndSet rfl rfl rfl (by decide +kernel) ⟨Nat.le_of_ble_eq_true rfl, Nat.le_of_ble_eq_true rfl⟩) (fk_rvK hK hP) hK hP hD hS hA rfl hl.1 rfl (Nat.le_of_ble_eq_true rfl) dL_compareAndSet_9 ⟨Nat.le_of_ble_eq_true rfl, Nat.le_of_ble_eq_true rfl⟩ (fun H locs hP hD hS => ?_)
  cases v with
  | true =>
    refine W.eq (g2 := F0 m 12 ls [.int 1, .int 0, .ref o]) rfl ?_
    refine lv_if_eq (tgt := 19) hx hb dL_compareAndSet_12 (by decide) (fun c => absurd c (by decide)) (fun _ => ?_)
    refine lv_lconst (v := 1) hx hb dL_compareAndSet_15 (by decide) ?_
    refine lv_goto (tgt := 20) hx hb dL_compareAndSet_16 (by decide) ?_
    refine va_last hx hb hK hP hD hS 27 2 fk_at27 rfl fk_v01 dL_compareAndSet_20 (fun H locs hP hD hS => ?_)
    have hP : va_P D vwCl (fk_kW ad cI cT S1 ++ (o, fk_ou cJ (vp_updL f 0 (fk_lb true))) :: X) H := by rw [fk_set27] at hP; exact hP
    have hD : va_D A (fk_kW ad cI cT S1 ++ (o, fk_ou cJ (vp_updL f 0 (fk_lb true))) :: X) := by rw [fk_set27] at hD; exact hD
    refine lv_goto (tgt := 32) hx hb dL_compareAndSet_21 (by decide) ?_
    refine lv_iconst (v := 0) hx hb dL_compareAndSet_32 (by decide) ?_
    exact fk_iretL (Nat.zero_le _) (Nat.zero_le _) hx hb hr hlocks hP hK hD hS rfl rfl dL_compareAndSet_33
  | false =>
    refine W.eq (g2 := F0 m 12 ls [.int 0, .int 0, .ref o]) rfl ?_
    refine lv_if_eq (tgt := 19) hx hb dL_compareAndSet_12 (by decide) (fun _ => ?_) (fun c => absurd c (by decide))
    refine lv_lconst (v := 0) hx hb dL_compareAndSet_19 (by decide) ?_
    refine va_last hx hb hK hP hD hS 27 2 fk_at27 rfl fk_v01 dL_compareAndSet_20 (fun H locs hP hD hS => ?_)
    have hP : va_P D vwCl (fk_kW ad cI cT S1 ++ (o, fk_ou cJ (vp_updL f 0 (fk_lb false))) :: X) H := by rw [fk_set27] at hP; exact hP
    have hD : va_D A (fk_kW ad cI cT S1 ++ (o, fk_ou cJ (vp_updL f 0 (fk_lb false))) :: X) := by rw [fk_set27] at hD; exact hD
    refine lv_goto (tgt := 32) hx hb dL_compareAndSet_21 (by decide) ?_
    refine lv_iconst (v := 0) hx hb dL_compareAndSet_32 (by decide) ?_
    exact fk_iretL (Nat.zero_le _) (Nat.zero_le _) hx hb hr hlocks hP hK hD hS rfl rfl dL_compareAndSet_33

set_option maxHeartbeats 4000000 in
set_option maxRecDepth 100000 in
theorem Lx_compareAndSet_IO (l : Launch) (D : va_G) (ad : Nat → Nat) (cI cT cJ : ClassId) (X : va_W) (S : fk_S) (o : Nat) (f : Nat → Int64) (p0 p1 p2 p3 : Int32) (hX : ∀ X, fk_X l D (fk_ty cI cT cJ) yX2_compareAndSet wsX2_compareAndSet rx_pub [.ref (ad 0), .int p0, .int p1, .int p2, .int p3] (fk_kW ad cI cT S ++ X) "java/lang/IndexOutOfBoundsException") : fk_L l D (fk_ty cI cT cJ) yL_compareAndSet wsL_compareAndSet rm_L [.ref (ad 0), .int p0, .int p1, .int p2, .int p3, .ref o] (fk_kW ad cI cT S ++ (o, fk_ou cJ f) :: X) (some (.int 1)) (fk_kW ad cI cT S ++ (o, fk_ou cJ f) :: X) := by
  refine fk_L_of (cc := cL_compareAndSet) (maxL := 7) (ret := some .int) (own := RL) (hh := [(0, 21, 24, 13), (0, 21, 28, 15)]) (by decide) rfl rfl (Nat.le_of_ble_eq_true rfl) ?_
  intro p e s m below meth c A ls hx hb hr hlocks hml hts hown htab hA hP hK hD hZ hN hl
  have hS : va_S A s.heap s.heap [] := va_S.rf
  have hl : lv_has ls 7 [(0, .ref (ad 0)), (1, .int p0), (2, .int p1), (3, .int p2), (4, .int p3), (5, .ref o)] := hl
  refine lv_aload hx hb dL_compareAndSet_0 (lv_at hl 5 rfl) ?_
  refine lv_iconst (v := 0) hx hb dL_compareAndSet_2 (by decide) ?_
  refine lv_aload_n hx hb dL_compareAndSet_3 rfl (lv_at hl 0 rfl) ?_
  refine lv_iload_n hx hb dL_compareAndSet_4 rfl (lv_at hl 1 rfl) ?_
  refine lv_iload_n hx hb dL_compareAndSet_5 rfl (lv_at hl 2 rfl) ?_
  refine lv_iload_n hx hb dL_compareAndSet_6 rfl (lv_at hl 3 rfl) ?_
  refine lv_iload hx hb dL_compareAndSet_7 (lv_at hl 4 rfl) ?_
  refine fk_xcallV (As := [.int p0, .int p1, .int p2, .int p3]) (rest := [.int 0, .ref o]) ⟨hx, hb, hml, hown, hts⟩ (hX _) (cwV 4 hts gL_compareAndSet_X2_compareAndSet rfl rfl rfl (by decide +kernel) ⟨Nat.le_of_ble_eq_true rfl, Nat.le_of_ble_eq_true rfl⟩) (fk_rvK hK hP) hK hP hD hS hA hZ rfl hl.1 rfl (Nat.le_of_ble_eq_true rfl) dL_compareAndSet_9 ⟨Nat.le_of_ble_eq_true rfl, Nat.le_of_ble_eq_true rfl⟩ (fk_caught (x := (0, 21, 24, 13)) [] [(0, 21, 28, 15)] hown htab rfl rfl (fun _ h9 => absurd h9 List.not_mem_nil) (by decide) (by decide) (hts _ (List.mem_of_getElem? (i := 1) rfl)) hZ fk_cast1 (fun q9 H locs hP hS => ?_))
  refine lv_astore (lv' := [(6, .ref q9), (0, .ref (ad 0)), (1, .int p0), (2, .int p1), (3, .int p2), (4, .int p3), (5, .ref o)]) hx hb dL_compareAndSet_24 hl (by decide) rfl (fun ls hl => ?_)
  refine lv_iconst (v := 1) hx hb dL_compareAndSet_26 (by decide) ?_
  exact fk_iretL (Nat.le_of_ble_eq_true rfl) (Nat.le_of_ble_eq_true rfl) hx hb hr hlocks hP hK hD hS rfl rfl dL_compareAndSet_27

set_option maxHeartbeats 4000000 in
set_option maxRecDepth 100000 in
theorem Lx_compareAndSet_IS (l : Launch) (D : va_G) (ad : Nat → Nat) (cI cT cJ : ClassId) (X : va_W) (S : fk_S) (o : Nat) (f : Nat → Int64) (p0 p1 p2 p3 : Int32) (hX : ∀ X, fk_X l D (fk_ty cI cT cJ) yX2_compareAndSet wsX2_compareAndSet rx_pub [.ref (ad 0), .int p0, .int p1, .int p2, .int p3] (fk_kW ad cI cT S ++ X) "java/lang/IllegalStateException") : fk_L l D (fk_ty cI cT cJ) yL_compareAndSet wsL_compareAndSet rm_L [.ref (ad 0), .int p0, .int p1, .int p2, .int p3, .ref o] (fk_kW ad cI cT S ++ (o, fk_ou cJ f) :: X) (some (.int 2)) (fk_kW ad cI cT S ++ (o, fk_ou cJ f) :: X) := by
  refine fk_L_of (cc := cL_compareAndSet) (maxL := 7) (ret := some .int) (own := RL) (hh := [(0, 21, 24, 13), (0, 21, 28, 15)]) (by decide) rfl rfl (Nat.le_of_ble_eq_true rfl) ?_
  intro p e s m below meth c A ls hx hb hr hlocks hml hts hown htab hA hP hK hD hZ hN hl
  have hS : va_S A s.heap s.heap [] := va_S.rf
  have hl : lv_has ls 7 [(0, .ref (ad 0)), (1, .int p0), (2, .int p1), (3, .int p2), (4, .int p3), (5, .ref o)] := hl
  refine lv_aload hx hb dL_compareAndSet_0 (lv_at hl 5 rfl) ?_
  refine lv_iconst (v := 0) hx hb dL_compareAndSet_2 (by decide) ?_
  refine lv_aload_n hx hb dL_compareAndSet_3 rfl (lv_at hl 0 rfl) ?_
  refine lv_iload_n hx hb dL_compareAndSet_4 rfl (lv_at hl 1 rfl) ?_
  refine lv_iload_n hx hb dL_compareAndSet_5 rfl (lv_at hl 2 rfl) ?_
  refine lv_iload_n hx hb dL_compareAndSet_6 rfl (lv_at hl 3 rfl) ?_
  refine lv_iload hx hb dL_compareAndSet_7 (lv_at hl 4 rfl) ?_
  refine fk_xcallV (As := [.int p0, .int p1, .int p2, .int p3]) (rest := [.int 0, .ref o]) ⟨hx, hb, hml, hown, hts⟩ (hX _) (cwV 4 hts gL_compareAndSet_X2_compareAndSet rfl rfl rfl (by decide +kernel) ⟨Nat.le_of_ble_eq_true rfl, Nat.le_of_ble_eq_true rfl⟩) (fk_rvK hK hP) hK hP hD hS hA hZ rfl hl.1 rfl (Nat.le_of_ble_eq_true rfl) dL_compareAndSet_9 ⟨Nat.le_of_ble_eq_true rfl, Nat.le_of_ble_eq_true rfl⟩ (fk_caught (x := (0, 21, 28, 15)) [(0, 21, 24, 13)] [] hown htab rfl rfl (List.forall_mem_cons.mpr ⟨⟨by decide, _, hts _ (List.mem_of_getElem? (i := 1) rfl), hN.1⟩, (fun _ h9 => absurd h9 List.not_mem_nil)⟩) (by decide) (by decide) (hts _ (List.mem_of_getElem? (i := 2) rfl)) hZ fk_cast2 (fun q9 H locs hP hS => ?_))
  refine lv_astore (lv' := [(6, .ref q9), (0, .ref (ad 0)), (1, .int p0), (2, .int p1), (3, .int p2), (4, .int p3), (5, .ref o)]) hx hb dL_compareAndSet_28 hl (by decide) rfl (fun ls hl => ?_)
  refine lv_iconst (v := 2) hx hb dL_compareAndSet_30 (by decide) ?_
  exact fk_iretL (Nat.le_of_ble_eq_true rfl) (Nat.le_of_ble_eq_true rfl) hx hb hr hlocks hP hK hD hS rfl rfl dL_compareAndSet_31

set_option maxHeartbeats 4000000 in
set_option maxRecDepth 100000 in
theorem Lc_fetchAdd (l : Launch) (D : va_G) (ad : Nat → Nat) (cI cT cJ : ClassId) (X : va_W) (S : fk_S) (o : Nat) (f : Nat → Int64) (p0 p1 p2 : Int32) (S1 : fk_S) (v : Int32) (hC : ∀ X, fk_C l D (fk_ty cI cT cJ) yX2_fetchAdd wsX2_fetchAdd rmX2_fetchAdd [.ref (ad 0), .int p0, .int p1, .int p2] (fk_kW ad cI cT S ++ X) (some (.int v)) (fk_kW ad cI cT S1 ++ X)) : fk_L l D (fk_ty cI cT cJ) yL_fetchAdd wsL_fetchAdd rm_L [.ref (ad 0), .int p0, .int p1, .int p2, .ref o] (fk_kW ad cI cT S ++ (o, fk_ou cJ f) :: X) (some (.int 0)) (fk_kW ad cI cT S1 ++ (o, fk_ou cJ (vp_updL f 0 v.toInt64)) :: X) := by
  refine fk_L_of (cc := cL_fetchAdd) (maxL := 6) (ret := some .int) (own := RL) (hh := [(0, 12, 15, 13), (0, 12, 19, 15)]) (by decide) rfl rfl (Nat.le_of_ble_eq_true rfl) ?_
  intro p e s m below meth c A ls hx hb hr hlocks hml hts hown htab hA hP hK hD hZ hN hl
  have hS : va_S A s.heap s.heap [] := va_S.rf
  have hl : lv_has ls 6 [(0, .ref (ad 0)), (1, .int p0), (2, .int p1), (3, .int p2), (4, .ref o)] := hl
  refine lv_aload hx hb dL_fetchAdd_0 (lv_at hl 4 rfl) ?_
  refine lv_iconst (v := 0) hx hb dL_fetchAdd_2 (by decide) ?_
  refine lv_aload_n hx hb dL_fetchAdd_3 rfl (lv_at hl 0 rfl) ?_
  refine lv_iload_n hx hb dL_fetchAdd_4 rfl (lv_at hl 1 rfl) ?_
  refine lv_iload_n hx hb dL_fetchAdd_5 rfl (lv_at hl 2 rfl) ?_
  refine lv_iload_n hx hb dL_fetchAdd_6 rfl (lv_at hl 3 rfl) ?_
  refine fk_callV (As := [.int p0, .int p1, .int p2]) (rest := [.int 0, .ref o]) ⟨hx, hb, hml, hown, hts⟩ (hC _) (cwV 3 hts gL_fetchAdd_X2_fetchAdd rfl rfl rfl (by decide +kernel) ⟨Nat.le_of_ble_eq_true rfl, Nat.le_of_ble_eq_true rfl⟩) (fk_rvK hK hP) hK hP hD hS hA rfl hl.1 rfl (Nat.le_of_ble_eq_true rfl) dL_fetchAdd_7 ⟨Nat.le_of_ble_eq_true rfl, Nat.le_of_ble_eq_true rfl⟩ (fun H locs hP hD hS => ?_)
  refine W.eq (g2 := F0 m 10 ls [.int v, .int 0, .ref o]) rfl ?_
  refine lv_i2l hx hb dL_fetchAdd_10 rfl ?_
  refine va_last hx hb hK hP hD hS 27 2 fk_at27 rfl fk_v01 dL_fetchAdd_11 (fun H locs hP hD hS => ?_)
  have hP : va_P D vwCl (fk_kW ad cI cT S1 ++ (o, fk_ou cJ (vp_updL f 0 v.toInt64)) :: X) H := by rw [fk_set27] at hP; exact hP
  have hD : va_D A (fk_kW ad cI cT S1 ++ (o, fk_ou cJ (vp_updL f 0 v.toInt64)) :: X) := by rw [fk_set27] at hD; exact hD
  refine lv_goto (tgt := 23) hx hb dL_fetchAdd_12 (by decide) ?_
  refine lv_iconst (v := 0) hx hb dL_fetchAdd_23 (by decide) ?_
  exact fk_iretL (Nat.zero_le _) (Nat.zero_le _) hx hb hr hlocks hP hK hD hS rfl rfl dL_fetchAdd_24

set_option maxHeartbeats 4000000 in
set_option maxRecDepth 100000 in
theorem Lx_fetchAdd_IO (l : Launch) (D : va_G) (ad : Nat → Nat) (cI cT cJ : ClassId) (X : va_W) (S : fk_S) (o : Nat) (f : Nat → Int64) (p0 p1 p2 : Int32) (hX : ∀ X, fk_X l D (fk_ty cI cT cJ) yX2_fetchAdd wsX2_fetchAdd rx_pub [.ref (ad 0), .int p0, .int p1, .int p2] (fk_kW ad cI cT S ++ X) "java/lang/IndexOutOfBoundsException") : fk_L l D (fk_ty cI cT cJ) yL_fetchAdd wsL_fetchAdd rm_L [.ref (ad 0), .int p0, .int p1, .int p2, .ref o] (fk_kW ad cI cT S ++ (o, fk_ou cJ f) :: X) (some (.int 1)) (fk_kW ad cI cT S ++ (o, fk_ou cJ f) :: X) := by
  refine fk_L_of (cc := cL_fetchAdd) (maxL := 6) (ret := some .int) (own := RL) (hh := [(0, 12, 15, 13), (0, 12, 19, 15)]) (by decide) rfl rfl (Nat.le_of_ble_eq_true rfl) ?_
  intro p e s m below meth c A ls hx hb hr hlocks hml hts hown htab hA hP hK hD hZ hN hl
  have hS : va_S A s.heap s.heap [] := va_S.rf
  have hl : lv_has ls 6 [(0, .ref (ad 0)), (1, .int p0), (2, .int p1), (3, .int p2), (4, .ref o)] := hl
  refine lv_aload hx hb dL_fetchAdd_0 (lv_at hl 4 rfl) ?_
  refine lv_iconst (v := 0) hx hb dL_fetchAdd_2 (by decide) ?_
  refine lv_aload_n hx hb dL_fetchAdd_3 rfl (lv_at hl 0 rfl) ?_
  refine lv_iload_n hx hb dL_fetchAdd_4 rfl (lv_at hl 1 rfl) ?_
  refine lv_iload_n hx hb dL_fetchAdd_5 rfl (lv_at hl 2 rfl) ?_
  refine lv_iload_n hx hb dL_fetchAdd_6 rfl (lv_at hl 3 rfl) ?_
  refine fk_xcallV (As := [.int p0, .int p1, .int p2]) (rest := [.int 0, .ref o]) ⟨hx, hb, hml, hown, hts⟩ (hX _) (cwV 3 hts gL_fetchAdd_X2_fetchAdd rfl rfl rfl (by decide +kernel) ⟨Nat.le_of_ble_eq_true rfl, Nat.le_of_ble_eq_true rfl⟩) (fk_rvK hK hP) hK hP hD hS hA hZ rfl hl.1 rfl (Nat.le_of_ble_eq_true rfl) dL_fetchAdd_7 ⟨Nat.le_of_ble_eq_true rfl, Nat.le_of_ble_eq_true rfl⟩ (fk_caught (x := (0, 12, 15, 13)) [] [(0, 12, 19, 15)] hown htab rfl rfl (fun _ h9 => absurd h9 List.not_mem_nil) (by decide) (by decide) (hts _ (List.mem_of_getElem? (i := 1) rfl)) hZ fk_cast1 (fun q9 H locs hP hS => ?_))
  refine lv_astore (lv' := [(5, .ref q9), (0, .ref (ad 0)), (1, .int p0), (2, .int p1), (3, .int p2), (4, .ref o)]) hx hb dL_fetchAdd_15 hl (by decide) rfl (fun ls hl => ?_)
  refine lv_iconst (v := 1) hx hb dL_fetchAdd_17 (by decide) ?_
  exact fk_iretL (Nat.le_of_ble_eq_true rfl) (Nat.le_of_ble_eq_true rfl) hx hb hr hlocks hP hK hD hS rfl rfl dL_fetchAdd_18

set_option maxHeartbeats 4000000 in
set_option maxRecDepth 100000 in
theorem Lx_fetchAdd_IS (l : Launch) (D : va_G) (ad : Nat → Nat) (cI cT cJ : ClassId) (X : va_W) (S : fk_S) (o : Nat) (f : Nat → Int64) (p0 p1 p2 : Int32) (hX : ∀ X, fk_X l D (fk_ty cI cT cJ) yX2_fetchAdd wsX2_fetchAdd rx_pub [.ref (ad 0), .int p0, .int p1, .int p2] (fk_kW ad cI cT S ++ X) "java/lang/IllegalStateException") : fk_L l D (fk_ty cI cT cJ) yL_fetchAdd wsL_fetchAdd rm_L [.ref (ad 0), .int p0, .int p1, .int p2, .ref o] (fk_kW ad cI cT S ++ (o, fk_ou cJ f) :: X) (some (.int 2)) (fk_kW ad cI cT S ++ (o, fk_ou cJ f) :: X) := by
  refine fk_L_of (cc := cL_fetchAdd) (maxL := 6) (ret := some .int) (own := RL) (hh := [(0, 12, 15, 13), (0, 12, 19, 15)]) (by decide) rfl rfl (Nat.le_of_ble_eq_true rfl) ?_
  intro p e s m below meth c A ls hx hb hr hlocks hml hts hown htab hA hP hK hD hZ hN hl
  have hS : va_S A s.heap s.heap [] := va_S.rf
  have hl : lv_has ls 6 [(0, .ref (ad 0)), (1, .int p0), (2, .int p1), (3, .int p2), (4, .ref o)] := hl
  refine lv_aload hx hb dL_fetchAdd_0 (lv_at hl 4 rfl) ?_
  refine lv_iconst (v := 0) hx hb dL_fetchAdd_2 (by decide) ?_
  refine lv_aload_n hx hb dL_fetchAdd_3 rfl (lv_at hl 0 rfl) ?_
  refine lv_iload_n hx hb dL_fetchAdd_4 rfl (lv_at hl 1 rfl) ?_
  refine lv_iload_n hx hb dL_fetchAdd_5 rfl (lv_at hl 2 rfl) ?_
  refine lv_iload_n hx hb dL_fetchAdd_6 rfl (lv_at hl 3 rfl) ?_
  refine fk_xcallV (As := [.int p0, .int p1, .int p2]) (rest := [.int 0, .ref o]) ⟨hx, hb, hml, hown, hts⟩ (hX _) (cwV 3 hts gL_fetchAdd_X2_fetchAdd rfl rfl rfl (by decide +kernel) ⟨Nat.le_of_ble_eq_true rfl, Nat.le_of_ble_eq_true rfl⟩) (fk_rvK hK hP) hK hP hD hS hA hZ rfl hl.1 rfl (Nat.le_of_ble_eq_true rfl) dL_fetchAdd_7 ⟨Nat.le_of_ble_eq_true rfl, Nat.le_of_ble_eq_true rfl⟩ (fk_caught (x := (0, 12, 19, 15)) [(0, 12, 15, 13)] [] hown htab rfl rfl (List.forall_mem_cons.mpr ⟨⟨by decide, _, hts _ (List.mem_of_getElem? (i := 1) rfl), hN.1⟩, (fun _ h9 => absurd h9 List.not_mem_nil)⟩) (by decide) (by decide) (hts _ (List.mem_of_getElem? (i := 2) rfl)) hZ fk_cast2 (fun q9 H locs hP hS => ?_))
  refine lv_astore (lv' := [(5, .ref q9), (0, .ref (ad 0)), (1, .int p0), (2, .int p1), (3, .int p2), (4, .ref o)]) hx hb dL_fetchAdd_19 hl (by decide) rfl (fun ls hl => ?_)
  refine lv_iconst (v := 2) hx hb dL_fetchAdd_21 (by decide) ?_
  exact fk_iretL (Nat.le_of_ble_eq_true rfl) (Nat.le_of_ble_eq_true rfl) hx hb hr hlocks hP hK hD hS rfl rfl dL_fetchAdd_22

set_option maxHeartbeats 4000000 in
set_option maxRecDepth 100000 in
theorem Lc_word (l : Launch) (D : va_G) (ad : Nat → Nat) (cI cT cJ : ClassId) (X : va_W) (S : fk_S) (o : Nat) (f : Nat → Int64) (p0 : Int32) (S1 : fk_S) (v : Int32) (hC : ∀ X, fk_C l D (fk_ty cI cT cJ) yX2_word wsX2_word rmX2_word [.ref (ad 0), .int p0] (fk_kW ad cI cT S ++ X) (some (.int v)) (fk_kW ad cI cT S1 ++ X)) : fk_L l D (fk_ty cI cT cJ) yL_word wsL_word rm_L [.ref (ad 0), .int p0, .ref o] (fk_kW ad cI cT S ++ (o, fk_ou cJ f) :: X) (some (.int 0)) (fk_kW ad cI cT S1 ++ (o, fk_ou cJ (vp_updL f 0 v.toInt64)) :: X) := by
  refine fk_L_of (cc := cL_word) (maxL := 4) (ret := some .int) (own := RL) (hh := [(0, 9, 12, 13)]) (by decide) rfl rfl (Nat.le_of_ble_eq_true rfl) ?_
  intro p e s m below meth c A ls hx hb hr hlocks hml hts hown htab hA hP hK hD hZ hN hl
  have hS : va_S A s.heap s.heap [] := va_S.rf
  have hl : lv_has ls 4 [(0, .ref (ad 0)), (1, .int p0), (2, .ref o)] := hl
  refine lv_aload_n hx hb dL_word_0 rfl (lv_at hl 2 rfl) ?_
  refine lv_iconst (v := 0) hx hb dL_word_1 (by decide) ?_
  refine lv_aload_n hx hb dL_word_2 rfl (lv_at hl 0 rfl) ?_
  refine lv_iload_n hx hb dL_word_3 rfl (lv_at hl 1 rfl) ?_
  refine fk_callV (As := [.int p0]) (rest := [.int 0, .ref o]) ⟨hx, hb, hml, hown, hts⟩ (hC _) (cwV 1 hts gL_word_X2_word rfl rfl rfl (by decide +kernel) ⟨Nat.le_of_ble_eq_true rfl, Nat.le_of_ble_eq_true rfl⟩) (fk_rvK hK hP) hK hP hD hS hA rfl hl.1 rfl (Nat.le_of_ble_eq_true rfl) dL_word_4 ⟨Nat.le_of_ble_eq_true rfl, Nat.le_of_ble_eq_true rfl⟩ (fun H locs hP hD hS => ?_)
  refine W.eq (g2 := F0 m 7 ls [.int v, .int 0, .ref o]) rfl ?_
  refine lv_i2l hx hb dL_word_7 rfl ?_
  refine va_last hx hb hK hP hD hS 27 2 fk_at27 rfl fk_v01 dL_word_8 (fun H locs hP hD hS => ?_)
  have hP : va_P D vwCl (fk_kW ad cI cT S1 ++ (o, fk_ou cJ (vp_updL f 0 v.toInt64)) :: X) H := by rw [fk_set27] at hP; exact hP
  have hD : va_D A (fk_kW ad cI cT S1 ++ (o, fk_ou cJ (vp_updL f 0 v.toInt64)) :: X) := by rw [fk_set27] at hD; exact hD
  refine lv_goto (tgt := 15) hx hb dL_word_9 (by decide) ?_
  refine lv_iconst (v := 0) hx hb dL_word_15 (by decide) ?_
  exact fk_iretL (Nat.zero_le _) (Nat.zero_le _) hx hb hr hlocks hP hK hD hS rfl rfl dL_word_16

set_option maxHeartbeats 4000000 in
set_option maxRecDepth 100000 in
theorem Lx_word_IO (l : Launch) (D : va_G) (ad : Nat → Nat) (cI cT cJ : ClassId) (X : va_W) (S : fk_S) (o : Nat) (f : Nat → Int64) (p0 : Int32) (hX : ∀ X, fk_X l D (fk_ty cI cT cJ) yX2_word wsX2_word rx_pub [.ref (ad 0), .int p0] (fk_kW ad cI cT S ++ X) "java/lang/IndexOutOfBoundsException") : fk_L l D (fk_ty cI cT cJ) yL_word wsL_word rm_L [.ref (ad 0), .int p0, .ref o] (fk_kW ad cI cT S ++ (o, fk_ou cJ f) :: X) (some (.int 1)) (fk_kW ad cI cT S ++ (o, fk_ou cJ f) :: X) := by
  refine fk_L_of (cc := cL_word) (maxL := 4) (ret := some .int) (own := RL) (hh := [(0, 9, 12, 13)]) (by decide) rfl rfl (Nat.le_of_ble_eq_true rfl) ?_
  intro p e s m below meth c A ls hx hb hr hlocks hml hts hown htab hA hP hK hD hZ hN hl
  have hS : va_S A s.heap s.heap [] := va_S.rf
  have hl : lv_has ls 4 [(0, .ref (ad 0)), (1, .int p0), (2, .ref o)] := hl
  refine lv_aload_n hx hb dL_word_0 rfl (lv_at hl 2 rfl) ?_
  refine lv_iconst (v := 0) hx hb dL_word_1 (by decide) ?_
  refine lv_aload_n hx hb dL_word_2 rfl (lv_at hl 0 rfl) ?_
  refine lv_iload_n hx hb dL_word_3 rfl (lv_at hl 1 rfl) ?_
  refine fk_xcallV (As := [.int p0]) (rest := [.int 0, .ref o]) ⟨hx, hb, hml, hown, hts⟩ (hX _) (cwV 1 hts gL_word_X2_word rfl rfl rfl (by decide +kernel) ⟨Nat.le_of_ble_eq_true rfl, Nat.le_of_ble_eq_true rfl⟩) (fk_rvK hK hP) hK hP hD hS hA hZ rfl hl.1 rfl (Nat.le_of_ble_eq_true rfl) dL_word_4 ⟨Nat.le_of_ble_eq_true rfl, Nat.le_of_ble_eq_true rfl⟩ (fk_caught (x := (0, 9, 12, 13)) [] [] hown htab rfl rfl (fun _ h9 => absurd h9 List.not_mem_nil) (by decide) (by decide) (hts _ (List.mem_of_getElem? (i := 1) rfl)) hZ fk_cast1 (fun q9 H locs hP hS => ?_))
  refine lv_astore_n (lv' := [(3, .ref q9), (0, .ref (ad 0)), (1, .int p0), (2, .ref o)]) hx hb dL_word_12 rfl hl (by decide) rfl (fun ls hl => ?_)
  refine lv_iconst (v := 1) hx hb dL_word_13 (by decide) ?_
  exact fk_iretL (Nat.le_of_ble_eq_true rfl) (Nat.le_of_ble_eq_true rfl) hx hb hr hlocks hP hK hD hS rfl rfl dL_word_14

set_option maxHeartbeats 4000000 in
set_option maxRecDepth 100000 in
theorem Lc_await (l : Launch) (D : va_G) (ad : Nat → Nat) (cI cT cJ : ClassId) (X : va_W) (S : fk_S) (o : Nat) (f : Nat → Int64) (p0 p1 p2 p3 p4 : Int32) (S1 : fk_S) (v : Bool) (hC : ∀ X, fk_C l D (fk_ty cI cT cJ) yX2_await wsX2_await rmX2_await [.ref (ad 0), .int p0, .int p1, .int p2, .int p3, .int p4] (fk_kW ad cI cT S ++ X) (some (.int (fk_b v))) (fk_kW ad cI cT S1 ++ X)) : fk_L l D (fk_ty cI cT cJ) yL_await wsL_await rm_L [.ref (ad 0), .int p0, .int p1, .int p2, .int p3, .int p4, .ref o] (fk_kW ad cI cT S ++ (o, fk_ou cJ f) :: X) (some (.int 0)) (fk_kW ad cI cT S1 ++ (o, fk_ou cJ (vp_updL f 0 (fk_lb v))) :: X) := by
  refine fk_L_of (cc := cL_await) (maxL := 8) (ret := some .int) (own := RL) (hh := [(0, 23, 26, 13), (0, 23, 30, 32), (0, 23, 34, 15)]) (by decide) rfl rfl (Nat.le_of_ble_eq_true rfl) ?_
  intro p e s m below meth c A ls hx hb hr hlocks hml hts hown htab hA hP hK hD hZ hN hl
  have hS : va_S A s.heap s.heap [] := va_S.rf
  have hl : lv_has ls 8 [(0, .ref (ad 0)), (1, .int p0), (2, .int p1), (3, .int p2), (4, .int p3), (5, .int p4), (6, .ref o)] := hl
  refine lv_aload hx hb dL_await_0 (lv_at hl 6 rfl) ?_
  refine lv_iconst (v := 0) hx hb dL_await_2 (by decide) ?_
  refine lv_aload_n hx hb dL_await_3 rfl (lv_at hl 0 rfl) ?_
  refine lv_iload_n hx hb dL_await_4 rfl (lv_at hl 1 rfl) ?_
  refine lv_iload_n hx hb dL_await_5 rfl (lv_at hl 2 rfl) ?_
  refine lv_iload_n hx hb dL_await_6 rfl (lv_at hl 3 rfl) ?_
  refine lv_iload hx hb dL_await_7 (lv_at hl 4 rfl) ?_
  refine lv_iload hx hb dL_await_9 (lv_at hl 5 rfl) ?_
  refine fk_callV (As := [.int p0, .int p1, .int p2, .int p3, .int p4]) (rest := [.int 0, .ref o]) ⟨hx, hb, hml, hown, hts⟩ (hC _) (cwV 5 hts gL_await_X2_await rfl rfl rfl (by decide +kernel) ⟨Nat.le_of_ble_eq_true rfl, Nat.le_of_ble_eq_true rfl⟩) (fk_rvK hK hP) hK hP hD hS hA rfl hl.1 rfl (Nat.le_of_ble_eq_true rfl) dL_await_11 ⟨Nat.le_of_ble_eq_true rfl, Nat.le_of_ble_eq_true rfl⟩ (fun H locs hP hD hS => ?_)
  cases v with
  | true =>
    refine W.eq (g2 := F0 m 14 ls [.int 1, .int 0, .ref o]) rfl ?_
    refine lv_if_eq (tgt := 21) hx hb dL_await_14 (by decide) (fun c => absurd c (by decide)) (fun _ => ?_)
    refine lv_lconst (v := 1) hx hb dL_await_17 (by decide) ?_
    refine lv_goto (tgt := 22) hx hb dL_await_18 (by decide) ?_
    refine va_last hx hb hK hP hD hS 27 2 fk_at27 rfl fk_v01 dL_await_22 (fun H locs hP hD hS => ?_)
    have hP : va_P D vwCl (fk_kW ad cI cT S1 ++ (o, fk_ou cJ (vp_updL f 0 (fk_lb true))) :: X) H := by rw [fk_set27] at hP; exact hP
    have hD : va_D A (fk_kW ad cI cT S1 ++ (o, fk_ou cJ (vp_updL f 0 (fk_lb true))) :: X) := by rw [fk_set27] at hD; exact hD
    refine lv_goto (tgt := 38) hx hb dL_await_23 (by decide) ?_
    refine lv_iconst (v := 0) hx hb dL_await_38 (by decide) ?_
    exact fk_iretL (Nat.zero_le _) (Nat.zero_le _) hx hb hr hlocks hP hK hD hS rfl rfl dL_await_39
  | false =>
    refine W.eq (g2 := F0 m 14 ls [.int 0, .int 0, .ref o]) rfl ?_
    refine lv_if_eq (tgt := 21) hx hb dL_await_14 (by decide) (fun _ => ?_) (fun c => absurd c (by decide))
    refine lv_lconst (v := 0) hx hb dL_await_21 (by decide) ?_
    refine va_last hx hb hK hP hD hS 27 2 fk_at27 rfl fk_v01 dL_await_22 (fun H locs hP hD hS => ?_)
    have hP : va_P D vwCl (fk_kW ad cI cT S1 ++ (o, fk_ou cJ (vp_updL f 0 (fk_lb false))) :: X) H := by rw [fk_set27] at hP; exact hP
    have hD : va_D A (fk_kW ad cI cT S1 ++ (o, fk_ou cJ (vp_updL f 0 (fk_lb false))) :: X) := by rw [fk_set27] at hD; exact hD
    refine lv_goto (tgt := 38) hx hb dL_await_23 (by decide) ?_
    refine lv_iconst (v := 0) hx hb dL_await_38 (by decide) ?_
    exact fk_iretL (Nat.zero_le _) (Nat.zero_le _) hx hb hr hlocks hP hK hD hS rfl rfl dL_await_39

set_option maxHeartbeats 4000000 in
set_option maxRecDepth 100000 in
theorem Lx_await_IO (l : Launch) (D : va_G) (ad : Nat → Nat) (cI cT cJ : ClassId) (X : va_W) (S : fk_S) (o : Nat) (f : Nat → Int64) (p0 p1 p2 p3 p4 : Int32) (hX : ∀ X, fk_X l D (fk_ty cI cT cJ) yX2_await wsX2_await rx_pub [.ref (ad 0), .int p0, .int p1, .int p2, .int p3, .int p4] (fk_kW ad cI cT S ++ X) "java/lang/IndexOutOfBoundsException") : fk_L l D (fk_ty cI cT cJ) yL_await wsL_await rm_L [.ref (ad 0), .int p0, .int p1, .int p2, .int p3, .int p4, .ref o] (fk_kW ad cI cT S ++ (o, fk_ou cJ f) :: X) (some (.int 1)) (fk_kW ad cI cT S ++ (o, fk_ou cJ f) :: X) := by
  refine fk_L_of (cc := cL_await) (maxL := 8) (ret := some .int) (own := RL) (hh := [(0, 23, 26, 13), (0, 23, 30, 32), (0, 23, 34, 15)]) (by decide) rfl rfl (Nat.le_of_ble_eq_true rfl) ?_
  intro p e s m below meth c A ls hx hb hr hlocks hml hts hown htab hA hP hK hD hZ hN hl
  have hS : va_S A s.heap s.heap [] := va_S.rf
  have hl : lv_has ls 8 [(0, .ref (ad 0)), (1, .int p0), (2, .int p1), (3, .int p2), (4, .int p3), (5, .int p4), (6, .ref o)] := hl
  refine lv_aload hx hb dL_await_0 (lv_at hl 6 rfl) ?_
  refine lv_iconst (v := 0) hx hb dL_await_2 (by decide) ?_
  refine lv_aload_n hx hb dL_await_3 rfl (lv_at hl 0 rfl) ?_
  refine lv_iload_n hx hb dL_await_4 rfl (lv_at hl 1 rfl) ?_
  refine lv_iload_n hx hb dL_await_5 rfl (lv_at hl 2 rfl) ?_
  refine lv_iload_n hx hb dL_await_6 rfl (lv_at hl 3 rfl) ?_
  refine lv_iload hx hb dL_await_7 (lv_at hl 4 rfl) ?_
  refine lv_iload hx hb dL_await_9 (lv_at hl 5 rfl) ?_
  refine fk_xcallV (As := [.int p0, .int p1, .int p2, .int p3, .int p4]) (rest := [.int 0, .ref o]) ⟨hx, hb, hml, hown, hts⟩ (hX _) (cwV 5 hts gL_await_X2_await rfl rfl rfl (by decide +kernel) ⟨Nat.le_of_ble_eq_true rfl, Nat.le_of_ble_eq_true rfl⟩) (fk_rvK hK hP) hK hP hD hS hA hZ rfl hl.1 rfl (Nat.le_of_ble_eq_true rfl) dL_await_11 ⟨Nat.le_of_ble_eq_true rfl, Nat.le_of_ble_eq_true rfl⟩ (fk_caught (x := (0, 23, 26, 13)) [] [(0, 23, 30, 32), (0, 23, 34, 15)] hown htab rfl rfl (fun _ h9 => absurd h9 List.not_mem_nil) (by decide) (by decide) (hts _ (List.mem_of_getElem? (i := 1) rfl)) hZ fk_cast1 (fun q9 H locs hP hS => ?_))
  refine lv_astore (lv' := [(7, .ref q9), (0, .ref (ad 0)), (1, .int p0), (2, .int p1), (3, .int p2), (4, .int p3), (5, .int p4), (6, .ref o)]) hx hb dL_await_26 hl (by decide) rfl (fun ls hl => ?_)
  refine lv_iconst (v := 1) hx hb dL_await_28 (by decide) ?_
  exact fk_iretL (Nat.le_of_ble_eq_true rfl) (Nat.le_of_ble_eq_true rfl) hx hb hr hlocks hP hK hD hS rfl rfl dL_await_29

set_option maxHeartbeats 4000000 in
set_option maxRecDepth 100000 in
theorem Lx_await_IA (l : Launch) (D : va_G) (ad : Nat → Nat) (cI cT cJ : ClassId) (X : va_W) (S : fk_S) (o : Nat) (f : Nat → Int64) (p0 p1 p2 p3 p4 : Int32) (hX : ∀ X, fk_X l D (fk_ty cI cT cJ) yX2_await wsX2_await rx_pub [.ref (ad 0), .int p0, .int p1, .int p2, .int p3, .int p4] (fk_kW ad cI cT S ++ X) "java/lang/IllegalArgumentException") : fk_L l D (fk_ty cI cT cJ) yL_await wsL_await rm_L [.ref (ad 0), .int p0, .int p1, .int p2, .int p3, .int p4, .ref o] (fk_kW ad cI cT S ++ (o, fk_ou cJ f) :: X) (some (.int 2)) (fk_kW ad cI cT S ++ (o, fk_ou cJ f) :: X) := by
  refine fk_L_of (cc := cL_await) (maxL := 8) (ret := some .int) (own := RL) (hh := [(0, 23, 26, 13), (0, 23, 30, 32), (0, 23, 34, 15)]) (by decide) rfl rfl (Nat.le_of_ble_eq_true rfl) ?_
  intro p e s m below meth c A ls hx hb hr hlocks hml hts hown htab hA hP hK hD hZ hN hl
  have hS : va_S A s.heap s.heap [] := va_S.rf
  have hl : lv_has ls 8 [(0, .ref (ad 0)), (1, .int p0), (2, .int p1), (3, .int p2), (4, .int p3), (5, .int p4), (6, .ref o)] := hl
  refine lv_aload hx hb dL_await_0 (lv_at hl 6 rfl) ?_
  refine lv_iconst (v := 0) hx hb dL_await_2 (by decide) ?_
  refine lv_aload_n hx hb dL_await_3 rfl (lv_at hl 0 rfl) ?_
  refine lv_iload_n hx hb dL_await_4 rfl (lv_at hl 1 rfl) ?_
  refine lv_iload_n hx hb dL_await_5 rfl (lv_at hl 2 rfl) ?_
  refine lv_iload_n hx hb dL_await_6 rfl (lv_at hl 3 rfl) ?_
  refine lv_iload hx hb dL_await_7 (lv_at hl 4 rfl) ?_
  refine lv_iload hx hb dL_await_9 (lv_at hl 5 rfl) ?_
  refine fk_xcallV (As := [.int p0, .int p1, .int p2, .int p3, .int p4]) (rest := [.int 0, .ref o]) ⟨hx, hb, hml, hown, hts⟩ (hX _) (cwV 5 hts gL_await_X2_await rfl rfl rfl (by decide +kernel) ⟨Nat.le_of_ble_eq_true rfl, Nat.le_of_ble_eq_true rfl⟩) (fk_rvK hK hP) hK hP hD hS hA hZ rfl hl.1 rfl (Nat.le_of_ble_eq_true rfl) dL_await_11 ⟨Nat.le_of_ble_eq_true rfl, Nat.le_of_ble_eq_true rfl⟩ (fk_caught (x := (0, 23, 30, 32)) [(0, 23, 26, 13)] [(0, 23, 34, 15)] hown htab rfl rfl (List.forall_mem_cons.mpr ⟨⟨by decide, _, hts _ (List.mem_of_getElem? (i := 1) rfl), hN.2.1⟩, (fun _ h9 => absurd h9 List.not_mem_nil)⟩) (by decide) (by decide) (hts _ (List.mem_of_getElem? (i := 2) rfl)) hZ fk_cast3 (fun q9 H locs hP hS => ?_))
  refine lv_astore (lv' := [(7, .ref q9), (0, .ref (ad 0)), (1, .int p0), (2, .int p1), (3, .int p2), (4, .int p3), (5, .int p4), (6, .ref o)]) hx hb dL_await_30 hl (by decide) rfl (fun ls hl => ?_)
  refine lv_iconst (v := 2) hx hb dL_await_32 (by decide) ?_
  exact fk_iretL (Nat.le_of_ble_eq_true rfl) (Nat.le_of_ble_eq_true rfl) hx hb hr hlocks hP hK hD hS rfl rfl dL_await_33

set_option maxHeartbeats 4000000 in
set_option maxRecDepth 100000 in
theorem Lx_await_IS (l : Launch) (D : va_G) (ad : Nat → Nat) (cI cT cJ : ClassId) (X : va_W) (S : fk_S) (o : Nat) (f : Nat → Int64) (p0 p1 p2 p3 p4 : Int32) (hX : ∀ X, fk_X l D (fk_ty cI cT cJ) yX2_await wsX2_await rx_pub [.ref (ad 0), .int p0, .int p1, .int p2, .int p3, .int p4] (fk_kW ad cI cT S ++ X) "java/lang/IllegalStateException") : fk_L l D (fk_ty cI cT cJ) yL_await wsL_await rm_L [.ref (ad 0), .int p0, .int p1, .int p2, .int p3, .int p4, .ref o] (fk_kW ad cI cT S ++ (o, fk_ou cJ f) :: X) (some (.int 3)) (fk_kW ad cI cT S ++ (o, fk_ou cJ f) :: X) := by
  refine fk_L_of (cc := cL_await) (maxL := 8) (ret := some .int) (own := RL) (hh := [(0, 23, 26, 13), (0, 23, 30, 32), (0, 23, 34, 15)]) (by decide) rfl rfl (Nat.le_of_ble_eq_true rfl) ?_
  intro p e s m below meth c A ls hx hb hr hlocks hml hts hown htab hA hP hK hD hZ hN hl
  have hS : va_S A s.heap s.heap [] := va_S.rf
  have hl : lv_has ls 8 [(0, .ref (ad 0)), (1, .int p0), (2, .int p1), (3, .int p2), (4, .int p3), (5, .int p4), (6, .ref o)] := hl
  refine lv_aload hx hb dL_await_0 (lv_at hl 6 rfl) ?_
  refine lv_iconst (v := 0) hx hb dL_await_2 (by decide) ?_
  refine lv_aload_n hx hb dL_await_3 rfl (lv_at hl 0 rfl) ?_
  refine lv_iload_n hx hb dL_await_4 rfl (lv_at hl 1 rfl) ?_
  refine lv_iload_n hx hb dL_await_5 rfl (lv_at hl 2 rfl) ?_
  refine lv_iload_n hx hb dL_await_6 rfl (lv_at hl 3 rfl) ?_
  refine lv_iload hx hb dL_await_7 (lv_at hl 4 rfl) ?_
  refine lv_iload hx hb dL_await_9 (lv_at hl 5 rfl) ?_
  refine fk_xcallV (As := [.int p0, .int p1, .int p2, .int p3, .int p4]) (rest := [.int 0, .ref o]) ⟨hx, hb, hml, hown, hts⟩ (hX _) (cwV 5 hts gL_await_X2_await rfl rfl rfl (by decide +kernel) ⟨Nat.le_of_ble_eq_true rfl, Nat.le_of_ble_eq_true rfl⟩) (fk_rvK hK hP) hK hP hD hS hA hZ rfl hl.1 rfl (Nat.le_of_ble_eq_true rfl) dL_await_11 ⟨Nat.le_of_ble_eq_true rfl, Nat.le_of_ble_eq_true rfl⟩ (fk_caught (x := (0, 23, 34, 15)) [(0, 23, 26, 13), (0, 23, 30, 32)] [] hown htab rfl rfl (List.forall_mem_cons.mpr ⟨⟨by decide, _, hts _ (List.mem_of_getElem? (i := 1) rfl), hN.1⟩, (List.forall_mem_cons.mpr ⟨⟨by decide, _, hts _ (List.mem_of_getElem? (i := 2) rfl), hN.2.2⟩, (fun _ h9 => absurd h9 List.not_mem_nil)⟩)⟩) (by decide) (by decide) (hts _ (List.mem_of_getElem? (i := 3) rfl)) hZ fk_cast2 (fun q9 H locs hP hS => ?_))
  refine lv_astore (lv' := [(7, .ref q9), (0, .ref (ad 0)), (1, .int p0), (2, .int p1), (3, .int p2), (4, .int p3), (5, .int p4), (6, .ref o)]) hx hb dL_await_34 hl (by decide) rfl (fun ls hl => ?_)
  refine lv_iconst (v := 3) hx hb dL_await_36 (by decide) ?_
  exact fk_iretL (Nat.le_of_ble_eq_true rfl) (Nat.le_of_ble_eq_true rfl) hx hb hr hlocks hP hK hD hS rfl rfl dL_await_37

set_option maxHeartbeats 4000000 in
set_option maxRecDepth 100000 in
theorem Lc_wake (l : Launch) (D : va_G) (ad : Nat → Nat) (cI cT cJ : ClassId) (X : va_W) (S : fk_S) (o : Nat) (f : Nat → Int64) (p0 p1 p2 p3 : Int32) (S1 : fk_S) (v : Int32) (hC : ∀ X, fk_C l D (fk_ty cI cT cJ) yX2_wake wsX2_wake rmX2_wake [.ref (ad 0), .int p0, .int p1, .int p2, .int p3] (fk_kW ad cI cT S ++ X) (some (.int v)) (fk_kW ad cI cT S1 ++ X)) : fk_L l D (fk_ty cI cT cJ) yL_wake wsL_wake rm_L [.ref (ad 0), .int p0, .int p1, .int p2, .int p3, .ref o] (fk_kW ad cI cT S ++ (o, fk_ou cJ f) :: X) (some (.int 0)) (fk_kW ad cI cT S1 ++ (o, fk_ou cJ (vp_updL f 0 v.toInt64)) :: X) := by
  refine fk_L_of (cc := cL_wake) (maxL := 7) (ret := some .int) (own := RL) (hh := [(0, 14, 17, 13), (0, 14, 21, 32), (0, 14, 25, 15)]) (by decide) rfl rfl (Nat.le_of_ble_eq_true rfl) ?_
  intro p e s m below meth c A ls hx hb hr hlocks hml hts hown htab hA hP hK hD hZ hN hl
  have hS : va_S A s.heap s.heap [] := va_S.rf
  have hl : lv_has ls 7 [(0, .ref (ad 0)), (1, .int p0), (2, .int p1), (3, .int p2), (4, .int p3), (5, .ref o)] := hl
  refine lv_aload hx hb dL_wake_0 (lv_at hl 5 rfl) ?_
  refine lv_iconst (v := 0) hx hb dL_wake_2 (by decide) ?_
  refine lv_aload_n hx hb dL_wake_3 rfl (lv_at hl 0 rfl) ?_
  refine lv_iload_n hx hb dL_wake_4 rfl (lv_at hl 1 rfl) ?_
  refine lv_iload_n hx hb dL_wake_5 rfl (lv_at hl 2 rfl) ?_
  refine lv_iload_n hx hb dL_wake_6 rfl (lv_at hl 3 rfl) ?_
  refine lv_iload hx hb dL_wake_7 (lv_at hl 4 rfl) ?_
  refine fk_callV (As := [.int p0, .int p1, .int p2, .int p3]) (rest := [.int 0, .ref o]) ⟨hx, hb, hml, hown, hts⟩ (hC _) (cwV 4 hts gL_wake_X2_wake rfl rfl rfl (by decide +kernel) ⟨Nat.le_of_ble_eq_true rfl, Nat.le_of_ble_eq_true rfl⟩) (fk_rvK hK hP) hK hP hD hS hA rfl hl.1 rfl (Nat.le_of_ble_eq_true rfl) dL_wake_9 ⟨Nat.le_of_ble_eq_true rfl, Nat.le_of_ble_eq_true rfl⟩ (fun H locs hP hD hS => ?_)
  refine W.eq (g2 := F0 m 12 ls [.int v, .int 0, .ref o]) rfl ?_
  refine lv_i2l hx hb dL_wake_12 rfl ?_
  refine va_last hx hb hK hP hD hS 27 2 fk_at27 rfl fk_v01 dL_wake_13 (fun H locs hP hD hS => ?_)
  have hP : va_P D vwCl (fk_kW ad cI cT S1 ++ (o, fk_ou cJ (vp_updL f 0 v.toInt64)) :: X) H := by rw [fk_set27] at hP; exact hP
  have hD : va_D A (fk_kW ad cI cT S1 ++ (o, fk_ou cJ (vp_updL f 0 v.toInt64)) :: X) := by rw [fk_set27] at hD; exact hD
  refine lv_goto (tgt := 29) hx hb dL_wake_14 (by decide) ?_
  refine lv_iconst (v := 0) hx hb dL_wake_29 (by decide) ?_
  exact fk_iretL (Nat.zero_le _) (Nat.zero_le _) hx hb hr hlocks hP hK hD hS rfl rfl dL_wake_30

set_option maxHeartbeats 4000000 in
set_option maxRecDepth 100000 in
theorem Lx_wake_IO (l : Launch) (D : va_G) (ad : Nat → Nat) (cI cT cJ : ClassId) (X : va_W) (S : fk_S) (o : Nat) (f : Nat → Int64) (p0 p1 p2 p3 : Int32) (hX : ∀ X, fk_X l D (fk_ty cI cT cJ) yX2_wake wsX2_wake rx_pub [.ref (ad 0), .int p0, .int p1, .int p2, .int p3] (fk_kW ad cI cT S ++ X) "java/lang/IndexOutOfBoundsException") : fk_L l D (fk_ty cI cT cJ) yL_wake wsL_wake rm_L [.ref (ad 0), .int p0, .int p1, .int p2, .int p3, .ref o] (fk_kW ad cI cT S ++ (o, fk_ou cJ f) :: X) (some (.int 1)) (fk_kW ad cI cT S ++ (o, fk_ou cJ f) :: X) := by
  refine fk_L_of (cc := cL_wake) (maxL := 7) (ret := some .int) (own := RL) (hh := [(0, 14, 17, 13), (0, 14, 21, 32), (0, 14, 25, 15)]) (by decide) rfl rfl (Nat.le_of_ble_eq_true rfl) ?_
  intro p e s m below meth c A ls hx hb hr hlocks hml hts hown htab hA hP hK hD hZ hN hl
  have hS : va_S A s.heap s.heap [] := va_S.rf
  have hl : lv_has ls 7 [(0, .ref (ad 0)), (1, .int p0), (2, .int p1), (3, .int p2), (4, .int p3), (5, .ref o)] := hl
  refine lv_aload hx hb dL_wake_0 (lv_at hl 5 rfl) ?_
  refine lv_iconst (v := 0) hx hb dL_wake_2 (by decide) ?_
  refine lv_aload_n hx hb dL_wake_3 rfl (lv_at hl 0 rfl) ?_
  refine lv_iload_n hx hb dL_wake_4 rfl (lv_at hl 1 rfl) ?_
  refine lv_iload_n hx hb dL_wake_5 rfl (lv_at hl 2 rfl) ?_
  refine lv_iload_n hx hb dL_wake_6 rfl (lv_at hl 3 rfl) ?_
  refine lv_iload hx hb dL_wake_7 (lv_at hl 4 rfl) ?_
  refine fk_xcallV (As := [.int p0, .int p1, .int p2, .int p3]) (rest := [.int 0, .ref o]) ⟨hx, hb, hml, hown, hts⟩ (hX _) (cwV 4 hts gL_wake_X2_wake rfl rfl rfl (by decide +kernel) ⟨Nat.le_of_ble_eq_true rfl, Nat.le_of_ble_eq_true rfl⟩) (fk_rvK hK hP) hK hP hD hS hA hZ rfl hl.1 rfl (Nat.le_of_ble_eq_true rfl) dL_wake_9 ⟨Nat.le_of_ble_eq_true rfl, Nat.le_of_ble_eq_true rfl⟩ (fk_caught (x := (0, 14, 17, 13)) [] [(0, 14, 21, 32), (0, 14, 25, 15)] hown htab rfl rfl (fun _ h9 => absurd h9 List.not_mem_nil) (by decide) (by decide) (hts _ (List.mem_of_getElem? (i := 1) rfl)) hZ fk_cast1 (fun q9 H locs hP hS => ?_))
  refine lv_astore (lv' := [(6, .ref q9), (0, .ref (ad 0)), (1, .int p0), (2, .int p1), (3, .int p2), (4, .int p3), (5, .ref o)]) hx hb dL_wake_17 hl (by decide) rfl (fun ls hl => ?_)
  refine lv_iconst (v := 1) hx hb dL_wake_19 (by decide) ?_
  exact fk_iretL (Nat.le_of_ble_eq_true rfl) (Nat.le_of_ble_eq_true rfl) hx hb hr hlocks hP hK hD hS rfl rfl dL_wake_20

set_option maxHeartbeats 4000000 in
set_option maxRecDepth 100000 in
theorem Lx_wake_IA (l : Launch) (D : va_G) (ad : Nat → Nat) (cI cT cJ : ClassId) (X : va_W) (S : fk_S) (o : Nat) (f : Nat → Int64) (p0 p1 p2 p3 : Int32) (hX : ∀ X, fk_X l D (fk_ty cI cT cJ) yX2_wake wsX2_wake rx_pub [.ref (ad 0), .int p0, .int p1, .int p2, .int p3] (fk_kW ad cI cT S ++ X) "java/lang/IllegalArgumentException") : fk_L l D (fk_ty cI cT cJ) yL_wake wsL_wake rm_L [.ref (ad 0), .int p0, .int p1, .int p2, .int p3, .ref o] (fk_kW ad cI cT S ++ (o, fk_ou cJ f) :: X) (some (.int 2)) (fk_kW ad cI cT S ++ (o, fk_ou cJ f) :: X) := by
  refine fk_L_of (cc := cL_wake) (maxL := 7) (ret := some .int) (own := RL) (hh := [(0, 14, 17, 13), (0, 14, 21, 32), (0, 14, 25, 15)]) (by decide) rfl rfl (Nat.le_of_ble_eq_true rfl) ?_
  intro p e s m below meth c A ls hx hb hr hlocks hml hts hown htab hA hP hK hD hZ hN hl
  have hS : va_S A s.heap s.heap [] := va_S.rf
  have hl : lv_has ls 7 [(0, .ref (ad 0)), (1, .int p0), (2, .int p1), (3, .int p2), (4, .int p3), (5, .ref o)] := hl
  refine lv_aload hx hb dL_wake_0 (lv_at hl 5 rfl) ?_
  refine lv_iconst (v := 0) hx hb dL_wake_2 (by decide) ?_
  refine lv_aload_n hx hb dL_wake_3 rfl (lv_at hl 0 rfl) ?_
  refine lv_iload_n hx hb dL_wake_4 rfl (lv_at hl 1 rfl) ?_
  refine lv_iload_n hx hb dL_wake_5 rfl (lv_at hl 2 rfl) ?_
  refine lv_iload_n hx hb dL_wake_6 rfl (lv_at hl 3 rfl) ?_
  refine lv_iload hx hb dL_wake_7 (lv_at hl 4 rfl) ?_
  refine fk_xcallV (As := [.int p0, .int p1, .int p2, .int p3]) (rest := [.int 0, .ref o]) ⟨hx, hb, hml, hown, hts⟩ (hX _) (cwV 4 hts gL_wake_X2_wake rfl rfl rfl (by decide +kernel) ⟨Nat.le_of_ble_eq_true rfl, Nat.le_of_ble_eq_true rfl⟩) (fk_rvK hK hP) hK hP hD hS hA hZ rfl hl.1 rfl (Nat.le_of_ble_eq_true rfl) dL_wake_9 ⟨Nat.le_of_ble_eq_true rfl, Nat.le_of_ble_eq_true rfl⟩ (fk_caught (x := (0, 14, 21, 32)) [(0, 14, 17, 13)] [(0, 14, 25, 15)] hown htab rfl rfl (List.forall_mem_cons.mpr ⟨⟨by decide, _, hts _ (List.mem_of_getElem? (i := 1) rfl), hN.2.1⟩, (fun _ h9 => absurd h9 List.not_mem_nil)⟩) (by decide) (by decide) (hts _ (List.mem_of_getElem? (i := 2) rfl)) hZ fk_cast3 (fun q9 H locs hP hS => ?_))
  refine lv_astore (lv' := [(6, .ref q9), (0, .ref (ad 0)), (1, .int p0), (2, .int p1), (3, .int p2), (4, .int p3), (5, .ref o)]) hx hb dL_wake_21 hl (by decide) rfl (fun ls hl => ?_)
  refine lv_iconst (v := 2) hx hb dL_wake_23 (by decide) ?_
  exact fk_iretL (Nat.le_of_ble_eq_true rfl) (Nat.le_of_ble_eq_true rfl) hx hb hr hlocks hP hK hD hS rfl rfl dL_wake_24

set_option maxHeartbeats 4000000 in
set_option maxRecDepth 100000 in
theorem Lx_wake_IS (l : Launch) (D : va_G) (ad : Nat → Nat) (cI cT cJ : ClassId) (X : va_W) (S : fk_S) (o : Nat) (f : Nat → Int64) (p0 p1 p2 p3 : Int32) (hX : ∀ X, fk_X l D (fk_ty cI cT cJ) yX2_wake wsX2_wake rx_pub [.ref (ad 0), .int p0, .int p1, .int p2, .int p3] (fk_kW ad cI cT S ++ X) "java/lang/IllegalStateException") : fk_L l D (fk_ty cI cT cJ) yL_wake wsL_wake rm_L [.ref (ad 0), .int p0, .int p1, .int p2, .int p3, .ref o] (fk_kW ad cI cT S ++ (o, fk_ou cJ f) :: X) (some (.int 3)) (fk_kW ad cI cT S ++ (o, fk_ou cJ f) :: X) := by
  refine fk_L_of (cc := cL_wake) (maxL := 7) (ret := some .int) (own := RL) (hh := [(0, 14, 17, 13), (0, 14, 21, 32), (0, 14, 25, 15)]) (by decide) rfl rfl (Nat.le_of_ble_eq_true rfl) ?_
  intro p e s m below meth c A ls hx hb hr hlocks hml hts hown htab hA hP hK hD hZ hN hl
  have hS : va_S A s.heap s.heap [] := va_S.rf
  have hl : lv_has ls 7 [(0, .ref (ad 0)), (1, .int p0), (2, .int p1), (3, .int p2), (4, .int p3), (5, .ref o)] := hl
  refine lv_aload hx hb dL_wake_0 (lv_at hl 5 rfl) ?_
  refine lv_iconst (v := 0) hx hb dL_wake_2 (by decide) ?_
  refine lv_aload_n hx hb dL_wake_3 rfl (lv_at hl 0 rfl) ?_
  refine lv_iload_n hx hb dL_wake_4 rfl (lv_at hl 1 rfl) ?_
  refine lv_iload_n hx hb dL_wake_5 rfl (lv_at hl 2 rfl) ?_
  refine lv_iload_n hx hb dL_wake_6 rfl (lv_at hl 3 rfl) ?_
  refine lv_iload hx hb dL_wake_7 (lv_at hl 4 rfl) ?_
  refine fk_xcallV (As := [.int p0, .int p1, .int p2, .int p3]) (rest := [.int 0, .ref o]) ⟨hx, hb, hml, hown, hts⟩ (hX _) (cwV 4 hts gL_wake_X2_wake rfl rfl rfl (by decide +kernel) ⟨Nat.le_of_ble_eq_true rfl, Nat.le_of_ble_eq_true rfl⟩) (fk_rvK hK hP) hK hP hD hS hA hZ rfl hl.1 rfl (Nat.le_of_ble_eq_true rfl) dL_wake_9 ⟨Nat.le_of_ble_eq_true rfl, Nat.le_of_ble_eq_true rfl⟩ (fk_caught (x := (0, 14, 25, 15)) [(0, 14, 17, 13), (0, 14, 21, 32)] [] hown htab rfl rfl (List.forall_mem_cons.mpr ⟨⟨by decide, _, hts _ (List.mem_of_getElem? (i := 1) rfl), hN.1⟩, (List.forall_mem_cons.mpr ⟨⟨by decide, _, hts _ (List.mem_of_getElem? (i := 2) rfl), hN.2.2⟩, (fun _ h9 => absurd h9 List.not_mem_nil)⟩)⟩) (by decide) (by decide) (hts _ (List.mem_of_getElem? (i := 3) rfl)) hZ fk_cast2 (fun q9 H locs hP hS => ?_))
  refine lv_astore (lv' := [(6, .ref q9), (0, .ref (ad 0)), (1, .int p0), (2, .int p1), (3, .int p2), (4, .int p3), (5, .ref o)]) hx hb dL_wake_25 hl (by decide) rfl (fun ls hl => ?_)
  refine lv_iconst (v := 3) hx hb dL_wake_27 (by decide) ?_
  exact fk_iretL (Nat.le_of_ble_eq_true rfl) (Nat.le_of_ble_eq_true rfl) hx hb hr hlocks hP hK hD hS rfl rfl dL_wake_28

set_option maxHeartbeats 4000000 in
set_option maxRecDepth 100000 in
theorem Lc_requeue (l : Launch) (D : va_G) (ad : Nat → Nat) (cI cT cJ : ClassId) (X : va_W) (S : fk_S) (o : Nat) (f : Nat → Int64) (p0 p1 p2 p3 p4 p5 : Int32) (S1 : fk_S) (v : Int32) (hC : ∀ X, fk_C l D (fk_ty cI cT cJ) yX2_requeue wsX2_requeue rmX2_requeue [.ref (ad 0), .int p0, .int p1, .int p2, .int p3, .int p4, .int p5] (fk_kW ad cI cT S ++ X) (some (.int v)) (fk_kW ad cI cT S1 ++ X)) : fk_L l D (fk_ty cI cT cJ) yL_requeue wsL_requeue rm_L [.ref (ad 0), .int p0, .int p1, .int p2, .int p3, .int p4, .int p5, .ref o] (fk_kW ad cI cT S ++ (o, fk_ou cJ f) :: X) (some (.int 0)) (fk_kW ad cI cT S1 ++ (o, fk_ou cJ (vp_updL f 0 v.toInt64)) :: X) := by
  refine fk_L_of (cc := cL_requeue) (maxL := 9) (ret := some .int) (own := RL) (hh := [(0, 18, 21, 13), (0, 18, 25, 32), (0, 18, 29, 15)]) (by decide) rfl rfl (Nat.le_of_ble_eq_true rfl) ?_
  intro p e s m below meth c A ls hx hb hr hlocks hml hts hown htab hA hP hK hD hZ hN hl
  have hS : va_S A s.heap s.heap [] := va_S.rf
  have hl : lv_has ls 9 [(0, .ref (ad 0)), (1, .int p0), (2, .int p1), (3, .int p2), (4, .int p3), (5, .int p4), (6, .int p5), (7, .ref o)] := hl
  refine lv_aload hx hb dL_requeue_0 (lv_at hl 7 rfl) ?_
  refine lv_iconst (v := 0) hx hb dL_requeue_2 (by decide) ?_
  refine lv_aload_n hx hb dL_requeue_3 rfl (lv_at hl 0 rfl) ?_
  refine lv_iload_n hx hb dL_requeue_4 rfl (lv_at hl 1 rfl) ?_
  refine lv_iload_n hx hb dL_requeue_5 rfl (lv_at hl 2 rfl) ?_
  refine lv_iload_n hx hb dL_requeue_6 rfl (lv_at hl 3 rfl) ?_
  refine lv_iload hx hb dL_requeue_7 (lv_at hl 4 rfl) ?_
  refine lv_iload hx hb dL_requeue_9 (lv_at hl 5 rfl) ?_
  refine lv_iload hx hb dL_requeue_11 (lv_at hl 6 rfl) ?_
  refine fk_callV (As := [.int p0, .int p1, .int p2, .int p3, .int p4, .int p5]) (rest := [.int 0, .ref o]) ⟨hx, hb, hml, hown, hts⟩ (hC _) (cwV 6 hts gL_requeue_X2_requeue rfl rfl rfl (by decide +kernel) ⟨Nat.le_of_ble_eq_true rfl, Nat.le_of_ble_eq_true rfl⟩) (fk_rvK hK hP) hK hP hD hS hA rfl hl.1 rfl (Nat.le_of_ble_eq_true rfl) dL_requeue_13 ⟨Nat.le_of_ble_eq_true rfl, Nat.le_of_ble_eq_true rfl⟩ (fun H locs hP hD hS => ?_)
  refine W.eq (g2 := F0 m 16 ls [.int v, .int 0, .ref o]) rfl ?_
  refine lv_i2l hx hb dL_requeue_16 rfl ?_
  refine va_last hx hb hK hP hD hS 27 2 fk_at27 rfl fk_v01 dL_requeue_17 (fun H locs hP hD hS => ?_)
  have hP : va_P D vwCl (fk_kW ad cI cT S1 ++ (o, fk_ou cJ (vp_updL f 0 v.toInt64)) :: X) H := by rw [fk_set27] at hP; exact hP
  have hD : va_D A (fk_kW ad cI cT S1 ++ (o, fk_ou cJ (vp_updL f 0 v.toInt64)) :: X) := by rw [fk_set27] at hD; exact hD
  refine lv_goto (tgt := 33) hx hb dL_requeue_18 (by decide) ?_
  refine lv_iconst (v := 0) hx hb dL_requeue_33 (by decide) ?_
  exact fk_iretL (Nat.zero_le _) (Nat.zero_le _) hx hb hr hlocks hP hK hD hS rfl rfl dL_requeue_34

set_option maxHeartbeats 4000000 in
set_option maxRecDepth 100000 in
theorem Lx_requeue_IO (l : Launch) (D : va_G) (ad : Nat → Nat) (cI cT cJ : ClassId) (X : va_W) (S : fk_S) (o : Nat) (f : Nat → Int64) (p0 p1 p2 p3 p4 p5 : Int32) (hX : ∀ X, fk_X l D (fk_ty cI cT cJ) yX2_requeue wsX2_requeue rx_pub [.ref (ad 0), .int p0, .int p1, .int p2, .int p3, .int p4, .int p5] (fk_kW ad cI cT S ++ X) "java/lang/IndexOutOfBoundsException") : fk_L l D (fk_ty cI cT cJ) yL_requeue wsL_requeue rm_L [.ref (ad 0), .int p0, .int p1, .int p2, .int p3, .int p4, .int p5, .ref o] (fk_kW ad cI cT S ++ (o, fk_ou cJ f) :: X) (some (.int 1)) (fk_kW ad cI cT S ++ (o, fk_ou cJ f) :: X) := by
  refine fk_L_of (cc := cL_requeue) (maxL := 9) (ret := some .int) (own := RL) (hh := [(0, 18, 21, 13), (0, 18, 25, 32), (0, 18, 29, 15)]) (by decide) rfl rfl (Nat.le_of_ble_eq_true rfl) ?_
  intro p e s m below meth c A ls hx hb hr hlocks hml hts hown htab hA hP hK hD hZ hN hl
  have hS : va_S A s.heap s.heap [] := va_S.rf
  have hl : lv_has ls 9 [(0, .ref (ad 0)), (1, .int p0), (2, .int p1), (3, .int p2), (4, .int p3), (5, .int p4), (6, .int p5), (7, .ref o)] := hl
  refine lv_aload hx hb dL_requeue_0 (lv_at hl 7 rfl) ?_
  refine lv_iconst (v := 0) hx hb dL_requeue_2 (by decide) ?_
  refine lv_aload_n hx hb dL_requeue_3 rfl (lv_at hl 0 rfl) ?_
  refine lv_iload_n hx hb dL_requeue_4 rfl (lv_at hl 1 rfl) ?_
  refine lv_iload_n hx hb dL_requeue_5 rfl (lv_at hl 2 rfl) ?_
  refine lv_iload_n hx hb dL_requeue_6 rfl (lv_at hl 3 rfl) ?_
  refine lv_iload hx hb dL_requeue_7 (lv_at hl 4 rfl) ?_
  refine lv_iload hx hb dL_requeue_9 (lv_at hl 5 rfl) ?_
  refine lv_iload hx hb dL_requeue_11 (lv_at hl 6 rfl) ?_
  refine fk_xcallV (As := [.int p0, .int p1, .int p2, .int p3, .int p4, .int p5]) (rest := [.int 0, .ref o]) ⟨hx, hb, hml, hown, hts⟩ (hX _) (cwV 6 hts gL_requeue_X2_requeue rfl rfl rfl (by decide +kernel) ⟨Nat.le_of_ble_eq_true rfl, Nat.le_of_ble_eq_true rfl⟩) (fk_rvK hK hP) hK hP hD hS hA hZ rfl hl.1 rfl (Nat.le_of_ble_eq_true rfl) dL_requeue_13 ⟨Nat.le_of_ble_eq_true rfl, Nat.le_of_ble_eq_true rfl⟩ (fk_caught (x := (0, 18, 21, 13)) [] [(0, 18, 25, 32), (0, 18, 29, 15)] hown htab rfl rfl (fun _ h9 => absurd h9 List.not_mem_nil) (by decide) (by decide) (hts _ (List.mem_of_getElem? (i := 1) rfl)) hZ fk_cast1 (fun q9 H locs hP hS => ?_))
  refine lv_astore (lv' := [(8, .ref q9), (0, .ref (ad 0)), (1, .int p0), (2, .int p1), (3, .int p2), (4, .int p3), (5, .int p4), (6, .int p5), (7, .ref o)]) hx hb dL_requeue_21 hl (by decide) rfl (fun ls hl => ?_)
  refine lv_iconst (v := 1) hx hb dL_requeue_23 (by decide) ?_
  exact fk_iretL (Nat.le_of_ble_eq_true rfl) (Nat.le_of_ble_eq_true rfl) hx hb hr hlocks hP hK hD hS rfl rfl dL_requeue_24

set_option maxHeartbeats 4000000 in
set_option maxRecDepth 100000 in
theorem Lx_requeue_IA (l : Launch) (D : va_G) (ad : Nat → Nat) (cI cT cJ : ClassId) (X : va_W) (S : fk_S) (o : Nat) (f : Nat → Int64) (p0 p1 p2 p3 p4 p5 : Int32) (hX : ∀ X, fk_X l D (fk_ty cI cT cJ) yX2_requeue wsX2_requeue rx_pub [.ref (ad 0), .int p0, .int p1, .int p2, .int p3, .int p4, .int p5] (fk_kW ad cI cT S ++ X) "java/lang/IllegalArgumentException") : fk_L l D (fk_ty cI cT cJ) yL_requeue wsL_requeue rm_L [.ref (ad 0), .int p0, .int p1, .int p2, .int p3, .int p4, .int p5, .ref o] (fk_kW ad cI cT S ++ (o, fk_ou cJ f) :: X) (some (.int 2)) (fk_kW ad cI cT S ++ (o, fk_ou cJ f) :: X) := by
  refine fk_L_of (cc := cL_requeue) (maxL := 9) (ret := some .int) (own := RL) (hh := [(0, 18, 21, 13), (0, 18, 25, 32), (0, 18, 29, 15)]) (by decide) rfl rfl (Nat.le_of_ble_eq_true rfl) ?_
  intro p e s m below meth c A ls hx hb hr hlocks hml hts hown htab hA hP hK hD hZ hN hl
  have hS : va_S A s.heap s.heap [] := va_S.rf
  have hl : lv_has ls 9 [(0, .ref (ad 0)), (1, .int p0), (2, .int p1), (3, .int p2), (4, .int p3), (5, .int p4), (6, .int p5), (7, .ref o)] := hl
  refine lv_aload hx hb dL_requeue_0 (lv_at hl 7 rfl) ?_
  refine lv_iconst (v := 0) hx hb dL_requeue_2 (by decide) ?_
  refine lv_aload_n hx hb dL_requeue_3 rfl (lv_at hl 0 rfl) ?_
  refine lv_iload_n hx hb dL_requeue_4 rfl (lv_at hl 1 rfl) ?_
  refine lv_iload_n hx hb dL_requeue_5 rfl (lv_at hl 2 rfl) ?_
  refine lv_iload_n hx hb dL_requeue_6 rfl (lv_at hl 3 rfl) ?_
  refine lv_iload hx hb dL_requeue_7 (lv_at hl 4 rfl) ?_
  refine lv_iload hx hb dL_requeue_9 (lv_at hl 5 rfl) ?_
  refine lv_iload hx hb dL_requeue_11 (lv_at hl 6 rfl) ?_
  refine fk_xcallV (As := [.int p0, .int p1, .int p2, .int p3, .int p4, .int p5]) (rest := [.int 0, .ref o]) ⟨hx, hb, hml, hown, hts⟩ (hX _) (cwV 6 hts gL_requeue_X2_requeue rfl rfl rfl (by decide +kernel) ⟨Nat.le_of_ble_eq_true rfl, Nat.le_of_ble_eq_true rfl⟩) (fk_rvK hK hP) hK hP hD hS hA hZ rfl hl.1 rfl (Nat.le_of_ble_eq_true rfl) dL_requeue_13 ⟨Nat.le_of_ble_eq_true rfl, Nat.le_of_ble_eq_true rfl⟩ (fk_caught (x := (0, 18, 25, 32)) [(0, 18, 21, 13)] [(0, 18, 29, 15)] hown htab rfl rfl (List.forall_mem_cons.mpr ⟨⟨by decide, _, hts _ (List.mem_of_getElem? (i := 1) rfl), hN.2.1⟩, (fun _ h9 => absurd h9 List.not_mem_nil)⟩) (by decide) (by decide) (hts _ (List.mem_of_getElem? (i := 2) rfl)) hZ fk_cast3 (fun q9 H locs hP hS => ?_))
  refine lv_astore (lv' := [(8, .ref q9), (0, .ref (ad 0)), (1, .int p0), (2, .int p1), (3, .int p2), (4, .int p3), (5, .int p4), (6, .int p5), (7, .ref o)]) hx hb dL_requeue_25 hl (by decide) rfl (fun ls hl => ?_)
  refine lv_iconst (v := 2) hx hb dL_requeue_27 (by decide) ?_
  exact fk_iretL (Nat.le_of_ble_eq_true rfl) (Nat.le_of_ble_eq_true rfl) hx hb hr hlocks hP hK hD hS rfl rfl dL_requeue_28

set_option maxHeartbeats 4000000 in
set_option maxRecDepth 100000 in
theorem Lx_requeue_IS (l : Launch) (D : va_G) (ad : Nat → Nat) (cI cT cJ : ClassId) (X : va_W) (S : fk_S) (o : Nat) (f : Nat → Int64) (p0 p1 p2 p3 p4 p5 : Int32) (hX : ∀ X, fk_X l D (fk_ty cI cT cJ) yX2_requeue wsX2_requeue rx_pub [.ref (ad 0), .int p0, .int p1, .int p2, .int p3, .int p4, .int p5] (fk_kW ad cI cT S ++ X) "java/lang/IllegalStateException") : fk_L l D (fk_ty cI cT cJ) yL_requeue wsL_requeue rm_L [.ref (ad 0), .int p0, .int p1, .int p2, .int p3, .int p4, .int p5, .ref o] (fk_kW ad cI cT S ++ (o, fk_ou cJ f) :: X) (some (.int 3)) (fk_kW ad cI cT S ++ (o, fk_ou cJ f) :: X) := by
  refine fk_L_of (cc := cL_requeue) (maxL := 9) (ret := some .int) (own := RL) (hh := [(0, 18, 21, 13), (0, 18, 25, 32), (0, 18, 29, 15)]) (by decide) rfl rfl (Nat.le_of_ble_eq_true rfl) ?_
  intro p e s m below meth c A ls hx hb hr hlocks hml hts hown htab hA hP hK hD hZ hN hl
  have hS : va_S A s.heap s.heap [] := va_S.rf
  have hl : lv_has ls 9 [(0, .ref (ad 0)), (1, .int p0), (2, .int p1), (3, .int p2), (4, .int p3), (5, .int p4), (6, .int p5), (7, .ref o)] := hl
  refine lv_aload hx hb dL_requeue_0 (lv_at hl 7 rfl) ?_
  refine lv_iconst (v := 0) hx hb dL_requeue_2 (by decide) ?_
  refine lv_aload_n hx hb dL_requeue_3 rfl (lv_at hl 0 rfl) ?_
  refine lv_iload_n hx hb dL_requeue_4 rfl (lv_at hl 1 rfl) ?_
  refine lv_iload_n hx hb dL_requeue_5 rfl (lv_at hl 2 rfl) ?_
  refine lv_iload_n hx hb dL_requeue_6 rfl (lv_at hl 3 rfl) ?_
  refine lv_iload hx hb dL_requeue_7 (lv_at hl 4 rfl) ?_
  refine lv_iload hx hb dL_requeue_9 (lv_at hl 5 rfl) ?_
  refine lv_iload hx hb dL_requeue_11 (lv_at hl 6 rfl) ?_
  refine fk_xcallV (As := [.int p0, .int p1, .int p2, .int p3, .int p4, .int p5]) (rest := [.int 0, .ref o]) ⟨hx, hb, hml, hown, hts⟩ (hX _) (cwV 6 hts gL_requeue_X2_requeue rfl rfl rfl (by decide +kernel) ⟨Nat.le_of_ble_eq_true rfl, Nat.le_of_ble_eq_true rfl⟩) (fk_rvK hK hP) hK hP hD hS hA hZ rfl hl.1 rfl (Nat.le_of_ble_eq_true rfl) dL_requeue_13 ⟨Nat.le_of_ble_eq_true rfl, Nat.le_of_ble_eq_true rfl⟩ (fk_caught (x := (0, 18, 29, 15)) [(0, 18, 21, 13), (0, 18, 25, 32)] [] hown htab rfl rfl (List.forall_mem_cons.mpr ⟨⟨by decide, _, hts _ (List.mem_of_getElem? (i := 1) rfl), hN.1⟩, (List.forall_mem_cons.mpr ⟨⟨by decide, _, hts _ (List.mem_of_getElem? (i := 2) rfl), hN.2.2⟩, (fun _ h9 => absurd h9 List.not_mem_nil)⟩)⟩) (by decide) (by decide) (hts _ (List.mem_of_getElem? (i := 3) rfl)) hZ fk_cast2 (fun q9 H locs hP hS => ?_))
  refine lv_astore (lv' := [(8, .ref q9), (0, .ref (ad 0)), (1, .int p0), (2, .int p1), (3, .int p2), (4, .int p3), (5, .int p4), (6, .int p5), (7, .ref o)]) hx hb dL_requeue_29 hl (by decide) rfl (fun ls hl => ?_)
  refine lv_iconst (v := 3) hx hb dL_requeue_31 (by decide) ?_
  exact fk_iretL (Nat.le_of_ble_eq_true rfl) (Nat.le_of_ble_eq_true rfl) hx hb hr hlocks hP hK hD hS rfl rfl dL_requeue_32

set_option maxHeartbeats 4000000 in
set_option maxRecDepth 100000 in
theorem Lc_lock (l : Launch) (D : va_G) (ad : Nat → Nat) (cI cT cJ : ClassId) (X : va_W) (S : fk_S) (o : Nat) (f : Nat → Int64) (p0 p1 p2 : Int32) (S1 : fk_S) (v : Int32) (hC : ∀ X, fk_C l D (fk_ty cI cT cJ) yX2_lock wsX2_lock rmX2_lock [.ref (ad 0), .int p0, .int p1, .int p2] (fk_kW ad cI cT S ++ X) (some (.int v)) (fk_kW ad cI cT S1 ++ X)) : fk_L l D (fk_ty cI cT cJ) yL_lock wsL_lock rm_L [.ref (ad 0), .int p0, .int p1, .int p2, .ref o] (fk_kW ad cI cT S ++ (o, fk_ou cJ f) :: X) (some (.int 0)) (fk_kW ad cI cT S1 ++ (o, fk_ou cJ (vp_updL f 0 v.toInt64)) :: X) := by
  refine fk_L_of (cc := cL_lock) (maxL := 6) (ret := some .int) (own := RL) (hh := [(0, 12, 15, 13), (0, 12, 19, 32), (0, 12, 23, 15)]) (by decide) rfl rfl (Nat.le_of_ble_eq_true rfl) ?_
  intro p e s m below meth c A ls hx hb hr hlocks hml hts hown htab hA hP hK hD hZ hN hl
  have hS : va_S A s.heap s.heap [] := va_S.rf
  have hl : lv_has ls 6 [(0, .ref (ad 0)), (1, .int p0), (2, .int p1), (3, .int p2), (4, .ref o)] := hl
  refine lv_aload hx hb dL_lock_0 (lv_at hl 4 rfl) ?_
  refine lv_iconst (v := 0) hx hb dL_lock_2 (by decide) ?_
  refine lv_aload_n hx hb dL_lock_3 rfl (lv_at hl 0 rfl) ?_
  refine lv_iload_n hx hb dL_lock_4 rfl (lv_at hl 1 rfl) ?_
  refine lv_iload_n hx hb dL_lock_5 rfl (lv_at hl 2 rfl) ?_
  refine lv_iload_n hx hb dL_lock_6 rfl (lv_at hl 3 rfl) ?_
  refine fk_callV (As := [.int p0, .int p1, .int p2]) (rest := [.int 0, .ref o]) ⟨hx, hb, hml, hown, hts⟩ (hC _) (cwV 3 hts gL_lock_X2_lock rfl rfl rfl (by decide +kernel) ⟨Nat.le_of_ble_eq_true rfl, Nat.le_of_ble_eq_true rfl⟩) (fk_rvK hK hP) hK hP hD hS hA rfl hl.1 rfl (Nat.le_of_ble_eq_true rfl) dL_lock_7 ⟨Nat.le_of_ble_eq_true rfl, Nat.le_of_ble_eq_true rfl⟩ (fun H locs hP hD hS => ?_)
  refine W.eq (g2 := F0 m 10 ls [.int v, .int 0, .ref o]) rfl ?_
  refine lv_i2l hx hb dL_lock_10 rfl ?_
  refine va_last hx hb hK hP hD hS 27 2 fk_at27 rfl fk_v01 dL_lock_11 (fun H locs hP hD hS => ?_)
  have hP : va_P D vwCl (fk_kW ad cI cT S1 ++ (o, fk_ou cJ (vp_updL f 0 v.toInt64)) :: X) H := by rw [fk_set27] at hP; exact hP
  have hD : va_D A (fk_kW ad cI cT S1 ++ (o, fk_ou cJ (vp_updL f 0 v.toInt64)) :: X) := by rw [fk_set27] at hD; exact hD
  refine lv_goto (tgt := 27) hx hb dL_lock_12 (by decide) ?_
  refine lv_iconst (v := 0) hx hb dL_lock_27 (by decide) ?_
  exact fk_iretL (Nat.zero_le _) (Nat.zero_le _) hx hb hr hlocks hP hK hD hS rfl rfl dL_lock_28

set_option maxHeartbeats 4000000 in
set_option maxRecDepth 100000 in
theorem Lx_lock_IO (l : Launch) (D : va_G) (ad : Nat → Nat) (cI cT cJ : ClassId) (X : va_W) (S : fk_S) (o : Nat) (f : Nat → Int64) (p0 p1 p2 : Int32) (hX : ∀ X, fk_X l D (fk_ty cI cT cJ) yX2_lock wsX2_lock rx_pub [.ref (ad 0), .int p0, .int p1, .int p2] (fk_kW ad cI cT S ++ X) "java/lang/IndexOutOfBoundsException") : fk_L l D (fk_ty cI cT cJ) yL_lock wsL_lock rm_L [.ref (ad 0), .int p0, .int p1, .int p2, .ref o] (fk_kW ad cI cT S ++ (o, fk_ou cJ f) :: X) (some (.int 1)) (fk_kW ad cI cT S ++ (o, fk_ou cJ f) :: X) := by
  refine fk_L_of (cc := cL_lock) (maxL := 6) (ret := some .int) (own := RL) (hh := [(0, 12, 15, 13), (0, 12, 19, 32), (0, 12, 23, 15)]) (by decide) rfl rfl (Nat.le_of_ble_eq_true rfl) ?_
  intro p e s m below meth c A ls hx hb hr hlocks hml hts hown htab hA hP hK hD hZ hN hl
  have hS : va_S A s.heap s.heap [] := va_S.rf
  have hl : lv_has ls 6 [(0, .ref (ad 0)), (1, .int p0), (2, .int p1), (3, .int p2), (4, .ref o)] := hl
  refine lv_aload hx hb dL_lock_0 (lv_at hl 4 rfl) ?_
  refine lv_iconst (v := 0) hx hb dL_lock_2 (by decide) ?_
  refine lv_aload_n hx hb dL_lock_3 rfl (lv_at hl 0 rfl) ?_
  refine lv_iload_n hx hb dL_lock_4 rfl (lv_at hl 1 rfl) ?_
  refine lv_iload_n hx hb dL_lock_5 rfl (lv_at hl 2 rfl) ?_
  refine lv_iload_n hx hb dL_lock_6 rfl (lv_at hl 3 rfl) ?_
  refine fk_xcallV (As := [.int p0, .int p1, .int p2]) (rest := [.int 0, .ref o]) ⟨hx, hb, hml, hown, hts⟩ (hX _) (cwV 3 hts gL_lock_X2_lock rfl rfl rfl (by decide +kernel) ⟨Nat.le_of_ble_eq_true rfl, Nat.le_of_ble_eq_true rfl⟩) (fk_rvK hK hP) hK hP hD hS hA hZ rfl hl.1 rfl (Nat.le_of_ble_eq_true rfl) dL_lock_7 ⟨Nat.le_of_ble_eq_true rfl, Nat.le_of_ble_eq_true rfl⟩ (fk_caught (x := (0, 12, 15, 13)) [] [(0, 12, 19, 32), (0, 12, 23, 15)] hown htab rfl rfl (fun _ h9 => absurd h9 List.not_mem_nil) (by decide) (by decide) (hts _ (List.mem_of_getElem? (i := 1) rfl)) hZ fk_cast1 (fun q9 H locs hP hS => ?_))
  refine lv_astore (lv' := [(5, .ref q9), (0, .ref (ad 0)), (1, .int p0), (2, .int p1), (3, .int p2), (4, .ref o)]) hx hb dL_lock_15 hl (by decide) rfl (fun ls hl => ?_)
  refine lv_iconst (v := 1) hx hb dL_lock_17 (by decide) ?_
  exact fk_iretL (Nat.le_of_ble_eq_true rfl) (Nat.le_of_ble_eq_true rfl) hx hb hr hlocks hP hK hD hS rfl rfl dL_lock_18

set_option maxHeartbeats 4000000 in
set_option maxRecDepth 100000 in
theorem Lx_lock_IA (l : Launch) (D : va_G) (ad : Nat → Nat) (cI cT cJ : ClassId) (X : va_W) (S : fk_S) (o : Nat) (f : Nat → Int64) (p0 p1 p2 : Int32) (hX : ∀ X, fk_X l D (fk_ty cI cT cJ) yX2_lock wsX2_lock rx_pub [.ref (ad 0), .int p0, .int p1, .int p2] (fk_kW ad cI cT S ++ X) "java/lang/IllegalArgumentException") : fk_L l D (fk_ty cI cT cJ) yL_lock wsL_lock rm_L [.ref (ad 0), .int p0, .int p1, .int p2, .ref o] (fk_kW ad cI cT S ++ (o, fk_ou cJ f) :: X) (some (.int 2)) (fk_kW ad cI cT S ++ (o, fk_ou cJ f) :: X) := by
  refine fk_L_of (cc := cL_lock) (maxL := 6) (ret := some .int) (own := RL) (hh := [(0, 12, 15, 13), (0, 12, 19, 32), (0, 12, 23, 15)]) (by decide) rfl rfl (Nat.le_of_ble_eq_true rfl) ?_
  intro p e s m below meth c A ls hx hb hr hlocks hml hts hown htab hA hP hK hD hZ hN hl
  have hS : va_S A s.heap s.heap [] := va_S.rf
  have hl : lv_has ls 6 [(0, .ref (ad 0)), (1, .int p0), (2, .int p1), (3, .int p2), (4, .ref o)] := hl
  refine lv_aload hx hb dL_lock_0 (lv_at hl 4 rfl) ?_
  refine lv_iconst (v := 0) hx hb dL_lock_2 (by decide) ?_
  refine lv_aload_n hx hb dL_lock_3 rfl (lv_at hl 0 rfl) ?_
  refine lv_iload_n hx hb dL_lock_4 rfl (lv_at hl 1 rfl) ?_
  refine lv_iload_n hx hb dL_lock_5 rfl (lv_at hl 2 rfl) ?_
  refine lv_iload_n hx hb dL_lock_6 rfl (lv_at hl 3 rfl) ?_
  refine fk_xcallV (As := [.int p0, .int p1, .int p2]) (rest := [.int 0, .ref o]) ⟨hx, hb, hml, hown, hts⟩ (hX _) (cwV 3 hts gL_lock_X2_lock rfl rfl rfl (by decide +kernel) ⟨Nat.le_of_ble_eq_true rfl, Nat.le_of_ble_eq_true rfl⟩) (fk_rvK hK hP) hK hP hD hS hA hZ rfl hl.1 rfl (Nat.le_of_ble_eq_true rfl) dL_lock_7 ⟨Nat.le_of_ble_eq_true rfl, Nat.le_of_ble_eq_true rfl⟩ (fk_caught (x := (0, 12, 19, 32)) [(0, 12, 15, 13)] [(0, 12, 23, 15)] hown htab rfl rfl (List.forall_mem_cons.mpr ⟨⟨by decide, _, hts _ (List.mem_of_getElem? (i := 1) rfl), hN.2.1⟩, (fun _ h9 => absurd h9 List.not_mem_nil)⟩) (by decide) (by decide) (hts _ (List.mem_of_getElem? (i := 2) rfl)) hZ fk_cast3 (fun q9 H locs hP hS => ?_))
  refine lv_astore (lv' := [(5, .ref q9), (0, .ref (ad 0)), (1, .int p0), (2, .int p1), (3, .int p2), (4, .ref o)]) hx hb dL_lock_19 hl (by decide) rfl (fun ls hl => ?_)
  refine lv_iconst (v := 2) hx hb dL_lock_21 (by decide) ?_
  exact fk_iretL (Nat.le_of_ble_eq_true rfl) (Nat.le_of_ble_eq_true rfl) hx hb hr hlocks hP hK hD hS rfl rfl dL_lock_22

set_option maxHeartbeats 4000000 in
set_option maxRecDepth 100000 in
theorem Lx_lock_IS (l : Launch) (D : va_G) (ad : Nat → Nat) (cI cT cJ : ClassId) (X : va_W) (S : fk_S) (o : Nat) (f : Nat → Int64) (p0 p1 p2 : Int32) (hX : ∀ X, fk_X l D (fk_ty cI cT cJ) yX2_lock wsX2_lock rx_pub [.ref (ad 0), .int p0, .int p1, .int p2] (fk_kW ad cI cT S ++ X) "java/lang/IllegalStateException") : fk_L l D (fk_ty cI cT cJ) yL_lock wsL_lock rm_L [.ref (ad 0), .int p0, .int p1, .int p2, .ref o] (fk_kW ad cI cT S ++ (o, fk_ou cJ f) :: X) (some (.int 3)) (fk_kW ad cI cT S ++ (o, fk_ou cJ f) :: X) := by
  refine fk_L_of (cc := cL_lock) (maxL := 6) (ret := some .int) (own := RL) (hh := [(0, 12, 15, 13), (0, 12, 19, 32), (0, 12, 23, 15)]) (by decide) rfl rfl (Nat.le_of_ble_eq_true rfl) ?_
  intro p e s m below meth c A ls hx hb hr hlocks hml hts hown htab hA hP hK hD hZ hN hl
  have hS : va_S A s.heap s.heap [] := va_S.rf
  have hl : lv_has ls 6 [(0, .ref (ad 0)), (1, .int p0), (2, .int p1), (3, .int p2), (4, .ref o)] := hl
  refine lv_aload hx hb dL_lock_0 (lv_at hl 4 rfl) ?_
  refine lv_iconst (v := 0) hx hb dL_lock_2 (by decide) ?_
  refine lv_aload_n hx hb dL_lock_3 rfl (lv_at hl 0 rfl) ?_
  refine lv_iload_n hx hb dL_lock_4 rfl (lv_at hl 1 rfl) ?_
  refine lv_iload_n hx hb dL_lock_5 rfl (lv_at hl 2 rfl) ?_
  refine lv_iload_n hx hb dL_lock_6 rfl (lv_at hl 3 rfl) ?_
  refine fk_xcallV (As := [.int p0, .int p1, .int p2]) (rest := [.int 0, .ref o]) ⟨hx, hb, hml, hown, hts⟩ (hX _) (cwV 3 hts gL_lock_X2_lock rfl rfl rfl (by decide +kernel) ⟨Nat.le_of_ble_eq_true rfl, Nat.le_of_ble_eq_true rfl⟩) (fk_rvK hK hP) hK hP hD hS hA hZ rfl hl.1 rfl (Nat.le_of_ble_eq_true rfl) dL_lock_7 ⟨Nat.le_of_ble_eq_true rfl, Nat.le_of_ble_eq_true rfl⟩ (fk_caught (x := (0, 12, 23, 15)) [(0, 12, 15, 13), (0, 12, 19, 32)] [] hown htab rfl rfl (List.forall_mem_cons.mpr ⟨⟨by decide, _, hts _ (List.mem_of_getElem? (i := 1) rfl), hN.1⟩, (List.forall_mem_cons.mpr ⟨⟨by decide, _, hts _ (List.mem_of_getElem? (i := 2) rfl), hN.2.2⟩, (fun _ h9 => absurd h9 List.not_mem_nil)⟩)⟩) (by decide) (by decide) (hts _ (List.mem_of_getElem? (i := 3) rfl)) hZ fk_cast2 (fun q9 H locs hP hS => ?_))
  refine lv_astore (lv' := [(5, .ref q9), (0, .ref (ad 0)), (1, .int p0), (2, .int p1), (3, .int p2), (4, .ref o)]) hx hb dL_lock_23 hl (by decide) rfl (fun ls hl => ?_)
  refine lv_iconst (v := 3) hx hb dL_lock_25 (by decide) ?_
  exact fk_iretL (Nat.le_of_ble_eq_true rfl) (Nat.le_of_ble_eq_true rfl) hx hb hr hlocks hP hK hD hS rfl rfl dL_lock_26
