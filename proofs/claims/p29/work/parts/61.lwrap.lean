abbrev rx_sta : Room := { frames := 8, cells := 1, slots := 6, locals := 180 }
abbrev rmL_starts : Room := { frames := 6, cells := 0, slots := 0, locals := 138 }
set_option maxHeartbeats 4000000 in
set_option maxRecDepth 100000 in
theorem Lc_await (l : Launch) (D : va_G) (ad : Nat → Nat) (cI cT cJ : ClassId) (X : va_W) (S : fk_S) (p0 p1 p2 p3 p4 : Int32) (S1 : fk_S) (v : Bool) (hC : ∀ X, fk_C l D (fk_ty cI cT cJ) yX2_await wsX2_await rmX2_await [.ref (ad 0), .int p0, .int p1, .int p2, .int p3, .int p4] (fk_kW ad cI cT S ++ X) (some (.int (fk_b v))) (fk_kW ad cI cT S1 ++ X)) : fk_L l D (fk_ty cI cT cJ) yL_await wsL_await rm_L [.ref (ad 0), .int p0, .int p1, .int p2, .int p3, .int p4] (fk_kW ad cI cT S ++ X) (some (.int (fk_b v))) (fk_kW ad cI cT S1 ++ X) := by
  refine fk_L_of (cc := cL_await) (maxL := 7) (ret := some .int) (own := RL) (hh := [(0, 19, 20, 15), (0, 19, 25, 18), (0, 19, 30, 21)]) (by decide) rfl rfl (Nat.le_of_ble_eq_true rfl) ?_
  intro p e s m below meth c A ls hx hb hr hlocks hml hts hown htab hA hP hK hD hZ hN hl
  have hS : va_S A s.heap s.heap [] := va_S.rf
  have hl : lv_has ls 7 [(0, .ref (ad 0)), (1, .int p0), (2, .int p1), (3, .int p2), (4, .int p3), (5, .int p4)] := hl
  refine lv_aload_n hx hb dL_await_0 rfl (lv_at hl 0 rfl) ?_
  refine lv_iload_n hx hb dL_await_1 rfl (lv_at hl 1 rfl) ?_
  refine lv_iload_n hx hb dL_await_2 rfl (lv_at hl 2 rfl) ?_
  refine lv_iload_n hx hb dL_await_3 rfl (lv_at hl 3 rfl) ?_
  refine lv_iload hx hb dL_await_4 (lv_at hl 4 rfl) ?_
  refine lv_iload hx hb dL_await_6 (lv_at hl 5 rfl) ?_
  refine fk_callV (As := [.int p0, .int p1, .int p2, .int p3, .int p4]) (rest := []) ⟨hx, hb, hml, hown, hts⟩ (hC _) (cwV 5 hts gL_await_X2_await rfl rfl rfl (by decide +kernel) ⟨Nat.le_of_ble_eq_true rfl, Nat.le_of_ble_eq_true rfl⟩) (fk_rvK hK hP) hK hP hD hS hA rfl hl.1 rfl (Nat.le_of_ble_eq_true rfl) dL_await_8 ⟨Nat.le_of_ble_eq_true rfl, Nat.le_of_ble_eq_true rfl⟩ (fun H locs hP hD hS => ?_)
  cases v with
  | true =>
    refine W.eq (g2 := F0 m 11 ls [.int 1]) rfl ?_
    refine lv_if_eq (tgt := 18) hx hb dL_await_11 (by decide) (fun c => absurd c (by decide)) (fun _ => ?_)
    refine lv_iconst (v := 1) hx hb dL_await_14 (by decide) ?_
    refine lv_goto (tgt := 19) hx hb dL_await_15 (by decide) ?_
    exact fk_iretL (Nat.le_of_ble_eq_true rfl) (Nat.le_of_ble_eq_true rfl) hx hb hr hlocks hP hK hD hS rfl rfl dL_await_19
  | false =>
    refine W.eq (g2 := F0 m 11 ls [.int 0]) rfl ?_
    refine lv_if_eq (tgt := 18) hx hb dL_await_11 (by decide) (fun _ => ?_) (fun c => absurd c (by decide))
    refine lv_iconst (v := 0) hx hb dL_await_18 (by decide) ?_
    exact fk_iretL (Nat.le_of_ble_eq_true rfl) (Nat.le_of_ble_eq_true rfl) hx hb hr hlocks hP hK hD hS rfl rfl dL_await_19

set_option maxHeartbeats 4000000 in
set_option maxRecDepth 100000 in
theorem Lx_await_IO (l : Launch) (D : va_G) (ad : Nat → Nat) (cI cT cJ : ClassId) (X : va_W) (S : fk_S) (p0 p1 p2 p3 p4 : Int32) (hX : ∀ X, fk_X l D (fk_ty cI cT cJ) yX2_await wsX2_await rx_pub [.ref (ad 0), .int p0, .int p1, .int p2, .int p3, .int p4] (fk_kW ad cI cT S ++ X) "java/lang/IndexOutOfBoundsException") : fk_L l D (fk_ty cI cT cJ) yL_await wsL_await rm_L [.ref (ad 0), .int p0, .int p1, .int p2, .int p3, .int p4] (fk_kW ad cI cT S ++ X) (some (.int (-2147483201))) (fk_kW ad cI cT S ++ X) := by
  refine fk_L_of (cc := cL_await) (maxL := 7) (ret := some .int) (own := RL) (hh := [(0, 19, 20, 15), (0, 19, 25, 18), (0, 19, 30, 21)]) (by decide) rfl rfl (Nat.le_of_ble_eq_true rfl) ?_
  intro p e s m below meth c A ls hx hb hr hlocks hml hts hown htab hA hP hK hD hZ hN hl
  have hS : va_S A s.heap s.heap [] := va_S.rf
  have hl : lv_has ls 7 [(0, .ref (ad 0)), (1, .int p0), (2, .int p1), (3, .int p2), (4, .int p3), (5, .int p4)] := hl
  refine lv_aload_n hx hb dL_await_0 rfl (lv_at hl 0 rfl) ?_
  refine lv_iload_n hx hb dL_await_1 rfl (lv_at hl 1 rfl) ?_
  refine lv_iload_n hx hb dL_await_2 rfl (lv_at hl 2 rfl) ?_
  refine lv_iload_n hx hb dL_await_3 rfl (lv_at hl 3 rfl) ?_
  refine lv_iload hx hb dL_await_4 (lv_at hl 4 rfl) ?_
  refine lv_iload hx hb dL_await_6 (lv_at hl 5 rfl) ?_
  refine fk_xcallV (As := [.int p0, .int p1, .int p2, .int p3, .int p4]) (rest := []) ⟨hx, hb, hml, hown, hts⟩ (hX _) (cwV 5 hts gL_await_X2_await rfl rfl rfl (by decide +kernel) ⟨Nat.le_of_ble_eq_true rfl, Nat.le_of_ble_eq_true rfl⟩) (fk_rvK hK hP) hK hP hD hS hA hZ rfl hl.1 rfl (Nat.le_of_ble_eq_true rfl) dL_await_8 ⟨Nat.le_of_ble_eq_true rfl, Nat.le_of_ble_eq_true rfl⟩ (fk_caught (x := (0, 19, 20, 15)) [] [(0, 19, 25, 18), (0, 19, 30, 21)] hown htab rfl rfl (fun _ h9 => absurd h9 List.not_mem_nil) (by decide) (by decide) (hts _ (List.mem_of_getElem? (i := 1) rfl)) hZ fk_cast1 (fun q9 H locs hP hS => ?_))
  refine lv_astore (lv' := [(6, .ref q9), (0, .ref (ad 0)), (1, .int p0), (2, .int p1), (3, .int p2), (4, .int p3), (5, .int p4)]) hx hb dL_await_20 hl (by decide) rfl (fun ls hl => ?_)
  refine lv_ldc (own := RL) (v := (-2147483201)) hx hb hown (hts (.constant RL 17 (-2147483201)) (List.mem_of_getElem? (i := 4) rfl)) dL_await_22 ?_
  exact fk_iretL (Nat.le_of_ble_eq_true rfl) (Nat.le_of_ble_eq_true rfl) hx hb hr hlocks hP hK hD hS rfl rfl dL_await_24

set_option maxHeartbeats 4000000 in
set_option maxRecDepth 100000 in
theorem Lx_await_IA (l : Launch) (D : va_G) (ad : Nat → Nat) (cI cT cJ : ClassId) (X : va_W) (S : fk_S) (p0 p1 p2 p3 p4 : Int32) (hX : ∀ X, fk_X l D (fk_ty cI cT cJ) yX2_await wsX2_await rx_pub [.ref (ad 0), .int p0, .int p1, .int p2, .int p3, .int p4] (fk_kW ad cI cT S ++ X) "java/lang/IllegalArgumentException") : fk_L l D (fk_ty cI cT cJ) yL_await wsL_await rm_L [.ref (ad 0), .int p0, .int p1, .int p2, .int p3, .int p4] (fk_kW ad cI cT S ++ X) (some (.int (-2147483202))) (fk_kW ad cI cT S ++ X) := by
  refine fk_L_of (cc := cL_await) (maxL := 7) (ret := some .int) (own := RL) (hh := [(0, 19, 20, 15), (0, 19, 25, 18), (0, 19, 30, 21)]) (by decide) rfl rfl (Nat.le_of_ble_eq_true rfl) ?_
  intro p e s m below meth c A ls hx hb hr hlocks hml hts hown htab hA hP hK hD hZ hN hl
  have hS : va_S A s.heap s.heap [] := va_S.rf
  have hl : lv_has ls 7 [(0, .ref (ad 0)), (1, .int p0), (2, .int p1), (3, .int p2), (4, .int p3), (5, .int p4)] := hl
  refine lv_aload_n hx hb dL_await_0 rfl (lv_at hl 0 rfl) ?_
  refine lv_iload_n hx hb dL_await_1 rfl (lv_at hl 1 rfl) ?_
  refine lv_iload_n hx hb dL_await_2 rfl (lv_at hl 2 rfl) ?_
  refine lv_iload_n hx hb dL_await_3 rfl (lv_at hl 3 rfl) ?_
  refine lv_iload hx hb dL_await_4 (lv_at hl 4 rfl) ?_
  refine lv_iload hx hb dL_await_6 (lv_at hl 5 rfl) ?_
  refine fk_xcallV (As := [.int p0, .int p1, .int p2, .int p3, .int p4]) (rest := []) ⟨hx, hb, hml, hown, hts⟩ (hX _) (cwV 5 hts gL_await_X2_await rfl rfl rfl (by decide +kernel) ⟨Nat.le_of_ble_eq_true rfl, Nat.le_of_ble_eq_true rfl⟩) (fk_rvK hK hP) hK hP hD hS hA hZ rfl hl.1 rfl (Nat.le_of_ble_eq_true rfl) dL_await_8 ⟨Nat.le_of_ble_eq_true rfl, Nat.le_of_ble_eq_true rfl⟩ (fk_caught (x := (0, 19, 25, 18)) [(0, 19, 20, 15)] [(0, 19, 30, 21)] hown htab rfl rfl (List.forall_mem_cons.mpr ⟨⟨by decide, _, hts _ (List.mem_of_getElem? (i := 1) rfl), hN.2.1⟩, (fun _ h9 => absurd h9 List.not_mem_nil)⟩) (by decide) (by decide) (hts _ (List.mem_of_getElem? (i := 2) rfl)) hZ fk_cast3 (fun q9 H locs hP hS => ?_))
  refine lv_astore (lv' := [(6, .ref q9), (0, .ref (ad 0)), (1, .int p0), (2, .int p1), (3, .int p2), (4, .int p3), (5, .int p4)]) hx hb dL_await_25 hl (by decide) rfl (fun ls hl => ?_)
  refine lv_ldc (own := RL) (v := (-2147483202)) hx hb hown (hts (.constant RL 20 (-2147483202)) (List.mem_of_getElem? (i := 5) rfl)) dL_await_27 ?_
  exact fk_iretL (Nat.le_of_ble_eq_true rfl) (Nat.le_of_ble_eq_true rfl) hx hb hr hlocks hP hK hD hS rfl rfl dL_await_29

set_option maxHeartbeats 4000000 in
set_option maxRecDepth 100000 in
theorem Lx_await_IS (l : Launch) (D : va_G) (ad : Nat → Nat) (cI cT cJ : ClassId) (X : va_W) (S : fk_S) (p0 p1 p2 p3 p4 : Int32) (hX : ∀ X, fk_X l D (fk_ty cI cT cJ) yX2_await wsX2_await rx_pub [.ref (ad 0), .int p0, .int p1, .int p2, .int p3, .int p4] (fk_kW ad cI cT S ++ X) "java/lang/IllegalStateException") : fk_L l D (fk_ty cI cT cJ) yL_await wsL_await rm_L [.ref (ad 0), .int p0, .int p1, .int p2, .int p3, .int p4] (fk_kW ad cI cT S ++ X) (some (.int (-2147483203))) (fk_kW ad cI cT S ++ X) := by
  refine fk_L_of (cc := cL_await) (maxL := 7) (ret := some .int) (own := RL) (hh := [(0, 19, 20, 15), (0, 19, 25, 18), (0, 19, 30, 21)]) (by decide) rfl rfl (Nat.le_of_ble_eq_true rfl) ?_
  intro p e s m below meth c A ls hx hb hr hlocks hml hts hown htab hA hP hK hD hZ hN hl
  have hS : va_S A s.heap s.heap [] := va_S.rf
  have hl : lv_has ls 7 [(0, .ref (ad 0)), (1, .int p0), (2, .int p1), (3, .int p2), (4, .int p3), (5, .int p4)] := hl
  refine lv_aload_n hx hb dL_await_0 rfl (lv_at hl 0 rfl) ?_
  refine lv_iload_n hx hb dL_await_1 rfl (lv_at hl 1 rfl) ?_
  refine lv_iload_n hx hb dL_await_2 rfl (lv_at hl 2 rfl) ?_
  refine lv_iload_n hx hb dL_await_3 rfl (lv_at hl 3 rfl) ?_
  refine lv_iload hx hb dL_await_4 (lv_at hl 4 rfl) ?_
  refine lv_iload hx hb dL_await_6 (lv_at hl 5 rfl) ?_
  refine fk_xcallV (As := [.int p0, .int p1, .int p2, .int p3, .int p4]) (rest := []) ⟨hx, hb, hml, hown, hts⟩ (hX _) (cwV 5 hts gL_await_X2_await rfl rfl rfl (by decide +kernel) ⟨Nat.le_of_ble_eq_true rfl, Nat.le_of_ble_eq_true rfl⟩) (fk_rvK hK hP) hK hP hD hS hA hZ rfl hl.1 rfl (Nat.le_of_ble_eq_true rfl) dL_await_8 ⟨Nat.le_of_ble_eq_true rfl, Nat.le_of_ble_eq_true rfl⟩ (fk_caught (x := (0, 19, 30, 21)) [(0, 19, 20, 15), (0, 19, 25, 18)] [] hown htab rfl rfl (List.forall_mem_cons.mpr ⟨⟨by decide, _, hts _ (List.mem_of_getElem? (i := 1) rfl), hN.1⟩, (List.forall_mem_cons.mpr ⟨⟨by decide, _, hts _ (List.mem_of_getElem? (i := 2) rfl), hN.2.2⟩, (fun _ h9 => absurd h9 List.not_mem_nil)⟩)⟩) (by decide) (by decide) (hts _ (List.mem_of_getElem? (i := 3) rfl)) hZ fk_cast2 (fun q9 H locs hP hS => ?_))
  refine lv_astore (lv' := [(6, .ref q9), (0, .ref (ad 0)), (1, .int p0), (2, .int p1), (3, .int p2), (4, .int p3), (5, .int p4)]) hx hb dL_await_30 hl (by decide) rfl (fun ls hl => ?_)
  refine lv_ldc (own := RL) (v := (-2147483203)) hx hb hown (hts (.constant RL 23 (-2147483203)) (List.mem_of_getElem? (i := 6) rfl)) dL_await_32 ?_
  exact fk_iretL (Nat.le_of_ble_eq_true rfl) (Nat.le_of_ble_eq_true rfl) hx hb hr hlocks hP hK hD hS rfl rfl dL_await_34

set_option maxHeartbeats 4000000 in
set_option maxRecDepth 100000 in
theorem Lc_requeue (l : Launch) (D : va_G) (ad : Nat → Nat) (cI cT cJ : ClassId) (X : va_W) (S : fk_S) (p0 p1 p2 p3 p4 p5 : Int32) (S1 : fk_S) (v : Int32) (hC : ∀ X, fk_C l D (fk_ty cI cT cJ) yX2_requeue wsX2_requeue rmX2_requeue [.ref (ad 0), .int p0, .int p1, .int p2, .int p3, .int p4, .int p5] (fk_kW ad cI cT S ++ X) (some (.int v)) (fk_kW ad cI cT S1 ++ X)) : fk_L l D (fk_ty cI cT cJ) yL_requeue wsL_requeue rm_L [.ref (ad 0), .int p0, .int p1, .int p2, .int p3, .int p4, .int p5] (fk_kW ad cI cT S ++ X) (some (.int v)) (fk_kW ad cI cT S1 ++ X) := by
  refine fk_L_of (cc := cL_requeue) (maxL := 8) (ret := some .int) (own := RL) (hh := [(0, 13, 14, 15), (0, 13, 19, 18), (0, 13, 24, 21)]) (by decide) rfl rfl (Nat.le_of_ble_eq_true rfl) ?_
  intro p e s m below meth c A ls hx hb hr hlocks hml hts hown htab hA hP hK hD hZ hN hl
  have hS : va_S A s.heap s.heap [] := va_S.rf
  have hl : lv_has ls 8 [(0, .ref (ad 0)), (1, .int p0), (2, .int p1), (3, .int p2), (4, .int p3), (5, .int p4), (6, .int p5)] := hl
  refine lv_aload_n hx hb dL_requeue_0 rfl (lv_at hl 0 rfl) ?_
  refine lv_iload_n hx hb dL_requeue_1 rfl (lv_at hl 1 rfl) ?_
  refine lv_iload_n hx hb dL_requeue_2 rfl (lv_at hl 2 rfl) ?_
  refine lv_iload_n hx hb dL_requeue_3 rfl (lv_at hl 3 rfl) ?_
  refine lv_iload hx hb dL_requeue_4 (lv_at hl 4 rfl) ?_
  refine lv_iload hx hb dL_requeue_6 (lv_at hl 5 rfl) ?_
  refine lv_iload hx hb dL_requeue_8 (lv_at hl 6 rfl) ?_
  refine fk_callV (As := [.int p0, .int p1, .int p2, .int p3, .int p4, .int p5]) (rest := []) ⟨hx, hb, hml, hown, hts⟩ (hC _) (cwV 6 hts gL_requeue_X2_requeue rfl rfl rfl (by decide +kernel) ⟨Nat.le_of_ble_eq_true rfl, Nat.le_of_ble_eq_true rfl⟩) (fk_rvK hK hP) hK hP hD hS hA rfl hl.1 rfl (Nat.le_of_ble_eq_true rfl) dL_requeue_10 ⟨Nat.le_of_ble_eq_true rfl, Nat.le_of_ble_eq_true rfl⟩ (fun H locs hP hD hS => ?_)
  refine W.eq (g2 := F0 m 13 ls [.int v]) rfl ?_
  exact fk_iretL (Nat.le_of_ble_eq_true rfl) (Nat.le_of_ble_eq_true rfl) hx hb hr hlocks hP hK hD hS rfl rfl dL_requeue_13

set_option maxHeartbeats 4000000 in
set_option maxRecDepth 100000 in
theorem Lx_requeue_IO (l : Launch) (D : va_G) (ad : Nat → Nat) (cI cT cJ : ClassId) (X : va_W) (S : fk_S) (p0 p1 p2 p3 p4 p5 : Int32) (hX : ∀ X, fk_X l D (fk_ty cI cT cJ) yX2_requeue wsX2_requeue rx_pub [.ref (ad 0), .int p0, .int p1, .int p2, .int p3, .int p4, .int p5] (fk_kW ad cI cT S ++ X) "java/lang/IndexOutOfBoundsException") : fk_L l D (fk_ty cI cT cJ) yL_requeue wsL_requeue rm_L [.ref (ad 0), .int p0, .int p1, .int p2, .int p3, .int p4, .int p5] (fk_kW ad cI cT S ++ X) (some (.int (-2147483201))) (fk_kW ad cI cT S ++ X) := by
  refine fk_L_of (cc := cL_requeue) (maxL := 8) (ret := some .int) (own := RL) (hh := [(0, 13, 14, 15), (0, 13, 19, 18), (0, 13, 24, 21)]) (by decide) rfl rfl (Nat.le_of_ble_eq_true rfl) ?_
  intro p e s m below meth c A ls hx hb hr hlocks hml hts hown htab hA hP hK hD hZ hN hl
  have hS : va_S A s.heap s.heap [] := va_S.rf
  have hl : lv_has ls 8 [(0, .ref (ad 0)), (1, .int p0), (2, .int p1), (3, .int p2), (4, .int p3), (5, .int p4), (6, .int p5)] := hl
  refine lv_aload_n hx hb dL_requeue_0 rfl (lv_at hl 0 rfl) ?_
  refine lv_iload_n hx hb dL_requeue_1 rfl (lv_at hl 1 rfl) ?_
  refine lv_iload_n hx hb dL_requeue_2 rfl (lv_at hl 2 rfl) ?_
  refine lv_iload_n hx hb dL_requeue_3 rfl (lv_at hl 3 rfl) ?_
  refine lv_iload hx hb dL_requeue_4 (lv_at hl 4 rfl) ?_
  refine lv_iload hx hb dL_requeue_6 (lv_at hl 5 rfl) ?_
  refine lv_iload hx hb dL_requeue_8 (lv_at hl 6 rfl) ?_
  refine fk_xcallV (As := [.int p0, .int p1, .int p2, .int p3, .int p4, .int p5]) (rest := []) ⟨hx, hb, hml, hown, hts⟩ (hX _) (cwV 6 hts gL_requeue_X2_requeue rfl rfl rfl (by decide +kernel) ⟨Nat.le_of_ble_eq_true rfl, Nat.le_of_ble_eq_true rfl⟩) (fk_rvK hK hP) hK hP hD hS hA hZ rfl hl.1 rfl (Nat.le_of_ble_eq_true rfl) dL_requeue_10 ⟨Nat.le_of_ble_eq_true rfl, Nat.le_of_ble_eq_true rfl⟩ (fk_caught (x := (0, 13, 14, 15)) [] [(0, 13, 19, 18), (0, 13, 24, 21)] hown htab rfl rfl (fun _ h9 => absurd h9 List.not_mem_nil) (by decide) (by decide) (hts _ (List.mem_of_getElem? (i := 1) rfl)) hZ fk_cast1 (fun q9 H locs hP hS => ?_))
  refine lv_astore (lv' := [(7, .ref q9), (0, .ref (ad 0)), (1, .int p0), (2, .int p1), (3, .int p2), (4, .int p3), (5, .int p4), (6, .int p5)]) hx hb dL_requeue_14 hl (by decide) rfl (fun ls hl => ?_)
  refine lv_ldc (own := RL) (v := (-2147483201)) hx hb hown (hts (.constant RL 17 (-2147483201)) (List.mem_of_getElem? (i := 4) rfl)) dL_requeue_16 ?_
  exact fk_iretL (Nat.le_of_ble_eq_true rfl) (Nat.le_of_ble_eq_true rfl) hx hb hr hlocks hP hK hD hS rfl rfl dL_requeue_18

set_option maxHeartbeats 4000000 in
set_option maxRecDepth 100000 in
theorem Lx_requeue_IA (l : Launch) (D : va_G) (ad : Nat → Nat) (cI cT cJ : ClassId) (X : va_W) (S : fk_S) (p0 p1 p2 p3 p4 p5 : Int32) (hX : ∀ X, fk_X l D (fk_ty cI cT cJ) yX2_requeue wsX2_requeue rx_pub [.ref (ad 0), .int p0, .int p1, .int p2, .int p3, .int p4, .int p5] (fk_kW ad cI cT S ++ X) "java/lang/IllegalArgumentException") : fk_L l D (fk_ty cI cT cJ) yL_requeue wsL_requeue rm_L [.ref (ad 0), .int p0, .int p1, .int p2, .int p3, .int p4, .int p5] (fk_kW ad cI cT S ++ X) (some (.int (-2147483202))) (fk_kW ad cI cT S ++ X) := by
  refine fk_L_of (cc := cL_requeue) (maxL := 8) (ret := some .int) (own := RL) (hh := [(0, 13, 14, 15), (0, 13, 19, 18), (0, 13, 24, 21)]) (by decide) rfl rfl (Nat.le_of_ble_eq_true rfl) ?_
  intro p e s m below meth c A ls hx hb hr hlocks hml hts hown htab hA hP hK hD hZ hN hl
  have hS : va_S A s.heap s.heap [] := va_S.rf
  have hl : lv_has ls 8 [(0, .ref (ad 0)), (1, .int p0), (2, .int p1), (3, .int p2), (4, .int p3), (5, .int p4), (6, .int p5)] := hl
  refine lv_aload_n hx hb dL_requeue_0 rfl (lv_at hl 0 rfl) ?_
  refine lv_iload_n hx hb dL_requeue_1 rfl (lv_at hl 1 rfl) ?_
  refine lv_iload_n hx hb dL_requeue_2 rfl (lv_at hl 2 rfl) ?_
  refine lv_iload_n hx hb dL_requeue_3 rfl (lv_at hl 3 rfl) ?_
  refine lv_iload hx hb dL_requeue_4 (lv_at hl 4 rfl) ?_
  refine lv_iload hx hb dL_requeue_6 (lv_at hl 5 rfl) ?_
  refine lv_iload hx hb dL_requeue_8 (lv_at hl 6 rfl) ?_
  refine fk_xcallV (As := [.int p0, .int p1, .int p2, .int p3, .int p4, .int p5]) (rest := []) ⟨hx, hb, hml, hown, hts⟩ (hX _) (cwV 6 hts gL_requeue_X2_requeue rfl rfl rfl (by decide +kernel) ⟨Nat.le_of_ble_eq_true rfl, Nat.le_of_ble_eq_true rfl⟩) (fk_rvK hK hP) hK hP hD hS hA hZ rfl hl.1 rfl (Nat.le_of_ble_eq_true rfl) dL_requeue_10 ⟨Nat.le_of_ble_eq_true rfl, Nat.le_of_ble_eq_true rfl⟩ (fk_caught (x := (0, 13, 19, 18)) [(0, 13, 14, 15)] [(0, 13, 24, 21)] hown htab rfl rfl (List.forall_mem_cons.mpr ⟨⟨by decide, _, hts _ (List.mem_of_getElem? (i := 1) rfl), hN.2.1⟩, (fun _ h9 => absurd h9 List.not_mem_nil)⟩) (by decide) (by decide) (hts _ (List.mem_of_getElem? (i := 2) rfl)) hZ fk_cast3 (fun q9 H locs hP hS => ?_))
  refine lv_astore (lv' := [(7, .ref q9), (0, .ref (ad 0)), (1, .int p0), (2, .int p1), (3, .int p2), (4, .int p3), (5, .int p4), (6, .int p5)]) hx hb dL_requeue_19 hl (by decide) rfl (fun ls hl => ?_)
  refine lv_ldc (own := RL) (v := (-2147483202)) hx hb hown (hts (.constant RL 20 (-2147483202)) (List.mem_of_getElem? (i := 5) rfl)) dL_requeue_21 ?_
  exact fk_iretL (Nat.le_of_ble_eq_true rfl) (Nat.le_of_ble_eq_true rfl) hx hb hr hlocks hP hK hD hS rfl rfl dL_requeue_23

set_option maxHeartbeats 4000000 in
set_option maxRecDepth 100000 in
theorem Lx_requeue_IS (l : Launch) (D : va_G) (ad : Nat → Nat) (cI cT cJ : ClassId) (X : va_W) (S : fk_S) (p0 p1 p2 p3 p4 p5 : Int32) (hX : ∀ X, fk_X l D (fk_ty cI cT cJ) yX2_requeue wsX2_requeue rx_pub [.ref (ad 0), .int p0, .int p1, .int p2, .int p3, .int p4, .int p5] (fk_kW ad cI cT S ++ X) "java/lang/IllegalStateException") : fk_L l D (fk_ty cI cT cJ) yL_requeue wsL_requeue rm_L [.ref (ad 0), .int p0, .int p1, .int p2, .int p3, .int p4, .int p5] (fk_kW ad cI cT S ++ X) (some (.int (-2147483203))) (fk_kW ad cI cT S ++ X) := by
  refine fk_L_of (cc := cL_requeue) (maxL := 8) (ret := some .int) (own := RL) (hh := [(0, 13, 14, 15), (0, 13, 19, 18), (0, 13, 24, 21)]) (by decide) rfl rfl (Nat.le_of_ble_eq_true rfl) ?_
  intro p e s m below meth c A ls hx hb hr hlocks hml hts hown htab hA hP hK hD hZ hN hl
  have hS : va_S A s.heap s.heap [] := va_S.rf
  have hl : lv_has ls 8 [(0, .ref (ad 0)), (1, .int p0), (2, .int p1), (3, .int p2), (4, .int p3), (5, .int p4), (6, .int p5)] := hl
  refine lv_aload_n hx hb dL_requeue_0 rfl (lv_at hl 0 rfl) ?_
  refine lv_iload_n hx hb dL_requeue_1 rfl (lv_at hl 1 rfl) ?_
  refine lv_iload_n hx hb dL_requeue_2 rfl (lv_at hl 2 rfl) ?_
  refine lv_iload_n hx hb dL_requeue_3 rfl (lv_at hl 3 rfl) ?_
  refine lv_iload hx hb dL_requeue_4 (lv_at hl 4 rfl) ?_
  refine lv_iload hx hb dL_requeue_6 (lv_at hl 5 rfl) ?_
  refine lv_iload hx hb dL_requeue_8 (lv_at hl 6 rfl) ?_
  refine fk_xcallV (As := [.int p0, .int p1, .int p2, .int p3, .int p4, .int p5]) (rest := []) ⟨hx, hb, hml, hown, hts⟩ (hX _) (cwV 6 hts gL_requeue_X2_requeue rfl rfl rfl (by decide +kernel) ⟨Nat.le_of_ble_eq_true rfl, Nat.le_of_ble_eq_true rfl⟩) (fk_rvK hK hP) hK hP hD hS hA hZ rfl hl.1 rfl (Nat.le_of_ble_eq_true rfl) dL_requeue_10 ⟨Nat.le_of_ble_eq_true rfl, Nat.le_of_ble_eq_true rfl⟩ (fk_caught (x := (0, 13, 24, 21)) [(0, 13, 14, 15), (0, 13, 19, 18)] [] hown htab rfl rfl (List.forall_mem_cons.mpr ⟨⟨by decide, _, hts _ (List.mem_of_getElem? (i := 1) rfl), hN.1⟩, (List.forall_mem_cons.mpr ⟨⟨by decide, _, hts _ (List.mem_of_getElem? (i := 2) rfl), hN.2.2⟩, (fun _ h9 => absurd h9 List.not_mem_nil)⟩)⟩) (by decide) (by decide) (hts _ (List.mem_of_getElem? (i := 3) rfl)) hZ fk_cast2 (fun q9 H locs hP hS => ?_))
  refine lv_astore (lv' := [(7, .ref q9), (0, .ref (ad 0)), (1, .int p0), (2, .int p1), (3, .int p2), (4, .int p3), (5, .int p4), (6, .int p5)]) hx hb dL_requeue_24 hl (by decide) rfl (fun ls hl => ?_)
  refine lv_ldc (own := RL) (v := (-2147483203)) hx hb hown (hts (.constant RL 23 (-2147483203)) (List.mem_of_getElem? (i := 6) rfl)) dL_requeue_26 ?_
  exact fk_iretL (Nat.le_of_ble_eq_true rfl) (Nat.le_of_ble_eq_true rfl) hx hb hr hlocks hP hK hD hS rfl rfl dL_requeue_28

set_option maxHeartbeats 4000000 in
set_option maxRecDepth 100000 in
theorem kl_starts7 (l : Launch) (D : va_G) (ad : Nat → Nat) (cI cT cJ : ClassId) (X : va_W) (S : fk_S) (p : Int32) (S1 : fk_S) (hC : ∀ X, fk_C l D (fk_ty cI cT cJ) yX2_start wsX2_start rmX2_start [.ref (ad 0), .int p] (fk_kW ad cI cT S ++ X) none (fk_kW ad cI cT S1 ++ X)) : fk_C l D (fk_ty cI cT cJ) yL_starts wsL_starts rmL_starts [.ref (ad 0), .int 7, .int p] (fk_kW ad cI cT S ++ X) (some (.int 0)) (fk_kW ad cI cT S1 ++ X) := by
  refine fk_C_of (cc := cL_starts) (maxL := 3) (ret := some .int) (own := RL) (by decide) rfl rfl (Nat.le_of_ble_eq_true rfl) ?_
  intro p9 e s m below meth c A ls hx hb hr hlocks hml hts hown hA hP hK hD hl
  have hS : va_S A s.heap s.heap [] := va_S.rf
  have hl : lv_has ls 3 [(0, .ref (ad 0)), (1, .int 7), (2, .int p)] := hl
  refine lv_iload_n hx hb dL_starts_0 rfl (lv_at hl 1 rfl) ?_
  refine lv_bipush (v := 7) hx hb dL_starts_1 (by decide) ?_
  refine lv_icmp_ne (tgt := 14) hx hb dL_starts_3 (by decide) (fun c => absurd c (by decide)) (fun _ => ?_)
  refine lv_aload_n hx hb dL_starts_6 rfl (lv_at hl 0 rfl) ?_
  refine lv_iload_n hx hb dL_starts_7 rfl (lv_at hl 2 rfl) ?_
  refine fk_callV (As := [.int p]) (rest := []) ⟨hx, hb, hml, hown, hts⟩ (hC _) (cwV 1 hts gL_starts_X2_start rfl rfl rfl (by decide +kernel) ⟨Nat.le_of_ble_eq_true rfl, Nat.le_of_ble_eq_true rfl⟩) (fk_rvK hK hP) hK hP hD hS hA rfl hl.1 rfl (Nat.le_of_ble_eq_true rfl) dL_starts_8 ⟨Nat.le_of_ble_eq_true rfl, Nat.le_of_ble_eq_true rfl⟩ (fun H locs hP hD hS => ?_)
  refine W.eq (g2 := F0 m 11 ls []) rfl ?_
  refine lv_goto (tgt := 19) hx hb dL_starts_11 (by decide) ?_
  refine lv_iconst (v := 0) hx hb dL_starts_19 (by decide) ?_
  exact fk_iret hx hb hr hlocks hP hK hD hS rfl rfl dL_starts_20

set_option maxHeartbeats 4000000 in
set_option maxRecDepth 100000 in
theorem kx_starts7 (l : Launch) (D : va_G) (ad : Nat → Nat) (cI cT cJ : ClassId) (X : va_W) (S : fk_S) (p : Int32) {E : String} (hX : ∀ X, fk_X l D (fk_ty cI cT cJ) yX2_start wsX2_start rx_pub [.ref (ad 0), .int p] (fk_kW ad cI cT S ++ X) E) : fk_X l D (fk_ty cI cT cJ) yL_starts wsL_starts rx_sta [.ref (ad 0), .int 7, .int p] (fk_kW ad cI cT S ++ X) E := by
  refine fk_X_of (cc := cL_starts) (maxL := 3) (ret := some .int) (own := RL) (by decide) rfl rfl (Nat.le_of_ble_eq_true rfl) ?_
  intro p9 e s m below meth c A ls hx hb hout hlocks hml hts hown hA hP hK hD hZ hl
  have hS : va_S A s.heap s.heap [] := va_S.rf
  have hl : lv_has ls 3 [(0, .ref (ad 0)), (1, .int 7), (2, .int p)] := hl
  refine lv_iload_n hx hb dL_starts_0 rfl (lv_at hl 1 rfl) ?_
  refine lv_bipush (v := 7) hx hb dL_starts_1 (by decide) ?_
  refine lv_icmp_ne (tgt := 14) hx hb dL_starts_3 (by decide) (fun c => absurd c (by decide)) (fun _ => ?_)
  refine lv_aload_n hx hb dL_starts_6 rfl (lv_at hl 0 rfl) ?_
  refine lv_iload_n hx hb dL_starts_7 rfl (lv_at hl 2 rfl) ?_
  exact fk_xcallV (As := [.int p]) (rest := []) ⟨hx, hb, hml, hown, hts⟩ (hX _) (cwV 1 hts gL_starts_X2_start rfl rfl rfl (by decide +kernel) ⟨Nat.le_of_ble_eq_true rfl, Nat.le_of_ble_eq_true rfl⟩) (fk_rvK hK hP) hK hP hD hS hA hZ rfl hl.1 rfl (Nat.le_of_ble_eq_true rfl) dL_starts_8 ⟨Nat.le_of_ble_eq_true rfl, Nat.le_of_ble_eq_true rfl⟩ (fk_thru hout hlocks hK hD)

set_option maxHeartbeats 4000000 in
set_option maxRecDepth 100000 in
theorem kl_starts8 (l : Launch) (D : va_G) (ad : Nat → Nat) (cI cT cJ : ClassId) (X : va_W) (S : fk_S) (p : Int32) (S1 : fk_S) (hC : ∀ X, fk_C l D (fk_ty cI cT cJ) yX2_interrupt wsX2_interrupt rmX2_interrupt [.ref (ad 0), .int p] (fk_kW ad cI cT S ++ X) none (fk_kW ad cI cT S1 ++ X)) : fk_C l D (fk_ty cI cT cJ) yL_starts wsL_starts rmL_starts [.ref (ad 0), .int 8, .int p] (fk_kW ad cI cT S ++ X) (some (.int 0)) (fk_kW ad cI cT S1 ++ X) := by
  refine fk_C_of (cc := cL_starts) (maxL := 3) (ret := some .int) (own := RL) (by decide) rfl rfl (Nat.le_of_ble_eq_true rfl) ?_
  intro p9 e s m below meth c A ls hx hb hr hlocks hml hts hown hA hP hK hD hl
  have hS : va_S A s.heap s.heap [] := va_S.rf
  have hl : lv_has ls 3 [(0, .ref (ad 0)), (1, .int 8), (2, .int p)] := hl
  refine lv_iload_n hx hb dL_starts_0 rfl (lv_at hl 1 rfl) ?_
  refine lv_bipush (v := 7) hx hb dL_starts_1 (by decide) ?_
  refine lv_icmp_ne (tgt := 14) hx hb dL_starts_3 (by decide) (fun _ => ?_) (fun c => absurd c (by decide))
  refine lv_aload_n hx hb dL_starts_14 rfl (lv_at hl 0 rfl) ?_
  refine lv_iload_n hx hb dL_starts_15 rfl (lv_at hl 2 rfl) ?_
  refine fk_callV (As := [.int p]) (rest := []) ⟨hx, hb, hml, hown, hts⟩ (hC _) (cwV 1 hts gL_starts_X2_interrupt rfl rfl rfl (by decide +kernel) ⟨Nat.le_of_ble_eq_true rfl, Nat.le_of_ble_eq_true rfl⟩) (fk_rvK hK hP) hK hP hD hS hA rfl hl.1 rfl (Nat.le_of_ble_eq_true rfl) dL_starts_16 ⟨Nat.le_of_ble_eq_true rfl, Nat.le_of_ble_eq_true rfl⟩ (fun H locs hP hD hS => ?_)
  refine W.eq (g2 := F0 m 19 ls []) rfl ?_
  refine lv_iconst (v := 0) hx hb dL_starts_19 (by decide) ?_
  exact fk_iret hx hb hr hlocks hP hK hD hS rfl rfl dL_starts_20

set_option maxHeartbeats 4000000 in
set_option maxRecDepth 100000 in
theorem kx_starts8 (l : Launch) (D : va_G) (ad : Nat → Nat) (cI cT cJ : ClassId) (X : va_W) (S : fk_S) (p : Int32) {E : String} (hX : ∀ X, fk_X l D (fk_ty cI cT cJ) yX2_interrupt wsX2_interrupt rx_pub [.ref (ad 0), .int p] (fk_kW ad cI cT S ++ X) E) : fk_X l D (fk_ty cI cT cJ) yL_starts wsL_starts rx_sta [.ref (ad 0), .int 8, .int p] (fk_kW ad cI cT S ++ X) E := by
  refine fk_X_of (cc := cL_starts) (maxL := 3) (ret := some .int) (own := RL) (by decide) rfl rfl (Nat.le_of_ble_eq_true rfl) ?_
  intro p9 e s m below meth c A ls hx hb hout hlocks hml hts hown hA hP hK hD hZ hl
  have hS : va_S A s.heap s.heap [] := va_S.rf
  have hl : lv_has ls 3 [(0, .ref (ad 0)), (1, .int 8), (2, .int p)] := hl
  refine lv_iload_n hx hb dL_starts_0 rfl (lv_at hl 1 rfl) ?_
  refine lv_bipush (v := 7) hx hb dL_starts_1 (by decide) ?_
  refine lv_icmp_ne (tgt := 14) hx hb dL_starts_3 (by decide) (fun _ => ?_) (fun c => absurd c (by decide))
  refine lv_aload_n hx hb dL_starts_14 rfl (lv_at hl 0 rfl) ?_
  refine lv_iload_n hx hb dL_starts_15 rfl (lv_at hl 2 rfl) ?_
  exact fk_xcallV (As := [.int p]) (rest := []) ⟨hx, hb, hml, hown, hts⟩ (hX _) (cwV 1 hts gL_starts_X2_interrupt rfl rfl rfl (by decide +kernel) ⟨Nat.le_of_ble_eq_true rfl, Nat.le_of_ble_eq_true rfl⟩) (fk_rvK hK hP) hK hP hD hS hA hZ rfl hl.1 rfl (Nat.le_of_ble_eq_true rfl) dL_starts_16 ⟨Nat.le_of_ble_eq_true rfl, Nat.le_of_ble_eq_true rfl⟩ (fk_thru hout hlocks hK hD)

set_option maxHeartbeats 4000000 in
set_option maxRecDepth 100000 in
theorem Lc_lock (l : Launch) (D : va_G) (ad : Nat → Nat) (cI cT cJ : ClassId) (X : va_W) (S : fk_S) (p0 p1 p2 p3 : Int32) (S1 : fk_S) (v : Int32) (hC : ∀ X, fk_C l D (fk_ty cI cT cJ) yX2_lock wsX2_lock rmX2_lock [.ref (ad 0), .int p0, .int p1, .int p2] (fk_kW ad cI cT S ++ X) (some (.int v)) (fk_kW ad cI cT S1 ++ X)) : fk_L l D (fk_ty cI cT cJ) yL_acts wsL_acts rm_L [.ref (ad 0), .int 0, .int p0, .int p1, .int p2, .int p3] (fk_kW ad cI cT S ++ X) (some (.int v)) (fk_kW ad cI cT S1 ++ X) := by
  refine fk_L_of (cc := cL_acts) (maxL := 7) (ret := some .int) (own := RL) (hh := [(0, 120, 121, 15), (0, 120, 126, 18), (0, 120, 131, 21)]) (by decide) rfl rfl (Nat.le_of_ble_eq_true rfl) ?_
  intro p e s m below meth c A ls hx hb hr hlocks hml hts hown htab hA hP hK hD hZ hN hl
  have hS : va_S A s.heap s.heap [] := va_S.rf
  have hl : lv_has ls 7 [(0, .ref (ad 0)), (1, .int 0), (2, .int p0), (3, .int p1), (4, .int p2), (5, .int p3)] := hl
  refine lv_iload_n hx hb dL_acts_0 rfl (lv_at hl 1 rfl) ?_
  refine lv_if_ne (tgt := 15) hx hb dL_acts_1 (by decide) (fun c => absurd c (by decide)) (fun _ => ?_)
  refine lv_aload_n hx hb dL_acts_4 rfl (lv_at hl 0 rfl) ?_
  refine lv_iload_n hx hb dL_acts_5 rfl (lv_at hl 2 rfl) ?_
  refine lv_iload_n hx hb dL_acts_6 rfl (lv_at hl 3 rfl) ?_
  refine lv_iload hx hb dL_acts_7 (lv_at hl 4 rfl) ?_
  refine fk_callV (As := [.int p0, .int p1, .int p2]) (rest := []) ⟨hx, hb, hml, hown, hts⟩ (hC _) (cwV 3 hts gL_acts_X2_lock rfl rfl rfl (by decide +kernel) ⟨Nat.le_of_ble_eq_true rfl, Nat.le_of_ble_eq_true rfl⟩) (fk_rvK hK hP) hK hP hD hS hA rfl hl.1 rfl (Nat.le_of_ble_eq_true rfl) dL_acts_9 ⟨Nat.le_of_ble_eq_true rfl, Nat.le_of_ble_eq_true rfl⟩ (fun H locs hP hD hS => ?_)
  refine W.eq (g2 := F0 m 12 ls [.int v]) rfl ?_
  refine lv_goto (tgt := 120) hx hb dL_acts_12 (by decide) ?_
  exact fk_iretL (Nat.le_of_ble_eq_true rfl) (Nat.le_of_ble_eq_true rfl) hx hb hr hlocks hP hK hD hS rfl rfl dL_acts_120

set_option maxHeartbeats 4000000 in
set_option maxRecDepth 100000 in
theorem Lx_lock_IO (l : Launch) (D : va_G) (ad : Nat → Nat) (cI cT cJ : ClassId) (X : va_W) (S : fk_S) (p0 p1 p2 p3 : Int32) (hX : ∀ X, fk_X l D (fk_ty cI cT cJ) yX2_lock wsX2_lock rx_pub [.ref (ad 0), .int p0, .int p1, .int p2] (fk_kW ad cI cT S ++ X) "java/lang/IndexOutOfBoundsException") : fk_L l D (fk_ty cI cT cJ) yL_acts wsL_acts rm_L [.ref (ad 0), .int 0, .int p0, .int p1, .int p2, .int p3] (fk_kW ad cI cT S ++ X) (some (.int (-2147483201))) (fk_kW ad cI cT S ++ X) := by
  refine fk_L_of (cc := cL_acts) (maxL := 7) (ret := some .int) (own := RL) (hh := [(0, 120, 121, 15), (0, 120, 126, 18), (0, 120, 131, 21)]) (by decide) rfl rfl (Nat.le_of_ble_eq_true rfl) ?_
  intro p e s m below meth c A ls hx hb hr hlocks hml hts hown htab hA hP hK hD hZ hN hl
  have hS : va_S A s.heap s.heap [] := va_S.rf
  have hl : lv_has ls 7 [(0, .ref (ad 0)), (1, .int 0), (2, .int p0), (3, .int p1), (4, .int p2), (5, .int p3)] := hl
  refine lv_iload_n hx hb dL_acts_0 rfl (lv_at hl 1 rfl) ?_
  refine lv_if_ne (tgt := 15) hx hb dL_acts_1 (by decide) (fun c => absurd c (by decide)) (fun _ => ?_)
  refine lv_aload_n hx hb dL_acts_4 rfl (lv_at hl 0 rfl) ?_
  refine lv_iload_n hx hb dL_acts_5 rfl (lv_at hl 2 rfl) ?_
  refine lv_iload_n hx hb dL_acts_6 rfl (lv_at hl 3 rfl) ?_
  refine lv_iload hx hb dL_acts_7 (lv_at hl 4 rfl) ?_
  refine fk_xcallV (As := [.int p0, .int p1, .int p2]) (rest := []) ⟨hx, hb, hml, hown, hts⟩ (hX _) (cwV 3 hts gL_acts_X2_lock rfl rfl rfl (by decide +kernel) ⟨Nat.le_of_ble_eq_true rfl, Nat.le_of_ble_eq_true rfl⟩) (fk_rvK hK hP) hK hP hD hS hA hZ rfl hl.1 rfl (Nat.le_of_ble_eq_true rfl) dL_acts_9 ⟨Nat.le_of_ble_eq_true rfl, Nat.le_of_ble_eq_true rfl⟩ (fk_caught (x := (0, 120, 121, 15)) [] [(0, 120, 126, 18), (0, 120, 131, 21)] hown htab rfl rfl (fun _ h9 => absurd h9 List.not_mem_nil) (by decide) (by decide) (hts _ (List.mem_of_getElem? (i := 1) rfl)) hZ fk_cast1 (fun q9 H locs hP hS => ?_))
  refine lv_astore (lv' := [(6, .ref q9), (0, .ref (ad 0)), (1, .int 0), (2, .int p0), (3, .int p1), (4, .int p2), (5, .int p3)]) hx hb dL_acts_121 hl (by decide) rfl (fun ls hl => ?_)
  refine lv_ldc (own := RL) (v := (-2147483201)) hx hb hown (hts (.constant RL 17 (-2147483201)) (List.mem_of_getElem? (i := 4) rfl)) dL_acts_123 ?_
  exact fk_iretL (Nat.le_of_ble_eq_true rfl) (Nat.le_of_ble_eq_true rfl) hx hb hr hlocks hP hK hD hS rfl rfl dL_acts_125

set_option maxHeartbeats 4000000 in
set_option maxRecDepth 100000 in
theorem Lx_lock_IA (l : Launch) (D : va_G) (ad : Nat → Nat) (cI cT cJ : ClassId) (X : va_W) (S : fk_S) (p0 p1 p2 p3 : Int32) (hX : ∀ X, fk_X l D (fk_ty cI cT cJ) yX2_lock wsX2_lock rx_pub [.ref (ad 0), .int p0, .int p1, .int p2] (fk_kW ad cI cT S ++ X) "java/lang/IllegalArgumentException") : fk_L l D (fk_ty cI cT cJ) yL_acts wsL_acts rm_L [.ref (ad 0), .int 0, .int p0, .int p1, .int p2, .int p3] (fk_kW ad cI cT S ++ X) (some (.int (-2147483202))) (fk_kW ad cI cT S ++ X) := by
  refine fk_L_of (cc := cL_acts) (maxL := 7) (ret := some .int) (own := RL) (hh := [(0, 120, 121, 15), (0, 120, 126, 18), (0, 120, 131, 21)]) (by decide) rfl rfl (Nat.le_of_ble_eq_true rfl) ?_
  intro p e s m below meth c A ls hx hb hr hlocks hml hts hown htab hA hP hK hD hZ hN hl
  have hS : va_S A s.heap s.heap [] := va_S.rf
  have hl : lv_has ls 7 [(0, .ref (ad 0)), (1, .int 0), (2, .int p0), (3, .int p1), (4, .int p2), (5, .int p3)] := hl
  refine lv_iload_n hx hb dL_acts_0 rfl (lv_at hl 1 rfl) ?_
  refine lv_if_ne (tgt := 15) hx hb dL_acts_1 (by decide) (fun c => absurd c (by decide)) (fun _ => ?_)
  refine lv_aload_n hx hb dL_acts_4 rfl (lv_at hl 0 rfl) ?_
  refine lv_iload_n hx hb dL_acts_5 rfl (lv_at hl 2 rfl) ?_
  refine lv_iload_n hx hb dL_acts_6 rfl (lv_at hl 3 rfl) ?_
  refine lv_iload hx hb dL_acts_7 (lv_at hl 4 rfl) ?_
  refine fk_xcallV (As := [.int p0, .int p1, .int p2]) (rest := []) ⟨hx, hb, hml, hown, hts⟩ (hX _) (cwV 3 hts gL_acts_X2_lock rfl rfl rfl (by decide +kernel) ⟨Nat.le_of_ble_eq_true rfl, Nat.le_of_ble_eq_true rfl⟩) (fk_rvK hK hP) hK hP hD hS hA hZ rfl hl.1 rfl (Nat.le_of_ble_eq_true rfl) dL_acts_9 ⟨Nat.le_of_ble_eq_true rfl, Nat.le_of_ble_eq_true rfl⟩ (fk_caught (x := (0, 120, 126, 18)) [(0, 120, 121, 15)] [(0, 120, 131, 21)] hown htab rfl rfl (List.forall_mem_cons.mpr ⟨⟨by decide, _, hts _ (List.mem_of_getElem? (i := 1) rfl), hN.2.1⟩, (fun _ h9 => absurd h9 List.not_mem_nil)⟩) (by decide) (by decide) (hts _ (List.mem_of_getElem? (i := 2) rfl)) hZ fk_cast3 (fun q9 H locs hP hS => ?_))
  refine lv_astore (lv' := [(6, .ref q9), (0, .ref (ad 0)), (1, .int 0), (2, .int p0), (3, .int p1), (4, .int p2), (5, .int p3)]) hx hb dL_acts_126 hl (by decide) rfl (fun ls hl => ?_)
  refine lv_ldc (own := RL) (v := (-2147483202)) hx hb hown (hts (.constant RL 20 (-2147483202)) (List.mem_of_getElem? (i := 5) rfl)) dL_acts_128 ?_
  exact fk_iretL (Nat.le_of_ble_eq_true rfl) (Nat.le_of_ble_eq_true rfl) hx hb hr hlocks hP hK hD hS rfl rfl dL_acts_130

set_option maxHeartbeats 4000000 in
set_option maxRecDepth 100000 in
theorem Lx_lock_IS (l : Launch) (D : va_G) (ad : Nat → Nat) (cI cT cJ : ClassId) (X : va_W) (S : fk_S) (p0 p1 p2 p3 : Int32) (hX : ∀ X, fk_X l D (fk_ty cI cT cJ) yX2_lock wsX2_lock rx_pub [.ref (ad 0), .int p0, .int p1, .int p2] (fk_kW ad cI cT S ++ X) "java/lang/IllegalStateException") : fk_L l D (fk_ty cI cT cJ) yL_acts wsL_acts rm_L [.ref (ad 0), .int 0, .int p0, .int p1, .int p2, .int p3] (fk_kW ad cI cT S ++ X) (some (.int (-2147483203))) (fk_kW ad cI cT S ++ X) := by
  refine fk_L_of (cc := cL_acts) (maxL := 7) (ret := some .int) (own := RL) (hh := [(0, 120, 121, 15), (0, 120, 126, 18), (0, 120, 131, 21)]) (by decide) rfl rfl (Nat.le_of_ble_eq_true rfl) ?_
  intro p e s m below meth c A ls hx hb hr hlocks hml hts hown htab hA hP hK hD hZ hN hl
  have hS : va_S A s.heap s.heap [] := va_S.rf
  have hl : lv_has ls 7 [(0, .ref (ad 0)), (1, .int 0), (2, .int p0), (3, .int p1), (4, .int p2), (5, .int p3)] := hl
  refine lv_iload_n hx hb dL_acts_0 rfl (lv_at hl 1 rfl) ?_
  refine lv_if_ne (tgt := 15) hx hb dL_acts_1 (by decide) (fun c => absurd c (by decide)) (fun _ => ?_)
  refine lv_aload_n hx hb dL_acts_4 rfl (lv_at hl 0 rfl) ?_
  refine lv_iload_n hx hb dL_acts_5 rfl (lv_at hl 2 rfl) ?_
  refine lv_iload_n hx hb dL_acts_6 rfl (lv_at hl 3 rfl) ?_
  refine lv_iload hx hb dL_acts_7 (lv_at hl 4 rfl) ?_
  refine fk_xcallV (As := [.int p0, .int p1, .int p2]) (rest := []) ⟨hx, hb, hml, hown, hts⟩ (hX _) (cwV 3 hts gL_acts_X2_lock rfl rfl rfl (by decide +kernel) ⟨Nat.le_of_ble_eq_true rfl, Nat.le_of_ble_eq_true rfl⟩) (fk_rvK hK hP) hK hP hD hS hA hZ rfl hl.1 rfl (Nat.le_of_ble_eq_true rfl) dL_acts_9 ⟨Nat.le_of_ble_eq_true rfl, Nat.le_of_ble_eq_true rfl⟩ (fk_caught (x := (0, 120, 131, 21)) [(0, 120, 121, 15), (0, 120, 126, 18)] [] hown htab rfl rfl (List.forall_mem_cons.mpr ⟨⟨by decide, _, hts _ (List.mem_of_getElem? (i := 1) rfl), hN.1⟩, (List.forall_mem_cons.mpr ⟨⟨by decide, _, hts _ (List.mem_of_getElem? (i := 2) rfl), hN.2.2⟩, (fun _ h9 => absurd h9 List.not_mem_nil)⟩)⟩) (by decide) (by decide) (hts _ (List.mem_of_getElem? (i := 3) rfl)) hZ fk_cast2 (fun q9 H locs hP hS => ?_))
  refine lv_astore (lv' := [(6, .ref q9), (0, .ref (ad 0)), (1, .int 0), (2, .int p0), (3, .int p1), (4, .int p2), (5, .int p3)]) hx hb dL_acts_131 hl (by decide) rfl (fun ls hl => ?_)
  refine lv_ldc (own := RL) (v := (-2147483203)) hx hb hown (hts (.constant RL 23 (-2147483203)) (List.mem_of_getElem? (i := 6) rfl)) dL_acts_133 ?_
  exact fk_iretL (Nat.le_of_ble_eq_true rfl) (Nat.le_of_ble_eq_true rfl) hx hb hr hlocks hP hK hD hS rfl rfl dL_acts_135

set_option maxHeartbeats 4000000 in
set_option maxRecDepth 100000 in
theorem Lc_unlock (l : Launch) (D : va_G) (ad : Nat → Nat) (cI cT cJ : ClassId) (X : va_W) (S : fk_S) (p0 p1 p2 p3 : Int32) (S1 : fk_S) (v : Int32) (hC : ∀ X, fk_C l D (fk_ty cI cT cJ) yX2_unlock wsX2_unlock rmX2_unlock [.ref (ad 0), .int p0, .int p1] (fk_kW ad cI cT S ++ X) (some (.int v)) (fk_kW ad cI cT S1 ++ X)) : fk_L l D (fk_ty cI cT cJ) yL_acts wsL_acts rm_L [.ref (ad 0), .int 1, .int p0, .int p1, .int p2, .int p3] (fk_kW ad cI cT S ++ X) (some (.int v)) (fk_kW ad cI cT S1 ++ X) := by
  refine fk_L_of (cc := cL_acts) (maxL := 7) (ret := some .int) (own := RL) (hh := [(0, 120, 121, 15), (0, 120, 126, 18), (0, 120, 131, 21)]) (by decide) rfl rfl (Nat.le_of_ble_eq_true rfl) ?_
  intro p e s m below meth c A ls hx hb hr hlocks hml hts hown htab hA hP hK hD hZ hN hl
  have hS : va_S A s.heap s.heap [] := va_S.rf
  have hl : lv_has ls 7 [(0, .ref (ad 0)), (1, .int 1), (2, .int p0), (3, .int p1), (4, .int p2), (5, .int p3)] := hl
  refine lv_iload_n hx hb dL_acts_0 rfl (lv_at hl 1 rfl) ?_
  refine lv_if_ne (tgt := 15) hx hb dL_acts_1 (by decide) (fun _ => ?_) (fun c => absurd c (by decide))
  refine lv_iload_n hx hb dL_acts_15 rfl (lv_at hl 1 rfl) ?_
  refine lv_iconst (v := 1) hx hb dL_acts_16 (by decide) ?_
  refine lv_icmp_ne (tgt := 29) hx hb dL_acts_17 (by decide) (fun c => absurd c (by decide)) (fun _ => ?_)
  refine lv_aload_n hx hb dL_acts_20 rfl (lv_at hl 0 rfl) ?_
  refine lv_iload_n hx hb dL_acts_21 rfl (lv_at hl 2 rfl) ?_
  refine lv_iload_n hx hb dL_acts_22 rfl (lv_at hl 3 rfl) ?_
  refine fk_callV (As := [.int p0, .int p1]) (rest := []) ⟨hx, hb, hml, hown, hts⟩ (hC _) (cwV 2 hts gL_acts_X2_unlock rfl rfl rfl (by decide +kernel) ⟨Nat.le_of_ble_eq_true rfl, Nat.le_of_ble_eq_true rfl⟩) (fk_rvK hK hP) hK hP hD hS hA rfl hl.1 rfl (Nat.le_of_ble_eq_true rfl) dL_acts_23 ⟨Nat.le_of_ble_eq_true rfl, Nat.le_of_ble_eq_true rfl⟩ (fun H locs hP hD hS => ?_)
  refine W.eq (g2 := F0 m 26 ls [.int v]) rfl ?_
  refine lv_goto (tgt := 120) hx hb dL_acts_26 (by decide) ?_
  exact fk_iretL (Nat.le_of_ble_eq_true rfl) (Nat.le_of_ble_eq_true rfl) hx hb hr hlocks hP hK hD hS rfl rfl dL_acts_120

set_option maxHeartbeats 4000000 in
set_option maxRecDepth 100000 in
theorem Lx_unlock_IO (l : Launch) (D : va_G) (ad : Nat → Nat) (cI cT cJ : ClassId) (X : va_W) (S : fk_S) (p0 p1 p2 p3 : Int32) (hX : ∀ X, fk_X l D (fk_ty cI cT cJ) yX2_unlock wsX2_unlock rx_pub [.ref (ad 0), .int p0, .int p1] (fk_kW ad cI cT S ++ X) "java/lang/IndexOutOfBoundsException") : fk_L l D (fk_ty cI cT cJ) yL_acts wsL_acts rm_L [.ref (ad 0), .int 1, .int p0, .int p1, .int p2, .int p3] (fk_kW ad cI cT S ++ X) (some (.int (-2147483201))) (fk_kW ad cI cT S ++ X) := by
  refine fk_L_of (cc := cL_acts) (maxL := 7) (ret := some .int) (own := RL) (hh := [(0, 120, 121, 15), (0, 120, 126, 18), (0, 120, 131, 21)]) (by decide) rfl rfl (Nat.le_of_ble_eq_true rfl) ?_
  intro p e s m below meth c A ls hx hb hr hlocks hml hts hown htab hA hP hK hD hZ hN hl
  have hS : va_S A s.heap s.heap [] := va_S.rf
  have hl : lv_has ls 7 [(0, .ref (ad 0)), (1, .int 1), (2, .int p0), (3, .int p1), (4, .int p2), (5, .int p3)] := hl
  refine lv_iload_n hx hb dL_acts_0 rfl (lv_at hl 1 rfl) ?_
  refine lv_if_ne (tgt := 15) hx hb dL_acts_1 (by decide) (fun _ => ?_) (fun c => absurd c (by decide))
  refine lv_iload_n hx hb dL_acts_15 rfl (lv_at hl 1 rfl) ?_
  refine lv_iconst (v := 1) hx hb dL_acts_16 (by decide) ?_
  refine lv_icmp_ne (tgt := 29) hx hb dL_acts_17 (by decide) (fun c => absurd c (by decide)) (fun _ => ?_)
  refine lv_aload_n hx hb dL_acts_20 rfl (lv_at hl 0 rfl) ?_
  refine lv_iload_n hx hb dL_acts_21 rfl (lv_at hl 2 rfl) ?_
  refine lv_iload_n hx hb dL_acts_22 rfl (lv_at hl 3 rfl) ?_
  refine fk_xcallV (As := [.int p0, .int p1]) (rest := []) ⟨hx, hb, hml, hown, hts⟩ (hX _) (cwV 2 hts gL_acts_X2_unlock rfl rfl rfl (by decide +kernel) ⟨Nat.le_of_ble_eq_true rfl, Nat.le_of_ble_eq_true rfl⟩) (fk_rvK hK hP) hK hP hD hS hA hZ rfl hl.1 rfl (Nat.le_of_ble_eq_true rfl) dL_acts_23 ⟨Nat.le_of_ble_eq_true rfl, Nat.le_of_ble_eq_true rfl⟩ (fk_caught (x := (0, 120, 121, 15)) [] [(0, 120, 126, 18), (0, 120, 131, 21)] hown htab rfl rfl (fun _ h9 => absurd h9 List.not_mem_nil) (by decide) (by decide) (hts _ (List.mem_of_getElem? (i := 1) rfl)) hZ fk_cast1 (fun q9 H locs hP hS => ?_))
  refine lv_astore (lv' := [(6, .ref q9), (0, .ref (ad 0)), (1, .int 1), (2, .int p0), (3, .int p1), (4, .int p2), (5, .int p3)]) hx hb dL_acts_121 hl (by decide) rfl (fun ls hl => ?_)
  refine lv_ldc (own := RL) (v := (-2147483201)) hx hb hown (hts (.constant RL 17 (-2147483201)) (List.mem_of_getElem? (i := 4) rfl)) dL_acts_123 ?_
  exact fk_iretL (Nat.le_of_ble_eq_true rfl) (Nat.le_of_ble_eq_true rfl) hx hb hr hlocks hP hK hD hS rfl rfl dL_acts_125

set_option maxHeartbeats 4000000 in
set_option maxRecDepth 100000 in
theorem Lx_unlock_IS (l : Launch) (D : va_G) (ad : Nat → Nat) (cI cT cJ : ClassId) (X : va_W) (S : fk_S) (p0 p1 p2 p3 : Int32) (hX : ∀ X, fk_X l D (fk_ty cI cT cJ) yX2_unlock wsX2_unlock rx_pub [.ref (ad 0), .int p0, .int p1] (fk_kW ad cI cT S ++ X) "java/lang/IllegalStateException") : fk_L l D (fk_ty cI cT cJ) yL_acts wsL_acts rm_L [.ref (ad 0), .int 1, .int p0, .int p1, .int p2, .int p3] (fk_kW ad cI cT S ++ X) (some (.int (-2147483203))) (fk_kW ad cI cT S ++ X) := by
  refine fk_L_of (cc := cL_acts) (maxL := 7) (ret := some .int) (own := RL) (hh := [(0, 120, 121, 15), (0, 120, 126, 18), (0, 120, 131, 21)]) (by decide) rfl rfl (Nat.le_of_ble_eq_true rfl) ?_
  intro p e s m below meth c A ls hx hb hr hlocks hml hts hown htab hA hP hK hD hZ hN hl
  have hS : va_S A s.heap s.heap [] := va_S.rf
  have hl : lv_has ls 7 [(0, .ref (ad 0)), (1, .int 1), (2, .int p0), (3, .int p1), (4, .int p2), (5, .int p3)] := hl
  refine lv_iload_n hx hb dL_acts_0 rfl (lv_at hl 1 rfl) ?_
  refine lv_if_ne (tgt := 15) hx hb dL_acts_1 (by decide) (fun _ => ?_) (fun c => absurd c (by decide))
  refine lv_iload_n hx hb dL_acts_15 rfl (lv_at hl 1 rfl) ?_
  refine lv_iconst (v := 1) hx hb dL_acts_16 (by decide) ?_
  refine lv_icmp_ne (tgt := 29) hx hb dL_acts_17 (by decide) (fun c => absurd c (by decide)) (fun _ => ?_)
  refine lv_aload_n hx hb dL_acts_20 rfl (lv_at hl 0 rfl) ?_
  refine lv_iload_n hx hb dL_acts_21 rfl (lv_at hl 2 rfl) ?_
  refine lv_iload_n hx hb dL_acts_22 rfl (lv_at hl 3 rfl) ?_
  refine fk_xcallV (As := [.int p0, .int p1]) (rest := []) ⟨hx, hb, hml, hown, hts⟩ (hX _) (cwV 2 hts gL_acts_X2_unlock rfl rfl rfl (by decide +kernel) ⟨Nat.le_of_ble_eq_true rfl, Nat.le_of_ble_eq_true rfl⟩) (fk_rvK hK hP) hK hP hD hS hA hZ rfl hl.1 rfl (Nat.le_of_ble_eq_true rfl) dL_acts_23 ⟨Nat.le_of_ble_eq_true rfl, Nat.le_of_ble_eq_true rfl⟩ (fk_caught (x := (0, 120, 131, 21)) [(0, 120, 121, 15), (0, 120, 126, 18)] [] hown htab rfl rfl (List.forall_mem_cons.mpr ⟨⟨by decide, _, hts _ (List.mem_of_getElem? (i := 1) rfl), hN.1⟩, (List.forall_mem_cons.mpr ⟨⟨by decide, _, hts _ (List.mem_of_getElem? (i := 2) rfl), hN.2.2⟩, (fun _ h9 => absurd h9 List.not_mem_nil)⟩)⟩) (by decide) (by decide) (hts _ (List.mem_of_getElem? (i := 3) rfl)) hZ fk_cast2 (fun q9 H locs hP hS => ?_))
  refine lv_astore (lv' := [(6, .ref q9), (0, .ref (ad 0)), (1, .int 1), (2, .int p0), (3, .int p1), (4, .int p2), (5, .int p3)]) hx hb dL_acts_131 hl (by decide) rfl (fun ls hl => ?_)
  refine lv_ldc (own := RL) (v := (-2147483203)) hx hb hown (hts (.constant RL 23 (-2147483203)) (List.mem_of_getElem? (i := 6) rfl)) dL_acts_133 ?_
  exact fk_iretL (Nat.le_of_ble_eq_true rfl) (Nat.le_of_ble_eq_true rfl) hx hb hr hlocks hP hK hD hS rfl rfl dL_acts_135

set_option maxHeartbeats 4000000 in
set_option maxRecDepth 100000 in
theorem Lc_wake (l : Launch) (D : va_G) (ad : Nat → Nat) (cI cT cJ : ClassId) (X : va_W) (S : fk_S) (p0 p1 p2 p3 : Int32) (S1 : fk_S) (v : Int32) (hC : ∀ X, fk_C l D (fk_ty cI cT cJ) yX2_wake wsX2_wake rmX2_wake [.ref (ad 0), .int p0, .int p1, .int p2, .int p3] (fk_kW ad cI cT S ++ X) (some (.int v)) (fk_kW ad cI cT S1 ++ X)) : fk_L l D (fk_ty cI cT cJ) yL_acts wsL_acts rm_L [.ref (ad 0), .int 2, .int p0, .int p1, .int p2, .int p3] (fk_kW ad cI cT S ++ X) (some (.int v)) (fk_kW ad cI cT S1 ++ X) := by
  refine fk_L_of (cc := cL_acts) (maxL := 7) (ret := some .int) (own := RL) (hh := [(0, 120, 121, 15), (0, 120, 126, 18), (0, 120, 131, 21)]) (by decide) rfl rfl (Nat.le_of_ble_eq_true rfl) ?_
  intro p e s m below meth c A ls hx hb hr hlocks hml hts hown htab hA hP hK hD hZ hN hl
  have hS : va_S A s.heap s.heap [] := va_S.rf
  have hl : lv_has ls 7 [(0, .ref (ad 0)), (1, .int 2), (2, .int p0), (3, .int p1), (4, .int p2), (5, .int p3)] := hl
  refine lv_iload_n hx hb dL_acts_0 rfl (lv_at hl 1 rfl) ?_
  refine lv_if_ne (tgt := 15) hx hb dL_acts_1 (by decide) (fun _ => ?_) (fun c => absurd c (by decide))
  refine lv_iload_n hx hb dL_acts_15 rfl (lv_at hl 1 rfl) ?_
  refine lv_iconst (v := 1) hx hb dL_acts_16 (by decide) ?_
  refine lv_icmp_ne (tgt := 29) hx hb dL_acts_17 (by decide) (fun _ => ?_) (fun c => absurd c (by decide))
  refine lv_iload_n hx hb dL_acts_29 rfl (lv_at hl 1 rfl) ?_
  refine lv_iconst (v := 2) hx hb dL_acts_30 (by decide) ?_
  refine lv_icmp_ne (tgt := 47) hx hb dL_acts_31 (by decide) (fun c => absurd c (by decide)) (fun _ => ?_)
  refine lv_aload_n hx hb dL_acts_34 rfl (lv_at hl 0 rfl) ?_
  refine lv_iload_n hx hb dL_acts_35 rfl (lv_at hl 2 rfl) ?_
  refine lv_iload_n hx hb dL_acts_36 rfl (lv_at hl 3 rfl) ?_
  refine lv_iload hx hb dL_acts_37 (lv_at hl 4 rfl) ?_
  refine lv_iload hx hb dL_acts_39 (lv_at hl 5 rfl) ?_
  refine fk_callV (As := [.int p0, .int p1, .int p2, .int p3]) (rest := []) ⟨hx, hb, hml, hown, hts⟩ (hC _) (cwV 4 hts gL_acts_X2_wake rfl rfl rfl (by decide +kernel) ⟨Nat.le_of_ble_eq_true rfl, Nat.le_of_ble_eq_true rfl⟩) (fk_rvK hK hP) hK hP hD hS hA rfl hl.1 rfl (Nat.le_of_ble_eq_true rfl) dL_acts_41 ⟨Nat.le_of_ble_eq_true rfl, Nat.le_of_ble_eq_true rfl⟩ (fun H locs hP hD hS => ?_)
  refine W.eq (g2 := F0 m 44 ls [.int v]) rfl ?_
  refine lv_goto (tgt := 120) hx hb dL_acts_44 (by decide) ?_
  exact fk_iretL (Nat.le_of_ble_eq_true rfl) (Nat.le_of_ble_eq_true rfl) hx hb hr hlocks hP hK hD hS rfl rfl dL_acts_120

set_option maxHeartbeats 4000000 in
set_option maxRecDepth 100000 in
theorem Lx_wake_IO (l : Launch) (D : va_G) (ad : Nat → Nat) (cI cT cJ : ClassId) (X : va_W) (S : fk_S) (p0 p1 p2 p3 : Int32) (hX : ∀ X, fk_X l D (fk_ty cI cT cJ) yX2_wake wsX2_wake rx_pub [.ref (ad 0), .int p0, .int p1, .int p2, .int p3] (fk_kW ad cI cT S ++ X) "java/lang/IndexOutOfBoundsException") : fk_L l D (fk_ty cI cT cJ) yL_acts wsL_acts rm_L [.ref (ad 0), .int 2, .int p0, .int p1, .int p2, .int p3] (fk_kW ad cI cT S ++ X) (some (.int (-2147483201))) (fk_kW ad cI cT S ++ X) := by
  refine fk_L_of (cc := cL_acts) (maxL := 7) (ret := some .int) (own := RL) (hh := [(0, 120, 121, 15), (0, 120, 126, 18), (0, 120, 131, 21)]) (by decide) rfl rfl (Nat.le_of_ble_eq_true rfl) ?_
  intro p e s m below meth c A ls hx hb hr hlocks hml hts hown htab hA hP hK hD hZ hN hl
  have hS : va_S A s.heap s.heap [] := va_S.rf
  have hl : lv_has ls 7 [(0, .ref (ad 0)), (1, .int 2), (2, .int p0), (3, .int p1), (4, .int p2), (5, .int p3)] := hl
  refine lv_iload_n hx hb dL_acts_0 rfl (lv_at hl 1 rfl) ?_
  refine lv_if_ne (tgt := 15) hx hb dL_acts_1 (by decide) (fun _ => ?_) (fun c => absurd c (by decide))
  refine lv_iload_n hx hb dL_acts_15 rfl (lv_at hl 1 rfl) ?_
  refine lv_iconst (v := 1) hx hb dL_acts_16 (by decide) ?_
  refine lv_icmp_ne (tgt := 29) hx hb dL_acts_17 (by decide) (fun _ => ?_) (fun c => absurd c (by decide))
  refine lv_iload_n hx hb dL_acts_29 rfl (lv_at hl 1 rfl) ?_
  refine lv_iconst (v := 2) hx hb dL_acts_30 (by decide) ?_
  refine lv_icmp_ne (tgt := 47) hx hb dL_acts_31 (by decide) (fun c => absurd c (by decide)) (fun _ => ?_)
  refine lv_aload_n hx hb dL_acts_34 rfl (lv_at hl 0 rfl) ?_
  refine lv_iload_n hx hb dL_acts_35 rfl (lv_at hl 2 rfl) ?_
  refine lv_iload_n hx hb dL_acts_36 rfl (lv_at hl 3 rfl) ?_
  refine lv_iload hx hb dL_acts_37 (lv_at hl 4 rfl) ?_
  refine lv_iload hx hb dL_acts_39 (lv_at hl 5 rfl) ?_
  refine fk_xcallV (As := [.int p0, .int p1, .int p2, .int p3]) (rest := []) ⟨hx, hb, hml, hown, hts⟩ (hX _) (cwV 4 hts gL_acts_X2_wake rfl rfl rfl (by decide +kernel) ⟨Nat.le_of_ble_eq_true rfl, Nat.le_of_ble_eq_true rfl⟩) (fk_rvK hK hP) hK hP hD hS hA hZ rfl hl.1 rfl (Nat.le_of_ble_eq_true rfl) dL_acts_41 ⟨Nat.le_of_ble_eq_true rfl, Nat.le_of_ble_eq_true rfl⟩ (fk_caught (x := (0, 120, 121, 15)) [] [(0, 120, 126, 18), (0, 120, 131, 21)] hown htab rfl rfl (fun _ h9 => absurd h9 List.not_mem_nil) (by decide) (by decide) (hts _ (List.mem_of_getElem? (i := 1) rfl)) hZ fk_cast1 (fun q9 H locs hP hS => ?_))
  refine lv_astore (lv' := [(6, .ref q9), (0, .ref (ad 0)), (1, .int 2), (2, .int p0), (3, .int p1), (4, .int p2), (5, .int p3)]) hx hb dL_acts_121 hl (by decide) rfl (fun ls hl => ?_)
  refine lv_ldc (own := RL) (v := (-2147483201)) hx hb hown (hts (.constant RL 17 (-2147483201)) (List.mem_of_getElem? (i := 4) rfl)) dL_acts_123 ?_
  exact fk_iretL (Nat.le_of_ble_eq_true rfl) (Nat.le_of_ble_eq_true rfl) hx hb hr hlocks hP hK hD hS rfl rfl dL_acts_125

set_option maxHeartbeats 4000000 in
set_option maxRecDepth 100000 in
theorem Lx_wake_IA (l : Launch) (D : va_G) (ad : Nat → Nat) (cI cT cJ : ClassId) (X : va_W) (S : fk_S) (p0 p1 p2 p3 : Int32) (hX : ∀ X, fk_X l D (fk_ty cI cT cJ) yX2_wake wsX2_wake rx_pub [.ref (ad 0), .int p0, .int p1, .int p2, .int p3] (fk_kW ad cI cT S ++ X) "java/lang/IllegalArgumentException") : fk_L l D (fk_ty cI cT cJ) yL_acts wsL_acts rm_L [.ref (ad 0), .int 2, .int p0, .int p1, .int p2, .int p3] (fk_kW ad cI cT S ++ X) (some (.int (-2147483202))) (fk_kW ad cI cT S ++ X) := by
  refine fk_L_of (cc := cL_acts) (maxL := 7) (ret := some .int) (own := RL) (hh := [(0, 120, 121, 15), (0, 120, 126, 18), (0, 120, 131, 21)]) (by decide) rfl rfl (Nat.le_of_ble_eq_true rfl) ?_
  intro p e s m below meth c A ls hx hb hr hlocks hml hts hown htab hA hP hK hD hZ hN hl
  have hS : va_S A s.heap s.heap [] := va_S.rf
  have hl : lv_has ls 7 [(0, .ref (ad 0)), (1, .int 2), (2, .int p0), (3, .int p1), (4, .int p2), (5, .int p3)] := hl
  refine lv_iload_n hx hb dL_acts_0 rfl (lv_at hl 1 rfl) ?_
  refine lv_if_ne (tgt := 15) hx hb dL_acts_1 (by decide) (fun _ => ?_) (fun c => absurd c (by decide))
  refine lv_iload_n hx hb dL_acts_15 rfl (lv_at hl 1 rfl) ?_
  refine lv_iconst (v := 1) hx hb dL_acts_16 (by decide) ?_
  refine lv_icmp_ne (tgt := 29) hx hb dL_acts_17 (by decide) (fun _ => ?_) (fun c => absurd c (by decide))
  refine lv_iload_n hx hb dL_acts_29 rfl (lv_at hl 1 rfl) ?_
  refine lv_iconst (v := 2) hx hb dL_acts_30 (by decide) ?_
  refine lv_icmp_ne (tgt := 47) hx hb dL_acts_31 (by decide) (fun c => absurd c (by decide)) (fun _ => ?_)
  refine lv_aload_n hx hb dL_acts_34 rfl (lv_at hl 0 rfl) ?_
  refine lv_iload_n hx hb dL_acts_35 rfl (lv_at hl 2 rfl) ?_
  refine lv_iload_n hx hb dL_acts_36 rfl (lv_at hl 3 rfl) ?_
  refine lv_iload hx hb dL_acts_37 (lv_at hl 4 rfl) ?_
  refine lv_iload hx hb dL_acts_39 (lv_at hl 5 rfl) ?_
  refine fk_xcallV (As := [.int p0, .int p1, .int p2, .int p3]) (rest := []) ⟨hx, hb, hml, hown, hts⟩ (hX _) (cwV 4 hts gL_acts_X2_wake rfl rfl rfl (by decide +kernel) ⟨Nat.le_of_ble_eq_true rfl, Nat.le_of_ble_eq_true rfl⟩) (fk_rvK hK hP) hK hP hD hS hA hZ rfl hl.1 rfl (Nat.le_of_ble_eq_true rfl) dL_acts_41 ⟨Nat.le_of_ble_eq_true rfl, Nat.le_of_ble_eq_true rfl⟩ (fk_caught (x := (0, 120, 126, 18)) [(0, 120, 121, 15)] [(0, 120, 131, 21)] hown htab rfl rfl (List.forall_mem_cons.mpr ⟨⟨by decide, _, hts _ (List.mem_of_getElem? (i := 1) rfl), hN.2.1⟩, (fun _ h9 => absurd h9 List.not_mem_nil)⟩) (by decide) (by decide) (hts _ (List.mem_of_getElem? (i := 2) rfl)) hZ fk_cast3 (fun q9 H locs hP hS => ?_))
  refine lv_astore (lv' := [(6, .ref q9), (0, .ref (ad 0)), (1, .int 2), (2, .int p0), (3, .int p1), (4, .int p2), (5, .int p3)]) hx hb dL_acts_126 hl (by decide) rfl (fun ls hl => ?_)
  refine lv_ldc (own := RL) (v := (-2147483202)) hx hb hown (hts (.constant RL 20 (-2147483202)) (List.mem_of_getElem? (i := 5) rfl)) dL_acts_128 ?_
  exact fk_iretL (Nat.le_of_ble_eq_true rfl) (Nat.le_of_ble_eq_true rfl) hx hb hr hlocks hP hK hD hS rfl rfl dL_acts_130

set_option maxHeartbeats 4000000 in
set_option maxRecDepth 100000 in
theorem Lx_wake_IS (l : Launch) (D : va_G) (ad : Nat → Nat) (cI cT cJ : ClassId) (X : va_W) (S : fk_S) (p0 p1 p2 p3 : Int32) (hX : ∀ X, fk_X l D (fk_ty cI cT cJ) yX2_wake wsX2_wake rx_pub [.ref (ad 0), .int p0, .int p1, .int p2, .int p3] (fk_kW ad cI cT S ++ X) "java/lang/IllegalStateException") : fk_L l D (fk_ty cI cT cJ) yL_acts wsL_acts rm_L [.ref (ad 0), .int 2, .int p0, .int p1, .int p2, .int p3] (fk_kW ad cI cT S ++ X) (some (.int (-2147483203))) (fk_kW ad cI cT S ++ X) := by
  refine fk_L_of (cc := cL_acts) (maxL := 7) (ret := some .int) (own := RL) (hh := [(0, 120, 121, 15), (0, 120, 126, 18), (0, 120, 131, 21)]) (by decide) rfl rfl (Nat.le_of_ble_eq_true rfl) ?_
  intro p e s m below meth c A ls hx hb hr hlocks hml hts hown htab hA hP hK hD hZ hN hl
  have hS : va_S A s.heap s.heap [] := va_S.rf
  have hl : lv_has ls 7 [(0, .ref (ad 0)), (1, .int 2), (2, .int p0), (3, .int p1), (4, .int p2), (5, .int p3)] := hl
  refine lv_iload_n hx hb dL_acts_0 rfl (lv_at hl 1 rfl) ?_
  refine lv_if_ne (tgt := 15) hx hb dL_acts_1 (by decide) (fun _ => ?_) (fun c => absurd c (by decide))
  refine lv_iload_n hx hb dL_acts_15 rfl (lv_at hl 1 rfl) ?_
  refine lv_iconst (v := 1) hx hb dL_acts_16 (by decide) ?_
  refine lv_icmp_ne (tgt := 29) hx hb dL_acts_17 (by decide) (fun _ => ?_) (fun c => absurd c (by decide))
  refine lv_iload_n hx hb dL_acts_29 rfl (lv_at hl 1 rfl) ?_
  refine lv_iconst (v := 2) hx hb dL_acts_30 (by decide) ?_
  refine lv_icmp_ne (tgt := 47) hx hb dL_acts_31 (by decide) (fun c => absurd c (by decide)) (fun _ => ?_)
  refine lv_aload_n hx hb dL_acts_34 rfl (lv_at hl 0 rfl) ?_
  refine lv_iload_n hx hb dL_acts_35 rfl (lv_at hl 2 rfl) ?_
  refine lv_iload_n hx hb dL_acts_36 rfl (lv_at hl 3 rfl) ?_
  refine lv_iload hx hb dL_acts_37 (lv_at hl 4 rfl) ?_
  refine lv_iload hx hb dL_acts_39 (lv_at hl 5 rfl) ?_
  refine fk_xcallV (As := [.int p0, .int p1, .int p2, .int p3]) (rest := []) ⟨hx, hb, hml, hown, hts⟩ (hX _) (cwV 4 hts gL_acts_X2_wake rfl rfl rfl (by decide +kernel) ⟨Nat.le_of_ble_eq_true rfl, Nat.le_of_ble_eq_true rfl⟩) (fk_rvK hK hP) hK hP hD hS hA hZ rfl hl.1 rfl (Nat.le_of_ble_eq_true rfl) dL_acts_41 ⟨Nat.le_of_ble_eq_true rfl, Nat.le_of_ble_eq_true rfl⟩ (fk_caught (x := (0, 120, 131, 21)) [(0, 120, 121, 15), (0, 120, 126, 18)] [] hown htab rfl rfl (List.forall_mem_cons.mpr ⟨⟨by decide, _, hts _ (List.mem_of_getElem? (i := 1) rfl), hN.1⟩, (List.forall_mem_cons.mpr ⟨⟨by decide, _, hts _ (List.mem_of_getElem? (i := 2) rfl), hN.2.2⟩, (fun _ h9 => absurd h9 List.not_mem_nil)⟩)⟩) (by decide) (by decide) (hts _ (List.mem_of_getElem? (i := 3) rfl)) hZ fk_cast2 (fun q9 H locs hP hS => ?_))
  refine lv_astore (lv' := [(6, .ref q9), (0, .ref (ad 0)), (1, .int 2), (2, .int p0), (3, .int p1), (4, .int p2), (5, .int p3)]) hx hb dL_acts_131 hl (by decide) rfl (fun ls hl => ?_)
  refine lv_ldc (own := RL) (v := (-2147483203)) hx hb hown (hts (.constant RL 23 (-2147483203)) (List.mem_of_getElem? (i := 6) rfl)) dL_acts_133 ?_
  exact fk_iretL (Nat.le_of_ble_eq_true rfl) (Nat.le_of_ble_eq_true rfl) hx hb hr hlocks hP hK hD hS rfl rfl dL_acts_135

set_option maxHeartbeats 4000000 in
set_option maxRecDepth 100000 in
theorem Lc_exit (l : Launch) (D : va_G) (ad : Nat → Nat) (cI cT cJ : ClassId) (X : va_W) (S : fk_S) (p0 p1 p2 p3 : Int32) (S1 : fk_S) (v : Int32) (hC : ∀ X, fk_C l D (fk_ty cI cT cJ) yX2_exit wsX2_exit rmX2_exit [.ref (ad 0), .int p0] (fk_kW ad cI cT S ++ X) (some (.int v)) (fk_kW ad cI cT S1 ++ X)) : fk_L l D (fk_ty cI cT cJ) yL_acts wsL_acts rm_L [.ref (ad 0), .int 3, .int p0, .int p1, .int p2, .int p3] (fk_kW ad cI cT S ++ X) (some (.int v)) (fk_kW ad cI cT S1 ++ X) := by
  refine fk_L_of (cc := cL_acts) (maxL := 7) (ret := some .int) (own := RL) (hh := [(0, 120, 121, 15), (0, 120, 126, 18), (0, 120, 131, 21)]) (by decide) rfl rfl (Nat.le_of_ble_eq_true rfl) ?_
  intro p e s m below meth c A ls hx hb hr hlocks hml hts hown htab hA hP hK hD hZ hN hl
  have hS : va_S A s.heap s.heap [] := va_S.rf
  have hl : lv_has ls 7 [(0, .ref (ad 0)), (1, .int 3), (2, .int p0), (3, .int p1), (4, .int p2), (5, .int p3)] := hl
  refine lv_iload_n hx hb dL_acts_0 rfl (lv_at hl 1 rfl) ?_
  refine lv_if_ne (tgt := 15) hx hb dL_acts_1 (by decide) (fun _ => ?_) (fun c => absurd c (by decide))
  refine lv_iload_n hx hb dL_acts_15 rfl (lv_at hl 1 rfl) ?_
  refine lv_iconst (v := 1) hx hb dL_acts_16 (by decide) ?_
  refine lv_icmp_ne (tgt := 29) hx hb dL_acts_17 (by decide) (fun _ => ?_) (fun c => absurd c (by decide))
  refine lv_iload_n hx hb dL_acts_29 rfl (lv_at hl 1 rfl) ?_
  refine lv_iconst (v := 2) hx hb dL_acts_30 (by decide) ?_
  refine lv_icmp_ne (tgt := 47) hx hb dL_acts_31 (by decide) (fun _ => ?_) (fun c => absurd c (by decide))
  refine lv_iload_n hx hb dL_acts_47 rfl (lv_at hl 1 rfl) ?_
  refine lv_iconst (v := 3) hx hb dL_acts_48 (by decide) ?_
  refine lv_icmp_ne (tgt := 60) hx hb dL_acts_49 (by decide) (fun c => absurd c (by decide)) (fun _ => ?_)
  refine lv_aload_n hx hb dL_acts_52 rfl (lv_at hl 0 rfl) ?_
  refine lv_iload_n hx hb dL_acts_53 rfl (lv_at hl 2 rfl) ?_
  refine fk_callV (As := [.int p0]) (rest := []) ⟨hx, hb, hml, hown, hts⟩ (hC _) (cwV 1 hts gL_acts_X2_exit rfl rfl rfl (by decide +kernel) ⟨Nat.le_of_ble_eq_true rfl, Nat.le_of_ble_eq_true rfl⟩) (fk_rvK hK hP) hK hP hD hS hA rfl hl.1 rfl (Nat.le_of_ble_eq_true rfl) dL_acts_54 ⟨Nat.le_of_ble_eq_true rfl, Nat.le_of_ble_eq_true rfl⟩ (fun H locs hP hD hS => ?_)
  refine W.eq (g2 := F0 m 57 ls [.int v]) rfl ?_
  refine lv_goto (tgt := 120) hx hb dL_acts_57 (by decide) ?_
  exact fk_iretL (Nat.le_of_ble_eq_true rfl) (Nat.le_of_ble_eq_true rfl) hx hb hr hlocks hP hK hD hS rfl rfl dL_acts_120

set_option maxHeartbeats 4000000 in
set_option maxRecDepth 100000 in
theorem Lx_exit_IO (l : Launch) (D : va_G) (ad : Nat → Nat) (cI cT cJ : ClassId) (X : va_W) (S : fk_S) (p0 p1 p2 p3 : Int32) (hX : ∀ X, fk_X l D (fk_ty cI cT cJ) yX2_exit wsX2_exit rx_pub [.ref (ad 0), .int p0] (fk_kW ad cI cT S ++ X) "java/lang/IndexOutOfBoundsException") : fk_L l D (fk_ty cI cT cJ) yL_acts wsL_acts rm_L [.ref (ad 0), .int 3, .int p0, .int p1, .int p2, .int p3] (fk_kW ad cI cT S ++ X) (some (.int (-2147483201))) (fk_kW ad cI cT S ++ X) := by
  refine fk_L_of (cc := cL_acts) (maxL := 7) (ret := some .int) (own := RL) (hh := [(0, 120, 121, 15), (0, 120, 126, 18), (0, 120, 131, 21)]) (by decide) rfl rfl (Nat.le_of_ble_eq_true rfl) ?_
  intro p e s m below meth c A ls hx hb hr hlocks hml hts hown htab hA hP hK hD hZ hN hl
  have hS : va_S A s.heap s.heap [] := va_S.rf
  have hl : lv_has ls 7 [(0, .ref (ad 0)), (1, .int 3), (2, .int p0), (3, .int p1), (4, .int p2), (5, .int p3)] := hl
  refine lv_iload_n hx hb dL_acts_0 rfl (lv_at hl 1 rfl) ?_
  refine lv_if_ne (tgt := 15) hx hb dL_acts_1 (by decide) (fun _ => ?_) (fun c => absurd c (by decide))
  refine lv_iload_n hx hb dL_acts_15 rfl (lv_at hl 1 rfl) ?_
  refine lv_iconst (v := 1) hx hb dL_acts_16 (by decide) ?_
  refine lv_icmp_ne (tgt := 29) hx hb dL_acts_17 (by decide) (fun _ => ?_) (fun c => absurd c (by decide))
  refine lv_iload_n hx hb dL_acts_29 rfl (lv_at hl 1 rfl) ?_
  refine lv_iconst (v := 2) hx hb dL_acts_30 (by decide) ?_
  refine lv_icmp_ne (tgt := 47) hx hb dL_acts_31 (by decide) (fun _ => ?_) (fun c => absurd c (by decide))
  refine lv_iload_n hx hb dL_acts_47 rfl (lv_at hl 1 rfl) ?_
  refine lv_iconst (v := 3) hx hb dL_acts_48 (by decide) ?_
  refine lv_icmp_ne (tgt := 60) hx hb dL_acts_49 (by decide) (fun c => absurd c (by decide)) (fun _ => ?_)
  refine lv_aload_n hx hb dL_acts_52 rfl (lv_at hl 0 rfl) ?_
  refine lv_iload_n hx hb dL_acts_53 rfl (lv_at hl 2 rfl) ?_
  refine fk_xcallV (As := [.int p0]) (rest := []) ⟨hx, hb, hml, hown, hts⟩ (hX _) (cwV 1 hts gL_acts_X2_exit rfl rfl rfl (by decide +kernel) ⟨Nat.le_of_ble_eq_true rfl, Nat.le_of_ble_eq_true rfl⟩) (fk_rvK hK hP) hK hP hD hS hA hZ rfl hl.1 rfl (Nat.le_of_ble_eq_true rfl) dL_acts_54 ⟨Nat.le_of_ble_eq_true rfl, Nat.le_of_ble_eq_true rfl⟩ (fk_caught (x := (0, 120, 121, 15)) [] [(0, 120, 126, 18), (0, 120, 131, 21)] hown htab rfl rfl (fun _ h9 => absurd h9 List.not_mem_nil) (by decide) (by decide) (hts _ (List.mem_of_getElem? (i := 1) rfl)) hZ fk_cast1 (fun q9 H locs hP hS => ?_))
  refine lv_astore (lv' := [(6, .ref q9), (0, .ref (ad 0)), (1, .int 3), (2, .int p0), (3, .int p1), (4, .int p2), (5, .int p3)]) hx hb dL_acts_121 hl (by decide) rfl (fun ls hl => ?_)
  refine lv_ldc (own := RL) (v := (-2147483201)) hx hb hown (hts (.constant RL 17 (-2147483201)) (List.mem_of_getElem? (i := 4) rfl)) dL_acts_123 ?_
  exact fk_iretL (Nat.le_of_ble_eq_true rfl) (Nat.le_of_ble_eq_true rfl) hx hb hr hlocks hP hK hD hS rfl rfl dL_acts_125

set_option maxHeartbeats 4000000 in
set_option maxRecDepth 100000 in
theorem Lx_exit_IS (l : Launch) (D : va_G) (ad : Nat → Nat) (cI cT cJ : ClassId) (X : va_W) (S : fk_S) (p0 p1 p2 p3 : Int32) (hX : ∀ X, fk_X l D (fk_ty cI cT cJ) yX2_exit wsX2_exit rx_pub [.ref (ad 0), .int p0] (fk_kW ad cI cT S ++ X) "java/lang/IllegalStateException") : fk_L l D (fk_ty cI cT cJ) yL_acts wsL_acts rm_L [.ref (ad 0), .int 3, .int p0, .int p1, .int p2, .int p3] (fk_kW ad cI cT S ++ X) (some (.int (-2147483203))) (fk_kW ad cI cT S ++ X) := by
  refine fk_L_of (cc := cL_acts) (maxL := 7) (ret := some .int) (own := RL) (hh := [(0, 120, 121, 15), (0, 120, 126, 18), (0, 120, 131, 21)]) (by decide) rfl rfl (Nat.le_of_ble_eq_true rfl) ?_
  intro p e s m below meth c A ls hx hb hr hlocks hml hts hown htab hA hP hK hD hZ hN hl
  have hS : va_S A s.heap s.heap [] := va_S.rf
  have hl : lv_has ls 7 [(0, .ref (ad 0)), (1, .int 3), (2, .int p0), (3, .int p1), (4, .int p2), (5, .int p3)] := hl
  refine lv_iload_n hx hb dL_acts_0 rfl (lv_at hl 1 rfl) ?_
  refine lv_if_ne (tgt := 15) hx hb dL_acts_1 (by decide) (fun _ => ?_) (fun c => absurd c (by decide))
  refine lv_iload_n hx hb dL_acts_15 rfl (lv_at hl 1 rfl) ?_
  refine lv_iconst (v := 1) hx hb dL_acts_16 (by decide) ?_
  refine lv_icmp_ne (tgt := 29) hx hb dL_acts_17 (by decide) (fun _ => ?_) (fun c => absurd c (by decide))
  refine lv_iload_n hx hb dL_acts_29 rfl (lv_at hl 1 rfl) ?_
  refine lv_iconst (v := 2) hx hb dL_acts_30 (by decide) ?_
  refine lv_icmp_ne (tgt := 47) hx hb dL_acts_31 (by decide) (fun _ => ?_) (fun c => absurd c (by decide))
  refine lv_iload_n hx hb dL_acts_47 rfl (lv_at hl 1 rfl) ?_
  refine lv_iconst (v := 3) hx hb dL_acts_48 (by decide) ?_
  refine lv_icmp_ne (tgt := 60) hx hb dL_acts_49 (by decide) (fun c => absurd c (by decide)) (fun _ => ?_)
  refine lv_aload_n hx hb dL_acts_52 rfl (lv_at hl 0 rfl) ?_
  refine lv_iload_n hx hb dL_acts_53 rfl (lv_at hl 2 rfl) ?_
  refine fk_xcallV (As := [.int p0]) (rest := []) ⟨hx, hb, hml, hown, hts⟩ (hX _) (cwV 1 hts gL_acts_X2_exit rfl rfl rfl (by decide +kernel) ⟨Nat.le_of_ble_eq_true rfl, Nat.le_of_ble_eq_true rfl⟩) (fk_rvK hK hP) hK hP hD hS hA hZ rfl hl.1 rfl (Nat.le_of_ble_eq_true rfl) dL_acts_54 ⟨Nat.le_of_ble_eq_true rfl, Nat.le_of_ble_eq_true rfl⟩ (fk_caught (x := (0, 120, 131, 21)) [(0, 120, 121, 15), (0, 120, 126, 18)] [] hown htab rfl rfl (List.forall_mem_cons.mpr ⟨⟨by decide, _, hts _ (List.mem_of_getElem? (i := 1) rfl), hN.1⟩, (List.forall_mem_cons.mpr ⟨⟨by decide, _, hts _ (List.mem_of_getElem? (i := 2) rfl), hN.2.2⟩, (fun _ h9 => absurd h9 List.not_mem_nil)⟩)⟩) (by decide) (by decide) (hts _ (List.mem_of_getElem? (i := 3) rfl)) hZ fk_cast2 (fun q9 H locs hP hS => ?_))
  refine lv_astore (lv' := [(6, .ref q9), (0, .ref (ad 0)), (1, .int 3), (2, .int p0), (3, .int p1), (4, .int p2), (5, .int p3)]) hx hb dL_acts_131 hl (by decide) rfl (fun ls hl => ?_)
  refine lv_ldc (own := RL) (v := (-2147483203)) hx hb hown (hts (.constant RL 23 (-2147483203)) (List.mem_of_getElem? (i := 6) rfl)) dL_acts_133 ?_
  exact fk_iretL (Nat.le_of_ble_eq_true rfl) (Nat.le_of_ble_eq_true rfl) hx hb hr hlocks hP hK hD hS rfl rfl dL_acts_135

set_option maxHeartbeats 4000000 in
set_option maxRecDepth 100000 in
theorem Lc_setPriority (l : Launch) (D : va_G) (ad : Nat → Nat) (cI cT cJ : ClassId) (X : va_W) (S : fk_S) (p0 p1 p2 p3 : Int32) (S1 : fk_S) (v : Int32) (hC : ∀ X, fk_C l D (fk_ty cI cT cJ) yX2_setPriority wsX2_setPriority rmX2_setPriority [.ref (ad 0), .int p0, .int p1] (fk_kW ad cI cT S ++ X) (some (.int v)) (fk_kW ad cI cT S1 ++ X)) : fk_L l D (fk_ty cI cT cJ) yL_acts wsL_acts rm_L [.ref (ad 0), .int 4, .int p0, .int p1, .int p2, .int p3] (fk_kW ad cI cT S ++ X) (some (.int v)) (fk_kW ad cI cT S1 ++ X) := by
  refine fk_L_of (cc := cL_acts) (maxL := 7) (ret := some .int) (own := RL) (hh := [(0, 120, 121, 15), (0, 120, 126, 18), (0, 120, 131, 21)]) (by decide) rfl rfl (Nat.le_of_ble_eq_true rfl) ?_
  intro p e s m below meth c A ls hx hb hr hlocks hml hts hown htab hA hP hK hD hZ hN hl
  have hS : va_S A s.heap s.heap [] := va_S.rf
  have hl : lv_has ls 7 [(0, .ref (ad 0)), (1, .int 4), (2, .int p0), (3, .int p1), (4, .int p2), (5, .int p3)] := hl
  refine lv_iload_n hx hb dL_acts_0 rfl (lv_at hl 1 rfl) ?_
  refine lv_if_ne (tgt := 15) hx hb dL_acts_1 (by decide) (fun _ => ?_) (fun c => absurd c (by decide))
  refine lv_iload_n hx hb dL_acts_15 rfl (lv_at hl 1 rfl) ?_
  refine lv_iconst (v := 1) hx hb dL_acts_16 (by decide) ?_
  refine lv_icmp_ne (tgt := 29) hx hb dL_acts_17 (by decide) (fun _ => ?_) (fun c => absurd c (by decide))
  refine lv_iload_n hx hb dL_acts_29 rfl (lv_at hl 1 rfl) ?_
  refine lv_iconst (v := 2) hx hb dL_acts_30 (by decide) ?_
  refine lv_icmp_ne (tgt := 47) hx hb dL_acts_31 (by decide) (fun _ => ?_) (fun c => absurd c (by decide))
  refine lv_iload_n hx hb dL_acts_47 rfl (lv_at hl 1 rfl) ?_
  refine lv_iconst (v := 3) hx hb dL_acts_48 (by decide) ?_
  refine lv_icmp_ne (tgt := 60) hx hb dL_acts_49 (by decide) (fun _ => ?_) (fun c => absurd c (by decide))
  refine lv_iload_n hx hb dL_acts_60 rfl (lv_at hl 1 rfl) ?_
  refine lv_iconst (v := 4) hx hb dL_acts_61 (by decide) ?_
  refine lv_icmp_ne (tgt := 74) hx hb dL_acts_62 (by decide) (fun c => absurd c (by decide)) (fun _ => ?_)
  refine lv_aload_n hx hb dL_acts_65 rfl (lv_at hl 0 rfl) ?_
  refine lv_iload_n hx hb dL_acts_66 rfl (lv_at hl 2 rfl) ?_
  refine lv_iload_n hx hb dL_acts_67 rfl (lv_at hl 3 rfl) ?_
  refine fk_callV (As := [.int p0, .int p1]) (rest := []) ⟨hx, hb, hml, hown, hts⟩ (hC _) (cwV 2 hts gL_acts_X2_setPriority rfl rfl rfl (by decide +kernel) ⟨Nat.le_of_ble_eq_true rfl, Nat.le_of_ble_eq_true rfl⟩) (fk_rvK hK hP) hK hP hD hS hA rfl hl.1 rfl (Nat.le_of_ble_eq_true rfl) dL_acts_68 ⟨Nat.le_of_ble_eq_true rfl, Nat.le_of_ble_eq_true rfl⟩ (fun H locs hP hD hS => ?_)
  refine W.eq (g2 := F0 m 71 ls [.int v]) rfl ?_
  refine lv_goto (tgt := 120) hx hb dL_acts_71 (by decide) ?_
  exact fk_iretL (Nat.le_of_ble_eq_true rfl) (Nat.le_of_ble_eq_true rfl) hx hb hr hlocks hP hK hD hS rfl rfl dL_acts_120

set_option maxHeartbeats 4000000 in
set_option maxRecDepth 100000 in
theorem Lx_setPriority_IO (l : Launch) (D : va_G) (ad : Nat → Nat) (cI cT cJ : ClassId) (X : va_W) (S : fk_S) (p0 p1 p2 p3 : Int32) (hX : ∀ X, fk_X l D (fk_ty cI cT cJ) yX2_setPriority wsX2_setPriority rx_pub [.ref (ad 0), .int p0, .int p1] (fk_kW ad cI cT S ++ X) "java/lang/IndexOutOfBoundsException") : fk_L l D (fk_ty cI cT cJ) yL_acts wsL_acts rm_L [.ref (ad 0), .int 4, .int p0, .int p1, .int p2, .int p3] (fk_kW ad cI cT S ++ X) (some (.int (-2147483201))) (fk_kW ad cI cT S ++ X) := by
  refine fk_L_of (cc := cL_acts) (maxL := 7) (ret := some .int) (own := RL) (hh := [(0, 120, 121, 15), (0, 120, 126, 18), (0, 120, 131, 21)]) (by decide) rfl rfl (Nat.le_of_ble_eq_true rfl) ?_
  intro p e s m below meth c A ls hx hb hr hlocks hml hts hown htab hA hP hK hD hZ hN hl
  have hS : va_S A s.heap s.heap [] := va_S.rf
  have hl : lv_has ls 7 [(0, .ref (ad 0)), (1, .int 4), (2, .int p0), (3, .int p1), (4, .int p2), (5, .int p3)] := hl
  refine lv_iload_n hx hb dL_acts_0 rfl (lv_at hl 1 rfl) ?_
  refine lv_if_ne (tgt := 15) hx hb dL_acts_1 (by decide) (fun _ => ?_) (fun c => absurd c (by decide))
  refine lv_iload_n hx hb dL_acts_15 rfl (lv_at hl 1 rfl) ?_
  refine lv_iconst (v := 1) hx hb dL_acts_16 (by decide) ?_
  refine lv_icmp_ne (tgt := 29) hx hb dL_acts_17 (by decide) (fun _ => ?_) (fun c => absurd c (by decide))
  refine lv_iload_n hx hb dL_acts_29 rfl (lv_at hl 1 rfl) ?_
  refine lv_iconst (v := 2) hx hb dL_acts_30 (by decide) ?_
  refine lv_icmp_ne (tgt := 47) hx hb dL_acts_31 (by decide) (fun _ => ?_) (fun c => absurd c (by decide))
  refine lv_iload_n hx hb dL_acts_47 rfl (lv_at hl 1 rfl) ?_
  refine lv_iconst (v := 3) hx hb dL_acts_48 (by decide) ?_
  refine lv_icmp_ne (tgt := 60) hx hb dL_acts_49 (by decide) (fun _ => ?_) (fun c => absurd c (by decide))
  refine lv_iload_n hx hb dL_acts_60 rfl (lv_at hl 1 rfl) ?_
  refine lv_iconst (v := 4) hx hb dL_acts_61 (by decide) ?_
  refine lv_icmp_ne (tgt := 74) hx hb dL_acts_62 (by decide) (fun c => absurd c (by decide)) (fun _ => ?_)
  refine lv_aload_n hx hb dL_acts_65 rfl (lv_at hl 0 rfl) ?_
  refine lv_iload_n hx hb dL_acts_66 rfl (lv_at hl 2 rfl) ?_
  refine lv_iload_n hx hb dL_acts_67 rfl (lv_at hl 3 rfl) ?_
  refine fk_xcallV (As := [.int p0, .int p1]) (rest := []) ⟨hx, hb, hml, hown, hts⟩ (hX _) (cwV 2 hts gL_acts_X2_setPriority rfl rfl rfl (by decide +kernel) ⟨Nat.le_of_ble_eq_true rfl, Nat.le_of_ble_eq_true rfl⟩) (fk_rvK hK hP) hK hP hD hS hA hZ rfl hl.1 rfl (Nat.le_of_ble_eq_true rfl) dL_acts_68 ⟨Nat.le_of_ble_eq_true rfl, Nat.le_of_ble_eq_true rfl⟩ (fk_caught (x := (0, 120, 121, 15)) [] [(0, 120, 126, 18), (0, 120, 131, 21)] hown htab rfl rfl (fun _ h9 => absurd h9 List.not_mem_nil) (by decide) (by decide) (hts _ (List.mem_of_getElem? (i := 1) rfl)) hZ fk_cast1 (fun q9 H locs hP hS => ?_))
  refine lv_astore (lv' := [(6, .ref q9), (0, .ref (ad 0)), (1, .int 4), (2, .int p0), (3, .int p1), (4, .int p2), (5, .int p3)]) hx hb dL_acts_121 hl (by decide) rfl (fun ls hl => ?_)
  refine lv_ldc (own := RL) (v := (-2147483201)) hx hb hown (hts (.constant RL 17 (-2147483201)) (List.mem_of_getElem? (i := 4) rfl)) dL_acts_123 ?_
  exact fk_iretL (Nat.le_of_ble_eq_true rfl) (Nat.le_of_ble_eq_true rfl) hx hb hr hlocks hP hK hD hS rfl rfl dL_acts_125

set_option maxHeartbeats 4000000 in
set_option maxRecDepth 100000 in
theorem Lx_setPriority_IA (l : Launch) (D : va_G) (ad : Nat → Nat) (cI cT cJ : ClassId) (X : va_W) (S : fk_S) (p0 p1 p2 p3 : Int32) (hX : ∀ X, fk_X l D (fk_ty cI cT cJ) yX2_setPriority wsX2_setPriority rx_pub [.ref (ad 0), .int p0, .int p1] (fk_kW ad cI cT S ++ X) "java/lang/IllegalArgumentException") : fk_L l D (fk_ty cI cT cJ) yL_acts wsL_acts rm_L [.ref (ad 0), .int 4, .int p0, .int p1, .int p2, .int p3] (fk_kW ad cI cT S ++ X) (some (.int (-2147483202))) (fk_kW ad cI cT S ++ X) := by
  refine fk_L_of (cc := cL_acts) (maxL := 7) (ret := some .int) (own := RL) (hh := [(0, 120, 121, 15), (0, 120, 126, 18), (0, 120, 131, 21)]) (by decide) rfl rfl (Nat.le_of_ble_eq_true rfl) ?_
  intro p e s m below meth c A ls hx hb hr hlocks hml hts hown htab hA hP hK hD hZ hN hl
  have hS : va_S A s.heap s.heap [] := va_S.rf
  have hl : lv_has ls 7 [(0, .ref (ad 0)), (1, .int 4), (2, .int p0), (3, .int p1), (4, .int p2), (5, .int p3)] := hl
  refine lv_iload_n hx hb dL_acts_0 rfl (lv_at hl 1 rfl) ?_
  refine lv_if_ne (tgt := 15) hx hb dL_acts_1 (by decide) (fun _ => ?_) (fun c => absurd c (by decide))
  refine lv_iload_n hx hb dL_acts_15 rfl (lv_at hl 1 rfl) ?_
  refine lv_iconst (v := 1) hx hb dL_acts_16 (by decide) ?_
  refine lv_icmp_ne (tgt := 29) hx hb dL_acts_17 (by decide) (fun _ => ?_) (fun c => absurd c (by decide))
  refine lv_iload_n hx hb dL_acts_29 rfl (lv_at hl 1 rfl) ?_
  refine lv_iconst (v := 2) hx hb dL_acts_30 (by decide) ?_
  refine lv_icmp_ne (tgt := 47) hx hb dL_acts_31 (by decide) (fun _ => ?_) (fun c => absurd c (by decide))
  refine lv_iload_n hx hb dL_acts_47 rfl (lv_at hl 1 rfl) ?_
  refine lv_iconst (v := 3) hx hb dL_acts_48 (by decide) ?_
  refine lv_icmp_ne (tgt := 60) hx hb dL_acts_49 (by decide) (fun _ => ?_) (fun c => absurd c (by decide))
  refine lv_iload_n hx hb dL_acts_60 rfl (lv_at hl 1 rfl) ?_
  refine lv_iconst (v := 4) hx hb dL_acts_61 (by decide) ?_
  refine lv_icmp_ne (tgt := 74) hx hb dL_acts_62 (by decide) (fun c => absurd c (by decide)) (fun _ => ?_)
  refine lv_aload_n hx hb dL_acts_65 rfl (lv_at hl 0 rfl) ?_
  refine lv_iload_n hx hb dL_acts_66 rfl (lv_at hl 2 rfl) ?_
  refine lv_iload_n hx hb dL_acts_67 rfl (lv_at hl 3 rfl) ?_
  refine fk_xcallV (As := [.int p0, .int p1]) (rest := []) ⟨hx, hb, hml, hown, hts⟩ (hX _) (cwV 2 hts gL_acts_X2_setPriority rfl rfl rfl (by decide +kernel) ⟨Nat.le_of_ble_eq_true rfl, Nat.le_of_ble_eq_true rfl⟩) (fk_rvK hK hP) hK hP hD hS hA hZ rfl hl.1 rfl (Nat.le_of_ble_eq_true rfl) dL_acts_68 ⟨Nat.le_of_ble_eq_true rfl, Nat.le_of_ble_eq_true rfl⟩ (fk_caught (x := (0, 120, 126, 18)) [(0, 120, 121, 15)] [(0, 120, 131, 21)] hown htab rfl rfl (List.forall_mem_cons.mpr ⟨⟨by decide, _, hts _ (List.mem_of_getElem? (i := 1) rfl), hN.2.1⟩, (fun _ h9 => absurd h9 List.not_mem_nil)⟩) (by decide) (by decide) (hts _ (List.mem_of_getElem? (i := 2) rfl)) hZ fk_cast3 (fun q9 H locs hP hS => ?_))
  refine lv_astore (lv' := [(6, .ref q9), (0, .ref (ad 0)), (1, .int 4), (2, .int p0), (3, .int p1), (4, .int p2), (5, .int p3)]) hx hb dL_acts_126 hl (by decide) rfl (fun ls hl => ?_)
  refine lv_ldc (own := RL) (v := (-2147483202)) hx hb hown (hts (.constant RL 20 (-2147483202)) (List.mem_of_getElem? (i := 5) rfl)) dL_acts_128 ?_
  exact fk_iretL (Nat.le_of_ble_eq_true rfl) (Nat.le_of_ble_eq_true rfl) hx hb hr hlocks hP hK hD hS rfl rfl dL_acts_130

set_option maxHeartbeats 4000000 in
set_option maxRecDepth 100000 in
theorem Lx_setPriority_IS (l : Launch) (D : va_G) (ad : Nat → Nat) (cI cT cJ : ClassId) (X : va_W) (S : fk_S) (p0 p1 p2 p3 : Int32) (hX : ∀ X, fk_X l D (fk_ty cI cT cJ) yX2_setPriority wsX2_setPriority rx_pub [.ref (ad 0), .int p0, .int p1] (fk_kW ad cI cT S ++ X) "java/lang/IllegalStateException") : fk_L l D (fk_ty cI cT cJ) yL_acts wsL_acts rm_L [.ref (ad 0), .int 4, .int p0, .int p1, .int p2, .int p3] (fk_kW ad cI cT S ++ X) (some (.int (-2147483203))) (fk_kW ad cI cT S ++ X) := by
  refine fk_L_of (cc := cL_acts) (maxL := 7) (ret := some .int) (own := RL) (hh := [(0, 120, 121, 15), (0, 120, 126, 18), (0, 120, 131, 21)]) (by decide) rfl rfl (Nat.le_of_ble_eq_true rfl) ?_
  intro p e s m below meth c A ls hx hb hr hlocks hml hts hown htab hA hP hK hD hZ hN hl
  have hS : va_S A s.heap s.heap [] := va_S.rf
  have hl : lv_has ls 7 [(0, .ref (ad 0)), (1, .int 4), (2, .int p0), (3, .int p1), (4, .int p2), (5, .int p3)] := hl
  refine lv_iload_n hx hb dL_acts_0 rfl (lv_at hl 1 rfl) ?_
  refine lv_if_ne (tgt := 15) hx hb dL_acts_1 (by decide) (fun _ => ?_) (fun c => absurd c (by decide))
  refine lv_iload_n hx hb dL_acts_15 rfl (lv_at hl 1 rfl) ?_
  refine lv_iconst (v := 1) hx hb dL_acts_16 (by decide) ?_
  refine lv_icmp_ne (tgt := 29) hx hb dL_acts_17 (by decide) (fun _ => ?_) (fun c => absurd c (by decide))
  refine lv_iload_n hx hb dL_acts_29 rfl (lv_at hl 1 rfl) ?_
  refine lv_iconst (v := 2) hx hb dL_acts_30 (by decide) ?_
  refine lv_icmp_ne (tgt := 47) hx hb dL_acts_31 (by decide) (fun _ => ?_) (fun c => absurd c (by decide))
  refine lv_iload_n hx hb dL_acts_47 rfl (lv_at hl 1 rfl) ?_
  refine lv_iconst (v := 3) hx hb dL_acts_48 (by decide) ?_
  refine lv_icmp_ne (tgt := 60) hx hb dL_acts_49 (by decide) (fun _ => ?_) (fun c => absurd c (by decide))
  refine lv_iload_n hx hb dL_acts_60 rfl (lv_at hl 1 rfl) ?_
  refine lv_iconst (v := 4) hx hb dL_acts_61 (by decide) ?_
  refine lv_icmp_ne (tgt := 74) hx hb dL_acts_62 (by decide) (fun c => absurd c (by decide)) (fun _ => ?_)
  refine lv_aload_n hx hb dL_acts_65 rfl (lv_at hl 0 rfl) ?_
  refine lv_iload_n hx hb dL_acts_66 rfl (lv_at hl 2 rfl) ?_
  refine lv_iload_n hx hb dL_acts_67 rfl (lv_at hl 3 rfl) ?_
  refine fk_xcallV (As := [.int p0, .int p1]) (rest := []) ⟨hx, hb, hml, hown, hts⟩ (hX _) (cwV 2 hts gL_acts_X2_setPriority rfl rfl rfl (by decide +kernel) ⟨Nat.le_of_ble_eq_true rfl, Nat.le_of_ble_eq_true rfl⟩) (fk_rvK hK hP) hK hP hD hS hA hZ rfl hl.1 rfl (Nat.le_of_ble_eq_true rfl) dL_acts_68 ⟨Nat.le_of_ble_eq_true rfl, Nat.le_of_ble_eq_true rfl⟩ (fk_caught (x := (0, 120, 131, 21)) [(0, 120, 121, 15), (0, 120, 126, 18)] [] hown htab rfl rfl (List.forall_mem_cons.mpr ⟨⟨by decide, _, hts _ (List.mem_of_getElem? (i := 1) rfl), hN.1⟩, (List.forall_mem_cons.mpr ⟨⟨by decide, _, hts _ (List.mem_of_getElem? (i := 2) rfl), hN.2.2⟩, (fun _ h9 => absurd h9 List.not_mem_nil)⟩)⟩) (by decide) (by decide) (hts _ (List.mem_of_getElem? (i := 3) rfl)) hZ fk_cast2 (fun q9 H locs hP hS => ?_))
  refine lv_astore (lv' := [(6, .ref q9), (0, .ref (ad 0)), (1, .int 4), (2, .int p0), (3, .int p1), (4, .int p2), (5, .int p3)]) hx hb dL_acts_131 hl (by decide) rfl (fun ls hl => ?_)
  refine lv_ldc (own := RL) (v := (-2147483203)) hx hb hown (hts (.constant RL 23 (-2147483203)) (List.mem_of_getElem? (i := 6) rfl)) dL_acts_133 ?_
  exact fk_iretL (Nat.le_of_ble_eq_true rfl) (Nat.le_of_ble_eq_true rfl) hx hb hr hlocks hP hK hD hS rfl rfl dL_acts_135

set_option maxHeartbeats 4000000 in
set_option maxRecDepth 100000 in
theorem Lc_tick (l : Launch) (D : va_G) (ad : Nat → Nat) (cI cT cJ : ClassId) (X : va_W) (S : fk_S) (p0 p1 p2 p3 : Int32) (S1 : fk_S) (v : Int32) (hC : ∀ X, fk_C l D (fk_ty cI cT cJ) yX2_tick wsX2_tick rmX2_tick [.ref (ad 0), .int p0] (fk_kW ad cI cT S ++ X) (some (.int v)) (fk_kW ad cI cT S1 ++ X)) : fk_L l D (fk_ty cI cT cJ) yL_acts wsL_acts rm_L [.ref (ad 0), .int 5, .int p0, .int p1, .int p2, .int p3] (fk_kW ad cI cT S ++ X) (some (.int v)) (fk_kW ad cI cT S1 ++ X) := by
  refine fk_L_of (cc := cL_acts) (maxL := 7) (ret := some .int) (own := RL) (hh := [(0, 120, 121, 15), (0, 120, 126, 18), (0, 120, 131, 21)]) (by decide) rfl rfl (Nat.le_of_ble_eq_true rfl) ?_
  intro p e s m below meth c A ls hx hb hr hlocks hml hts hown htab hA hP hK hD hZ hN hl
  have hS : va_S A s.heap s.heap [] := va_S.rf
  have hl : lv_has ls 7 [(0, .ref (ad 0)), (1, .int 5), (2, .int p0), (3, .int p1), (4, .int p2), (5, .int p3)] := hl
  refine lv_iload_n hx hb dL_acts_0 rfl (lv_at hl 1 rfl) ?_
  refine lv_if_ne (tgt := 15) hx hb dL_acts_1 (by decide) (fun _ => ?_) (fun c => absurd c (by decide))
  refine lv_iload_n hx hb dL_acts_15 rfl (lv_at hl 1 rfl) ?_
  refine lv_iconst (v := 1) hx hb dL_acts_16 (by decide) ?_
  refine lv_icmp_ne (tgt := 29) hx hb dL_acts_17 (by decide) (fun _ => ?_) (fun c => absurd c (by decide))
  refine lv_iload_n hx hb dL_acts_29 rfl (lv_at hl 1 rfl) ?_
  refine lv_iconst (v := 2) hx hb dL_acts_30 (by decide) ?_
  refine lv_icmp_ne (tgt := 47) hx hb dL_acts_31 (by decide) (fun _ => ?_) (fun c => absurd c (by decide))
  refine lv_iload_n hx hb dL_acts_47 rfl (lv_at hl 1 rfl) ?_
  refine lv_iconst (v := 3) hx hb dL_acts_48 (by decide) ?_
  refine lv_icmp_ne (tgt := 60) hx hb dL_acts_49 (by decide) (fun _ => ?_) (fun c => absurd c (by decide))
  refine lv_iload_n hx hb dL_acts_60 rfl (lv_at hl 1 rfl) ?_
  refine lv_iconst (v := 4) hx hb dL_acts_61 (by decide) ?_
  refine lv_icmp_ne (tgt := 74) hx hb dL_acts_62 (by decide) (fun _ => ?_) (fun c => absurd c (by decide))
  refine lv_iload_n hx hb dL_acts_74 rfl (lv_at hl 1 rfl) ?_
  refine lv_iconst (v := 5) hx hb dL_acts_75 (by decide) ?_
  refine lv_icmp_ne (tgt := 87) hx hb dL_acts_76 (by decide) (fun c => absurd c (by decide)) (fun _ => ?_)
  refine lv_aload_n hx hb dL_acts_79 rfl (lv_at hl 0 rfl) ?_
  refine lv_iload_n hx hb dL_acts_80 rfl (lv_at hl 2 rfl) ?_
  refine fk_callV (As := [.int p0]) (rest := []) ⟨hx, hb, hml, hown, hts⟩ (hC _) (cwV 1 hts gL_acts_X2_tick rfl rfl rfl (by decide +kernel) ⟨Nat.le_of_ble_eq_true rfl, Nat.le_of_ble_eq_true rfl⟩) (fk_rvK hK hP) hK hP hD hS hA rfl hl.1 rfl (Nat.le_of_ble_eq_true rfl) dL_acts_81 ⟨Nat.le_of_ble_eq_true rfl, Nat.le_of_ble_eq_true rfl⟩ (fun H locs hP hD hS => ?_)
  refine W.eq (g2 := F0 m 84 ls [.int v]) rfl ?_
  refine lv_goto (tgt := 120) hx hb dL_acts_84 (by decide) ?_
  exact fk_iretL (Nat.le_of_ble_eq_true rfl) (Nat.le_of_ble_eq_true rfl) hx hb hr hlocks hP hK hD hS rfl rfl dL_acts_120

set_option maxHeartbeats 4000000 in
set_option maxRecDepth 100000 in
theorem Lx_tick_IA (l : Launch) (D : va_G) (ad : Nat → Nat) (cI cT cJ : ClassId) (X : va_W) (S : fk_S) (p0 p1 p2 p3 : Int32) (hX : ∀ X, fk_X l D (fk_ty cI cT cJ) yX2_tick wsX2_tick rx_pub [.ref (ad 0), .int p0] (fk_kW ad cI cT S ++ X) "java/lang/IllegalArgumentException") : fk_L l D (fk_ty cI cT cJ) yL_acts wsL_acts rm_L [.ref (ad 0), .int 5, .int p0, .int p1, .int p2, .int p3] (fk_kW ad cI cT S ++ X) (some (.int (-2147483202))) (fk_kW ad cI cT S ++ X) := by
  refine fk_L_of (cc := cL_acts) (maxL := 7) (ret := some .int) (own := RL) (hh := [(0, 120, 121, 15), (0, 120, 126, 18), (0, 120, 131, 21)]) (by decide) rfl rfl (Nat.le_of_ble_eq_true rfl) ?_
  intro p e s m below meth c A ls hx hb hr hlocks hml hts hown htab hA hP hK hD hZ hN hl
  have hS : va_S A s.heap s.heap [] := va_S.rf
  have hl : lv_has ls 7 [(0, .ref (ad 0)), (1, .int 5), (2, .int p0), (3, .int p1), (4, .int p2), (5, .int p3)] := hl
  refine lv_iload_n hx hb dL_acts_0 rfl (lv_at hl 1 rfl) ?_
  refine lv_if_ne (tgt := 15) hx hb dL_acts_1 (by decide) (fun _ => ?_) (fun c => absurd c (by decide))
  refine lv_iload_n hx hb dL_acts_15 rfl (lv_at hl 1 rfl) ?_
  refine lv_iconst (v := 1) hx hb dL_acts_16 (by decide) ?_
  refine lv_icmp_ne (tgt := 29) hx hb dL_acts_17 (by decide) (fun _ => ?_) (fun c => absurd c (by decide))
  refine lv_iload_n hx hb dL_acts_29 rfl (lv_at hl 1 rfl) ?_
  refine lv_iconst (v := 2) hx hb dL_acts_30 (by decide) ?_
  refine lv_icmp_ne (tgt := 47) hx hb dL_acts_31 (by decide) (fun _ => ?_) (fun c => absurd c (by decide))
  refine lv_iload_n hx hb dL_acts_47 rfl (lv_at hl 1 rfl) ?_
  refine lv_iconst (v := 3) hx hb dL_acts_48 (by decide) ?_
  refine lv_icmp_ne (tgt := 60) hx hb dL_acts_49 (by decide) (fun _ => ?_) (fun c => absurd c (by decide))
  refine lv_iload_n hx hb dL_acts_60 rfl (lv_at hl 1 rfl) ?_
  refine lv_iconst (v := 4) hx hb dL_acts_61 (by decide) ?_
  refine lv_icmp_ne (tgt := 74) hx hb dL_acts_62 (by decide) (fun _ => ?_) (fun c => absurd c (by decide))
  refine lv_iload_n hx hb dL_acts_74 rfl (lv_at hl 1 rfl) ?_
  refine lv_iconst (v := 5) hx hb dL_acts_75 (by decide) ?_
  refine lv_icmp_ne (tgt := 87) hx hb dL_acts_76 (by decide) (fun c => absurd c (by decide)) (fun _ => ?_)
  refine lv_aload_n hx hb dL_acts_79 rfl (lv_at hl 0 rfl) ?_
  refine lv_iload_n hx hb dL_acts_80 rfl (lv_at hl 2 rfl) ?_
  refine fk_xcallV (As := [.int p0]) (rest := []) ⟨hx, hb, hml, hown, hts⟩ (hX _) (cwV 1 hts gL_acts_X2_tick rfl rfl rfl (by decide +kernel) ⟨Nat.le_of_ble_eq_true rfl, Nat.le_of_ble_eq_true rfl⟩) (fk_rvK hK hP) hK hP hD hS hA hZ rfl hl.1 rfl (Nat.le_of_ble_eq_true rfl) dL_acts_81 ⟨Nat.le_of_ble_eq_true rfl, Nat.le_of_ble_eq_true rfl⟩ (fk_caught (x := (0, 120, 126, 18)) [(0, 120, 121, 15)] [(0, 120, 131, 21)] hown htab rfl rfl (List.forall_mem_cons.mpr ⟨⟨by decide, _, hts _ (List.mem_of_getElem? (i := 1) rfl), hN.2.1⟩, (fun _ h9 => absurd h9 List.not_mem_nil)⟩) (by decide) (by decide) (hts _ (List.mem_of_getElem? (i := 2) rfl)) hZ fk_cast3 (fun q9 H locs hP hS => ?_))
  refine lv_astore (lv' := [(6, .ref q9), (0, .ref (ad 0)), (1, .int 5), (2, .int p0), (3, .int p1), (4, .int p2), (5, .int p3)]) hx hb dL_acts_126 hl (by decide) rfl (fun ls hl => ?_)
  refine lv_ldc (own := RL) (v := (-2147483202)) hx hb hown (hts (.constant RL 20 (-2147483202)) (List.mem_of_getElem? (i := 5) rfl)) dL_acts_128 ?_
  exact fk_iretL (Nat.le_of_ble_eq_true rfl) (Nat.le_of_ble_eq_true rfl) hx hb hr hlocks hP hK hD hS rfl rfl dL_acts_130

set_option maxHeartbeats 4000000 in
set_option maxRecDepth 100000 in
theorem Lx_compareAndSet_IO (l : Launch) (D : va_G) (ad : Nat → Nat) (cI cT cJ : ClassId) (X : va_W) (S : fk_S) (p0 p1 p2 p3 : Int32) (hX : ∀ X, fk_X l D (fk_ty cI cT cJ) yX2_compareAndSet wsX2_compareAndSet rx_pub [.ref (ad 0), .int p0, .int p1, .int p2, .int p3] (fk_kW ad cI cT S ++ X) "java/lang/IndexOutOfBoundsException") : fk_L l D (fk_ty cI cT cJ) yL_acts wsL_acts rm_L [.ref (ad 0), .int 6, .int p0, .int p1, .int p2, .int p3] (fk_kW ad cI cT S ++ X) (some (.int (-2147483201))) (fk_kW ad cI cT S ++ X) := by
  refine fk_L_of (cc := cL_acts) (maxL := 7) (ret := some .int) (own := RL) (hh := [(0, 120, 121, 15), (0, 120, 126, 18), (0, 120, 131, 21)]) (by decide) rfl rfl (Nat.le_of_ble_eq_true rfl) ?_
  intro p e s m below meth c A ls hx hb hr hlocks hml hts hown htab hA hP hK hD hZ hN hl
  have hS : va_S A s.heap s.heap [] := va_S.rf
  have hl : lv_has ls 7 [(0, .ref (ad 0)), (1, .int 6), (2, .int p0), (3, .int p1), (4, .int p2), (5, .int p3)] := hl
  refine lv_iload_n hx hb dL_acts_0 rfl (lv_at hl 1 rfl) ?_
  refine lv_if_ne (tgt := 15) hx hb dL_acts_1 (by decide) (fun _ => ?_) (fun c => absurd c (by decide))
  refine lv_iload_n hx hb dL_acts_15 rfl (lv_at hl 1 rfl) ?_
  refine lv_iconst (v := 1) hx hb dL_acts_16 (by decide) ?_
  refine lv_icmp_ne (tgt := 29) hx hb dL_acts_17 (by decide) (fun _ => ?_) (fun c => absurd c (by decide))
  refine lv_iload_n hx hb dL_acts_29 rfl (lv_at hl 1 rfl) ?_
  refine lv_iconst (v := 2) hx hb dL_acts_30 (by decide) ?_
  refine lv_icmp_ne (tgt := 47) hx hb dL_acts_31 (by decide) (fun _ => ?_) (fun c => absurd c (by decide))
  refine lv_iload_n hx hb dL_acts_47 rfl (lv_at hl 1 rfl) ?_
  refine lv_iconst (v := 3) hx hb dL_acts_48 (by decide) ?_
  refine lv_icmp_ne (tgt := 60) hx hb dL_acts_49 (by decide) (fun _ => ?_) (fun c => absurd c (by decide))
  refine lv_iload_n hx hb dL_acts_60 rfl (lv_at hl 1 rfl) ?_
  refine lv_iconst (v := 4) hx hb dL_acts_61 (by decide) ?_
  refine lv_icmp_ne (tgt := 74) hx hb dL_acts_62 (by decide) (fun _ => ?_) (fun c => absurd c (by decide))
  refine lv_iload_n hx hb dL_acts_74 rfl (lv_at hl 1 rfl) ?_
  refine lv_iconst (v := 5) hx hb dL_acts_75 (by decide) ?_
  refine lv_icmp_ne (tgt := 87) hx hb dL_acts_76 (by decide) (fun _ => ?_) (fun c => absurd c (by decide))
  refine lv_iload_n hx hb dL_acts_87 rfl (lv_at hl 1 rfl) ?_
  refine lv_bipush (v := 6) hx hb dL_acts_88 (by decide) ?_
  refine lv_icmp_ne (tgt := 114) hx hb dL_acts_90 (by decide) (fun c => absurd c (by decide)) (fun _ => ?_)
  refine lv_aload_n hx hb dL_acts_93 rfl (lv_at hl 0 rfl) ?_
  refine lv_iload_n hx hb dL_acts_94 rfl (lv_at hl 2 rfl) ?_
  refine lv_iload_n hx hb dL_acts_95 rfl (lv_at hl 3 rfl) ?_
  refine lv_iload hx hb dL_acts_96 (lv_at hl 4 rfl) ?_
  refine lv_iload hx hb dL_acts_98 (lv_at hl 5 rfl) ?_
  refine fk_xcallV (As := [.int p0, .int p1, .int p2, .int p3]) (rest := []) ⟨hx, hb, hml, hown, hts⟩ (hX _) (cwV 4 hts gL_acts_X2_compareAndSet rfl rfl rfl (by decide +kernel) ⟨Nat.le_of_ble_eq_true rfl, Nat.le_of_ble_eq_true rfl⟩) (fk_rvK hK hP) hK hP hD hS hA hZ rfl hl.1 rfl (Nat.le_of_ble_eq_true rfl) dL_acts_100 ⟨Nat.le_of_ble_eq_true rfl, Nat.le_of_ble_eq_true rfl⟩ (fk_caught (x := (0, 120, 121, 15)) [] [(0, 120, 126, 18), (0, 120, 131, 21)] hown htab rfl rfl (fun _ h9 => absurd h9 List.not_mem_nil) (by decide) (by decide) (hts _ (List.mem_of_getElem? (i := 1) rfl)) hZ fk_cast1 (fun q9 H locs hP hS => ?_))
  refine lv_astore (lv' := [(6, .ref q9), (0, .ref (ad 0)), (1, .int 6), (2, .int p0), (3, .int p1), (4, .int p2), (5, .int p3)]) hx hb dL_acts_121 hl (by decide) rfl (fun ls hl => ?_)
  refine lv_ldc (own := RL) (v := (-2147483201)) hx hb hown (hts (.constant RL 17 (-2147483201)) (List.mem_of_getElem? (i := 4) rfl)) dL_acts_123 ?_
  exact fk_iretL (Nat.le_of_ble_eq_true rfl) (Nat.le_of_ble_eq_true rfl) hx hb hr hlocks hP hK hD hS rfl rfl dL_acts_125

set_option maxHeartbeats 4000000 in
set_option maxRecDepth 100000 in
theorem Lx_compareAndSet_IS (l : Launch) (D : va_G) (ad : Nat → Nat) (cI cT cJ : ClassId) (X : va_W) (S : fk_S) (p0 p1 p2 p3 : Int32) (hX : ∀ X, fk_X l D (fk_ty cI cT cJ) yX2_compareAndSet wsX2_compareAndSet rx_pub [.ref (ad 0), .int p0, .int p1, .int p2, .int p3] (fk_kW ad cI cT S ++ X) "java/lang/IllegalStateException") : fk_L l D (fk_ty cI cT cJ) yL_acts wsL_acts rm_L [.ref (ad 0), .int 6, .int p0, .int p1, .int p2, .int p3] (fk_kW ad cI cT S ++ X) (some (.int (-2147483203))) (fk_kW ad cI cT S ++ X) := by
  refine fk_L_of (cc := cL_acts) (maxL := 7) (ret := some .int) (own := RL) (hh := [(0, 120, 121, 15), (0, 120, 126, 18), (0, 120, 131, 21)]) (by decide) rfl rfl (Nat.le_of_ble_eq_true rfl) ?_
  intro p e s m below meth c A ls hx hb hr hlocks hml hts hown htab hA hP hK hD hZ hN hl
  have hS : va_S A s.heap s.heap [] := va_S.rf
  have hl : lv_has ls 7 [(0, .ref (ad 0)), (1, .int 6), (2, .int p0), (3, .int p1), (4, .int p2), (5, .int p3)] := hl
  refine lv_iload_n hx hb dL_acts_0 rfl (lv_at hl 1 rfl) ?_
  refine lv_if_ne (tgt := 15) hx hb dL_acts_1 (by decide) (fun _ => ?_) (fun c => absurd c (by decide))
  refine lv_iload_n hx hb dL_acts_15 rfl (lv_at hl 1 rfl) ?_
  refine lv_iconst (v := 1) hx hb dL_acts_16 (by decide) ?_
  refine lv_icmp_ne (tgt := 29) hx hb dL_acts_17 (by decide) (fun _ => ?_) (fun c => absurd c (by decide))
  refine lv_iload_n hx hb dL_acts_29 rfl (lv_at hl 1 rfl) ?_
  refine lv_iconst (v := 2) hx hb dL_acts_30 (by decide) ?_
  refine lv_icmp_ne (tgt := 47) hx hb dL_acts_31 (by decide) (fun _ => ?_) (fun c => absurd c (by decide))
  refine lv_iload_n hx hb dL_acts_47 rfl (lv_at hl 1 rfl) ?_
  refine lv_iconst (v := 3) hx hb dL_acts_48 (by decide) ?_
  refine lv_icmp_ne (tgt := 60) hx hb dL_acts_49 (by decide) (fun _ => ?_) (fun c => absurd c (by decide))
  refine lv_iload_n hx hb dL_acts_60 rfl (lv_at hl 1 rfl) ?_
  refine lv_iconst (v := 4) hx hb dL_acts_61 (by decide) ?_
  refine lv_icmp_ne (tgt := 74) hx hb dL_acts_62 (by decide) (fun _ => ?_) (fun c => absurd c (by decide))
  refine lv_iload_n hx hb dL_acts_74 rfl (lv_at hl 1 rfl) ?_
  refine lv_iconst (v := 5) hx hb dL_acts_75 (by decide) ?_
  refine lv_icmp_ne (tgt := 87) hx hb dL_acts_76 (by decide) (fun _ => ?_) (fun c => absurd c (by decide))
  refine lv_iload_n hx hb dL_acts_87 rfl (lv_at hl 1 rfl) ?_
  refine lv_bipush (v := 6) hx hb dL_acts_88 (by decide) ?_
  refine lv_icmp_ne (tgt := 114) hx hb dL_acts_90 (by decide) (fun c => absurd c (by decide)) (fun _ => ?_)
  refine lv_aload_n hx hb dL_acts_93 rfl (lv_at hl 0 rfl) ?_
  refine lv_iload_n hx hb dL_acts_94 rfl (lv_at hl 2 rfl) ?_
  refine lv_iload_n hx hb dL_acts_95 rfl (lv_at hl 3 rfl) ?_
  refine lv_iload hx hb dL_acts_96 (lv_at hl 4 rfl) ?_
  refine lv_iload hx hb dL_acts_98 (lv_at hl 5 rfl) ?_
  refine fk_xcallV (As := [.int p0, .int p1, .int p2, .int p3]) (rest := []) ⟨hx, hb, hml, hown, hts⟩ (hX _) (cwV 4 hts gL_acts_X2_compareAndSet rfl rfl rfl (by decide +kernel) ⟨Nat.le_of_ble_eq_true rfl, Nat.le_of_ble_eq_true rfl⟩) (fk_rvK hK hP) hK hP hD hS hA hZ rfl hl.1 rfl (Nat.le_of_ble_eq_true rfl) dL_acts_100 ⟨Nat.le_of_ble_eq_true rfl, Nat.le_of_ble_eq_true rfl⟩ (fk_caught (x := (0, 120, 131, 21)) [(0, 120, 121, 15), (0, 120, 126, 18)] [] hown htab rfl rfl (List.forall_mem_cons.mpr ⟨⟨by decide, _, hts _ (List.mem_of_getElem? (i := 1) rfl), hN.1⟩, (List.forall_mem_cons.mpr ⟨⟨by decide, _, hts _ (List.mem_of_getElem? (i := 2) rfl), hN.2.2⟩, (fun _ h9 => absurd h9 List.not_mem_nil)⟩)⟩) (by decide) (by decide) (hts _ (List.mem_of_getElem? (i := 3) rfl)) hZ fk_cast2 (fun q9 H locs hP hS => ?_))
  refine lv_astore (lv' := [(6, .ref q9), (0, .ref (ad 0)), (1, .int 6), (2, .int p0), (3, .int p1), (4, .int p2), (5, .int p3)]) hx hb dL_acts_131 hl (by decide) rfl (fun ls hl => ?_)
  refine lv_ldc (own := RL) (v := (-2147483203)) hx hb hown (hts (.constant RL 23 (-2147483203)) (List.mem_of_getElem? (i := 6) rfl)) dL_acts_133 ?_
  exact fk_iretL (Nat.le_of_ble_eq_true rfl) (Nat.le_of_ble_eq_true rfl) hx hb hr hlocks hP hK hD hS rfl rfl dL_acts_135

set_option maxHeartbeats 4000000 in
set_option maxRecDepth 100000 in
theorem Lc_start (l : Launch) (D : va_G) (ad : Nat → Nat) (cI cT cJ : ClassId) (X : va_W) (S : fk_S) (p0 p1 p2 p3 : Int32) (S1 : fk_S) (hC : ∀ X, fk_C l D (fk_ty cI cT cJ) yL_starts wsL_starts rmL_starts [.ref (ad 0), .int 7, .int p0] (fk_kW ad cI cT S ++ X) (some (.int 0)) (fk_kW ad cI cT S1 ++ X)) : fk_L l D (fk_ty cI cT cJ) yL_acts wsL_acts rm_L [.ref (ad 0), .int 7, .int p0, .int p1, .int p2, .int p3] (fk_kW ad cI cT S ++ X) (some (.int 0)) (fk_kW ad cI cT S1 ++ X) := by
  refine fk_L_of (cc := cL_acts) (maxL := 7) (ret := some .int) (own := RL) (hh := [(0, 120, 121, 15), (0, 120, 126, 18), (0, 120, 131, 21)]) (by decide) rfl rfl (Nat.le_of_ble_eq_true rfl) ?_
  intro p e s m below meth c A ls hx hb hr hlocks hml hts hown htab hA hP hK hD hZ hN hl
  have hS : va_S A s.heap s.heap [] := va_S.rf
  have hl : lv_has ls 7 [(0, .ref (ad 0)), (1, .int 7), (2, .int p0), (3, .int p1), (4, .int p2), (5, .int p3)] := hl
  refine lv_iload_n hx hb dL_acts_0 rfl (lv_at hl 1 rfl) ?_
  refine lv_if_ne (tgt := 15) hx hb dL_acts_1 (by decide) (fun _ => ?_) (fun c => absurd c (by decide))
  refine lv_iload_n hx hb dL_acts_15 rfl (lv_at hl 1 rfl) ?_
  refine lv_iconst (v := 1) hx hb dL_acts_16 (by decide) ?_
  refine lv_icmp_ne (tgt := 29) hx hb dL_acts_17 (by decide) (fun _ => ?_) (fun c => absurd c (by decide))
  refine lv_iload_n hx hb dL_acts_29 rfl (lv_at hl 1 rfl) ?_
  refine lv_iconst (v := 2) hx hb dL_acts_30 (by decide) ?_
  refine lv_icmp_ne (tgt := 47) hx hb dL_acts_31 (by decide) (fun _ => ?_) (fun c => absurd c (by decide))
  refine lv_iload_n hx hb dL_acts_47 rfl (lv_at hl 1 rfl) ?_
  refine lv_iconst (v := 3) hx hb dL_acts_48 (by decide) ?_
  refine lv_icmp_ne (tgt := 60) hx hb dL_acts_49 (by decide) (fun _ => ?_) (fun c => absurd c (by decide))
  refine lv_iload_n hx hb dL_acts_60 rfl (lv_at hl 1 rfl) ?_
  refine lv_iconst (v := 4) hx hb dL_acts_61 (by decide) ?_
  refine lv_icmp_ne (tgt := 74) hx hb dL_acts_62 (by decide) (fun _ => ?_) (fun c => absurd c (by decide))
  refine lv_iload_n hx hb dL_acts_74 rfl (lv_at hl 1 rfl) ?_
  refine lv_iconst (v := 5) hx hb dL_acts_75 (by decide) ?_
  refine lv_icmp_ne (tgt := 87) hx hb dL_acts_76 (by decide) (fun _ => ?_) (fun c => absurd c (by decide))
  refine lv_iload_n hx hb dL_acts_87 rfl (lv_at hl 1 rfl) ?_
  refine lv_bipush (v := 6) hx hb dL_acts_88 (by decide) ?_
  refine lv_icmp_ne (tgt := 114) hx hb dL_acts_90 (by decide) (fun _ => ?_) (fun c => absurd c (by decide))
  refine lv_aload_n hx hb dL_acts_114 rfl (lv_at hl 0 rfl) ?_
  refine lv_iload_n hx hb dL_acts_115 rfl (lv_at hl 1 rfl) ?_
  refine lv_iload_n hx hb dL_acts_116 rfl (lv_at hl 2 rfl) ?_
  refine fk_callS (As := [.ref (ad 0), .int 7, .int p0]) (rest := []) ⟨hx, hb, hml, hown, hts⟩ (hC _) (va_cwS 3 hts gL_acts_L_starts rfl rfl rfl (by decide +kernel) ⟨Nat.le_of_ble_eq_true rfl, Nat.le_of_ble_eq_true rfl⟩) hK hP hD hS hA rfl hl.1 rfl (Nat.le_of_ble_eq_true rfl) dL_acts_117 ⟨Nat.le_of_ble_eq_true rfl, Nat.le_of_ble_eq_true rfl⟩ (fun H locs hP hD hS => ?_)
  refine W.eq (g2 := F0 m 120 ls [.int 0]) rfl ?_
  exact fk_iretL (Nat.le_of_ble_eq_true rfl) (Nat.le_of_ble_eq_true rfl) hx hb hr hlocks hP hK hD hS rfl rfl dL_acts_120

set_option maxHeartbeats 4000000 in
set_option maxRecDepth 100000 in
theorem Lx_start_IO (l : Launch) (D : va_G) (ad : Nat → Nat) (cI cT cJ : ClassId) (X : va_W) (S : fk_S) (p0 p1 p2 p3 : Int32) (hX : ∀ X, fk_X l D (fk_ty cI cT cJ) yL_starts wsL_starts rx_sta [.ref (ad 0), .int 7, .int p0] (fk_kW ad cI cT S ++ X) "java/lang/IndexOutOfBoundsException") : fk_L l D (fk_ty cI cT cJ) yL_acts wsL_acts rm_L [.ref (ad 0), .int 7, .int p0, .int p1, .int p2, .int p3] (fk_kW ad cI cT S ++ X) (some (.int (-2147483201))) (fk_kW ad cI cT S ++ X) := by
  refine fk_L_of (cc := cL_acts) (maxL := 7) (ret := some .int) (own := RL) (hh := [(0, 120, 121, 15), (0, 120, 126, 18), (0, 120, 131, 21)]) (by decide) rfl rfl (Nat.le_of_ble_eq_true rfl) ?_
  intro p e s m below meth c A ls hx hb hr hlocks hml hts hown htab hA hP hK hD hZ hN hl
  have hS : va_S A s.heap s.heap [] := va_S.rf
  have hl : lv_has ls 7 [(0, .ref (ad 0)), (1, .int 7), (2, .int p0), (3, .int p1), (4, .int p2), (5, .int p3)] := hl
  refine lv_iload_n hx hb dL_acts_0 rfl (lv_at hl 1 rfl) ?_
  refine lv_if_ne (tgt := 15) hx hb dL_acts_1 (by decide) (fun _ => ?_) (fun c => absurd c (by decide))
  refine lv_iload_n hx hb dL_acts_15 rfl (lv_at hl 1 rfl) ?_
  refine lv_iconst (v := 1) hx hb dL_acts_16 (by decide) ?_
  refine lv_icmp_ne (tgt := 29) hx hb dL_acts_17 (by decide) (fun _ => ?_) (fun c => absurd c (by decide))
  refine lv_iload_n hx hb dL_acts_29 rfl (lv_at hl 1 rfl) ?_
  refine lv_iconst (v := 2) hx hb dL_acts_30 (by decide) ?_
  refine lv_icmp_ne (tgt := 47) hx hb dL_acts_31 (by decide) (fun _ => ?_) (fun c => absurd c (by decide))
  refine lv_iload_n hx hb dL_acts_47 rfl (lv_at hl 1 rfl) ?_
  refine lv_iconst (v := 3) hx hb dL_acts_48 (by decide) ?_
  refine lv_icmp_ne (tgt := 60) hx hb dL_acts_49 (by decide) (fun _ => ?_) (fun c => absurd c (by decide))
  refine lv_iload_n hx hb dL_acts_60 rfl (lv_at hl 1 rfl) ?_
  refine lv_iconst (v := 4) hx hb dL_acts_61 (by decide) ?_
  refine lv_icmp_ne (tgt := 74) hx hb dL_acts_62 (by decide) (fun _ => ?_) (fun c => absurd c (by decide))
  refine lv_iload_n hx hb dL_acts_74 rfl (lv_at hl 1 rfl) ?_
  refine lv_iconst (v := 5) hx hb dL_acts_75 (by decide) ?_
  refine lv_icmp_ne (tgt := 87) hx hb dL_acts_76 (by decide) (fun _ => ?_) (fun c => absurd c (by decide))
  refine lv_iload_n hx hb dL_acts_87 rfl (lv_at hl 1 rfl) ?_
  refine lv_bipush (v := 6) hx hb dL_acts_88 (by decide) ?_
  refine lv_icmp_ne (tgt := 114) hx hb dL_acts_90 (by decide) (fun _ => ?_) (fun c => absurd c (by decide))
  refine lv_aload_n hx hb dL_acts_114 rfl (lv_at hl 0 rfl) ?_
  refine lv_iload_n hx hb dL_acts_115 rfl (lv_at hl 1 rfl) ?_
  refine lv_iload_n hx hb dL_acts_116 rfl (lv_at hl 2 rfl) ?_
  refine fk_xcallS (As := [.ref (ad 0), .int 7, .int p0]) (rest := []) ⟨hx, hb, hml, hown, hts⟩ (hX _) (va_cwS 3 hts gL_acts_L_starts rfl rfl rfl (by decide +kernel) ⟨Nat.le_of_ble_eq_true rfl, Nat.le_of_ble_eq_true rfl⟩) hK hP hD hS hA hZ rfl hl.1 rfl (Nat.le_of_ble_eq_true rfl) dL_acts_117 ⟨Nat.le_of_ble_eq_true rfl, Nat.le_of_ble_eq_true rfl⟩ (fk_caught (x := (0, 120, 121, 15)) [] [(0, 120, 126, 18), (0, 120, 131, 21)] hown htab rfl rfl (fun _ h9 => absurd h9 List.not_mem_nil) (by decide) (by decide) (hts _ (List.mem_of_getElem? (i := 1) rfl)) hZ fk_cast1 (fun q9 H locs hP hS => ?_))
  refine lv_astore (lv' := [(6, .ref q9), (0, .ref (ad 0)), (1, .int 7), (2, .int p0), (3, .int p1), (4, .int p2), (5, .int p3)]) hx hb dL_acts_121 hl (by decide) rfl (fun ls hl => ?_)
  refine lv_ldc (own := RL) (v := (-2147483201)) hx hb hown (hts (.constant RL 17 (-2147483201)) (List.mem_of_getElem? (i := 4) rfl)) dL_acts_123 ?_
  exact fk_iretL (Nat.le_of_ble_eq_true rfl) (Nat.le_of_ble_eq_true rfl) hx hb hr hlocks hP hK hD hS rfl rfl dL_acts_125

set_option maxHeartbeats 4000000 in
set_option maxRecDepth 100000 in
theorem Lx_start_IS (l : Launch) (D : va_G) (ad : Nat → Nat) (cI cT cJ : ClassId) (X : va_W) (S : fk_S) (p0 p1 p2 p3 : Int32) (hX : ∀ X, fk_X l D (fk_ty cI cT cJ) yL_starts wsL_starts rx_sta [.ref (ad 0), .int 7, .int p0] (fk_kW ad cI cT S ++ X) "java/lang/IllegalStateException") : fk_L l D (fk_ty cI cT cJ) yL_acts wsL_acts rm_L [.ref (ad 0), .int 7, .int p0, .int p1, .int p2, .int p3] (fk_kW ad cI cT S ++ X) (some (.int (-2147483203))) (fk_kW ad cI cT S ++ X) := by
  refine fk_L_of (cc := cL_acts) (maxL := 7) (ret := some .int) (own := RL) (hh := [(0, 120, 121, 15), (0, 120, 126, 18), (0, 120, 131, 21)]) (by decide) rfl rfl (Nat.le_of_ble_eq_true rfl) ?_
  intro p e s m below meth c A ls hx hb hr hlocks hml hts hown htab hA hP hK hD hZ hN hl
  have hS : va_S A s.heap s.heap [] := va_S.rf
  have hl : lv_has ls 7 [(0, .ref (ad 0)), (1, .int 7), (2, .int p0), (3, .int p1), (4, .int p2), (5, .int p3)] := hl
  refine lv_iload_n hx hb dL_acts_0 rfl (lv_at hl 1 rfl) ?_
  refine lv_if_ne (tgt := 15) hx hb dL_acts_1 (by decide) (fun _ => ?_) (fun c => absurd c (by decide))
  refine lv_iload_n hx hb dL_acts_15 rfl (lv_at hl 1 rfl) ?_
  refine lv_iconst (v := 1) hx hb dL_acts_16 (by decide) ?_
  refine lv_icmp_ne (tgt := 29) hx hb dL_acts_17 (by decide) (fun _ => ?_) (fun c => absurd c (by decide))
  refine lv_iload_n hx hb dL_acts_29 rfl (lv_at hl 1 rfl) ?_
  refine lv_iconst (v := 2) hx hb dL_acts_30 (by decide) ?_
  refine lv_icmp_ne (tgt := 47) hx hb dL_acts_31 (by decide) (fun _ => ?_) (fun c => absurd c (by decide))
  refine lv_iload_n hx hb dL_acts_47 rfl (lv_at hl 1 rfl) ?_
  refine lv_iconst (v := 3) hx hb dL_acts_48 (by decide) ?_
  refine lv_icmp_ne (tgt := 60) hx hb dL_acts_49 (by decide) (fun _ => ?_) (fun c => absurd c (by decide))
  refine lv_iload_n hx hb dL_acts_60 rfl (lv_at hl 1 rfl) ?_
  refine lv_iconst (v := 4) hx hb dL_acts_61 (by decide) ?_
  refine lv_icmp_ne (tgt := 74) hx hb dL_acts_62 (by decide) (fun _ => ?_) (fun c => absurd c (by decide))
  refine lv_iload_n hx hb dL_acts_74 rfl (lv_at hl 1 rfl) ?_
  refine lv_iconst (v := 5) hx hb dL_acts_75 (by decide) ?_
  refine lv_icmp_ne (tgt := 87) hx hb dL_acts_76 (by decide) (fun _ => ?_) (fun c => absurd c (by decide))
  refine lv_iload_n hx hb dL_acts_87 rfl (lv_at hl 1 rfl) ?_
  refine lv_bipush (v := 6) hx hb dL_acts_88 (by decide) ?_
  refine lv_icmp_ne (tgt := 114) hx hb dL_acts_90 (by decide) (fun _ => ?_) (fun c => absurd c (by decide))
  refine lv_aload_n hx hb dL_acts_114 rfl (lv_at hl 0 rfl) ?_
  refine lv_iload_n hx hb dL_acts_115 rfl (lv_at hl 1 rfl) ?_
  refine lv_iload_n hx hb dL_acts_116 rfl (lv_at hl 2 rfl) ?_
  refine fk_xcallS (As := [.ref (ad 0), .int 7, .int p0]) (rest := []) ⟨hx, hb, hml, hown, hts⟩ (hX _) (va_cwS 3 hts gL_acts_L_starts rfl rfl rfl (by decide +kernel) ⟨Nat.le_of_ble_eq_true rfl, Nat.le_of_ble_eq_true rfl⟩) hK hP hD hS hA hZ rfl hl.1 rfl (Nat.le_of_ble_eq_true rfl) dL_acts_117 ⟨Nat.le_of_ble_eq_true rfl, Nat.le_of_ble_eq_true rfl⟩ (fk_caught (x := (0, 120, 131, 21)) [(0, 120, 121, 15), (0, 120, 126, 18)] [] hown htab rfl rfl (List.forall_mem_cons.mpr ⟨⟨by decide, _, hts _ (List.mem_of_getElem? (i := 1) rfl), hN.1⟩, (List.forall_mem_cons.mpr ⟨⟨by decide, _, hts _ (List.mem_of_getElem? (i := 2) rfl), hN.2.2⟩, (fun _ h9 => absurd h9 List.not_mem_nil)⟩)⟩) (by decide) (by decide) (hts _ (List.mem_of_getElem? (i := 3) rfl)) hZ fk_cast2 (fun q9 H locs hP hS => ?_))
  refine lv_astore (lv' := [(6, .ref q9), (0, .ref (ad 0)), (1, .int 7), (2, .int p0), (3, .int p1), (4, .int p2), (5, .int p3)]) hx hb dL_acts_131 hl (by decide) rfl (fun ls hl => ?_)
  refine lv_ldc (own := RL) (v := (-2147483203)) hx hb hown (hts (.constant RL 23 (-2147483203)) (List.mem_of_getElem? (i := 6) rfl)) dL_acts_133 ?_
  exact fk_iretL (Nat.le_of_ble_eq_true rfl) (Nat.le_of_ble_eq_true rfl) hx hb hr hlocks hP hK hD hS rfl rfl dL_acts_135

set_option maxHeartbeats 4000000 in
set_option maxRecDepth 100000 in
theorem Lc_interrupt (l : Launch) (D : va_G) (ad : Nat → Nat) (cI cT cJ : ClassId) (X : va_W) (S : fk_S) (p0 p1 p2 p3 : Int32) (S1 : fk_S) (hC : ∀ X, fk_C l D (fk_ty cI cT cJ) yL_starts wsL_starts rmL_starts [.ref (ad 0), .int 8, .int p0] (fk_kW ad cI cT S ++ X) (some (.int 0)) (fk_kW ad cI cT S1 ++ X)) : fk_L l D (fk_ty cI cT cJ) yL_acts wsL_acts rm_L [.ref (ad 0), .int 8, .int p0, .int p1, .int p2, .int p3] (fk_kW ad cI cT S ++ X) (some (.int 0)) (fk_kW ad cI cT S1 ++ X) := by
  refine fk_L_of (cc := cL_acts) (maxL := 7) (ret := some .int) (own := RL) (hh := [(0, 120, 121, 15), (0, 120, 126, 18), (0, 120, 131, 21)]) (by decide) rfl rfl (Nat.le_of_ble_eq_true rfl) ?_
  intro p e s m below meth c A ls hx hb hr hlocks hml hts hown htab hA hP hK hD hZ hN hl
  have hS : va_S A s.heap s.heap [] := va_S.rf
  have hl : lv_has ls 7 [(0, .ref (ad 0)), (1, .int 8), (2, .int p0), (3, .int p1), (4, .int p2), (5, .int p3)] := hl
  refine lv_iload_n hx hb dL_acts_0 rfl (lv_at hl 1 rfl) ?_
  refine lv_if_ne (tgt := 15) hx hb dL_acts_1 (by decide) (fun _ => ?_) (fun c => absurd c (by decide))
  refine lv_iload_n hx hb dL_acts_15 rfl (lv_at hl 1 rfl) ?_
  refine lv_iconst (v := 1) hx hb dL_acts_16 (by decide) ?_
  refine lv_icmp_ne (tgt := 29) hx hb dL_acts_17 (by decide) (fun _ => ?_) (fun c => absurd c (by decide))
  refine lv_iload_n hx hb dL_acts_29 rfl (lv_at hl 1 rfl) ?_
  refine lv_iconst (v := 2) hx hb dL_acts_30 (by decide) ?_
  refine lv_icmp_ne (tgt := 47) hx hb dL_acts_31 (by decide) (fun _ => ?_) (fun c => absurd c (by decide))
  refine lv_iload_n hx hb dL_acts_47 rfl (lv_at hl 1 rfl) ?_
  refine lv_iconst (v := 3) hx hb dL_acts_48 (by decide) ?_
  refine lv_icmp_ne (tgt := 60) hx hb dL_acts_49 (by decide) (fun _ => ?_) (fun c => absurd c (by decide))
  refine lv_iload_n hx hb dL_acts_60 rfl (lv_at hl 1 rfl) ?_
  refine lv_iconst (v := 4) hx hb dL_acts_61 (by decide) ?_
  refine lv_icmp_ne (tgt := 74) hx hb dL_acts_62 (by decide) (fun _ => ?_) (fun c => absurd c (by decide))
  refine lv_iload_n hx hb dL_acts_74 rfl (lv_at hl 1 rfl) ?_
  refine lv_iconst (v := 5) hx hb dL_acts_75 (by decide) ?_
  refine lv_icmp_ne (tgt := 87) hx hb dL_acts_76 (by decide) (fun _ => ?_) (fun c => absurd c (by decide))
  refine lv_iload_n hx hb dL_acts_87 rfl (lv_at hl 1 rfl) ?_
  refine lv_bipush (v := 6) hx hb dL_acts_88 (by decide) ?_
  refine lv_icmp_ne (tgt := 114) hx hb dL_acts_90 (by decide) (fun _ => ?_) (fun c => absurd c (by decide))
  refine lv_aload_n hx hb dL_acts_114 rfl (lv_at hl 0 rfl) ?_
  refine lv_iload_n hx hb dL_acts_115 rfl (lv_at hl 1 rfl) ?_
  refine lv_iload_n hx hb dL_acts_116 rfl (lv_at hl 2 rfl) ?_
  refine fk_callS (As := [.ref (ad 0), .int 8, .int p0]) (rest := []) ⟨hx, hb, hml, hown, hts⟩ (hC _) (va_cwS 3 hts gL_acts_L_starts rfl rfl rfl (by decide +kernel) ⟨Nat.le_of_ble_eq_true rfl, Nat.le_of_ble_eq_true rfl⟩) hK hP hD hS hA rfl hl.1 rfl (Nat.le_of_ble_eq_true rfl) dL_acts_117 ⟨Nat.le_of_ble_eq_true rfl, Nat.le_of_ble_eq_true rfl⟩ (fun H locs hP hD hS => ?_)
  refine W.eq (g2 := F0 m 120 ls [.int 0]) rfl ?_
  exact fk_iretL (Nat.le_of_ble_eq_true rfl) (Nat.le_of_ble_eq_true rfl) hx hb hr hlocks hP hK hD hS rfl rfl dL_acts_120

set_option maxHeartbeats 4000000 in
set_option maxRecDepth 100000 in
theorem Lx_interrupt_IO (l : Launch) (D : va_G) (ad : Nat → Nat) (cI cT cJ : ClassId) (X : va_W) (S : fk_S) (p0 p1 p2 p3 : Int32) (hX : ∀ X, fk_X l D (fk_ty cI cT cJ) yL_starts wsL_starts rx_sta [.ref (ad 0), .int 8, .int p0] (fk_kW ad cI cT S ++ X) "java/lang/IndexOutOfBoundsException") : fk_L l D (fk_ty cI cT cJ) yL_acts wsL_acts rm_L [.ref (ad 0), .int 8, .int p0, .int p1, .int p2, .int p3] (fk_kW ad cI cT S ++ X) (some (.int (-2147483201))) (fk_kW ad cI cT S ++ X) := by
  refine fk_L_of (cc := cL_acts) (maxL := 7) (ret := some .int) (own := RL) (hh := [(0, 120, 121, 15), (0, 120, 126, 18), (0, 120, 131, 21)]) (by decide) rfl rfl (Nat.le_of_ble_eq_true rfl) ?_
  intro p e s m below meth c A ls hx hb hr hlocks hml hts hown htab hA hP hK hD hZ hN hl
  have hS : va_S A s.heap s.heap [] := va_S.rf
  have hl : lv_has ls 7 [(0, .ref (ad 0)), (1, .int 8), (2, .int p0), (3, .int p1), (4, .int p2), (5, .int p3)] := hl
  refine lv_iload_n hx hb dL_acts_0 rfl (lv_at hl 1 rfl) ?_
  refine lv_if_ne (tgt := 15) hx hb dL_acts_1 (by decide) (fun _ => ?_) (fun c => absurd c (by decide))
  refine lv_iload_n hx hb dL_acts_15 rfl (lv_at hl 1 rfl) ?_
  refine lv_iconst (v := 1) hx hb dL_acts_16 (by decide) ?_
  refine lv_icmp_ne (tgt := 29) hx hb dL_acts_17 (by decide) (fun _ => ?_) (fun c => absurd c (by decide))
  refine lv_iload_n hx hb dL_acts_29 rfl (lv_at hl 1 rfl) ?_
  refine lv_iconst (v := 2) hx hb dL_acts_30 (by decide) ?_
  refine lv_icmp_ne (tgt := 47) hx hb dL_acts_31 (by decide) (fun _ => ?_) (fun c => absurd c (by decide))
  refine lv_iload_n hx hb dL_acts_47 rfl (lv_at hl 1 rfl) ?_
  refine lv_iconst (v := 3) hx hb dL_acts_48 (by decide) ?_
  refine lv_icmp_ne (tgt := 60) hx hb dL_acts_49 (by decide) (fun _ => ?_) (fun c => absurd c (by decide))
  refine lv_iload_n hx hb dL_acts_60 rfl (lv_at hl 1 rfl) ?_
  refine lv_iconst (v := 4) hx hb dL_acts_61 (by decide) ?_
  refine lv_icmp_ne (tgt := 74) hx hb dL_acts_62 (by decide) (fun _ => ?_) (fun c => absurd c (by decide))
  refine lv_iload_n hx hb dL_acts_74 rfl (lv_at hl 1 rfl) ?_
  refine lv_iconst (v := 5) hx hb dL_acts_75 (by decide) ?_
  refine lv_icmp_ne (tgt := 87) hx hb dL_acts_76 (by decide) (fun _ => ?_) (fun c => absurd c (by decide))
  refine lv_iload_n hx hb dL_acts_87 rfl (lv_at hl 1 rfl) ?_
  refine lv_bipush (v := 6) hx hb dL_acts_88 (by decide) ?_
  refine lv_icmp_ne (tgt := 114) hx hb dL_acts_90 (by decide) (fun _ => ?_) (fun c => absurd c (by decide))
  refine lv_aload_n hx hb dL_acts_114 rfl (lv_at hl 0 rfl) ?_
  refine lv_iload_n hx hb dL_acts_115 rfl (lv_at hl 1 rfl) ?_
  refine lv_iload_n hx hb dL_acts_116 rfl (lv_at hl 2 rfl) ?_
  refine fk_xcallS (As := [.ref (ad 0), .int 8, .int p0]) (rest := []) ⟨hx, hb, hml, hown, hts⟩ (hX _) (va_cwS 3 hts gL_acts_L_starts rfl rfl rfl (by decide +kernel) ⟨Nat.le_of_ble_eq_true rfl, Nat.le_of_ble_eq_true rfl⟩) hK hP hD hS hA hZ rfl hl.1 rfl (Nat.le_of_ble_eq_true rfl) dL_acts_117 ⟨Nat.le_of_ble_eq_true rfl, Nat.le_of_ble_eq_true rfl⟩ (fk_caught (x := (0, 120, 121, 15)) [] [(0, 120, 126, 18), (0, 120, 131, 21)] hown htab rfl rfl (fun _ h9 => absurd h9 List.not_mem_nil) (by decide) (by decide) (hts _ (List.mem_of_getElem? (i := 1) rfl)) hZ fk_cast1 (fun q9 H locs hP hS => ?_))
  refine lv_astore (lv' := [(6, .ref q9), (0, .ref (ad 0)), (1, .int 8), (2, .int p0), (3, .int p1), (4, .int p2), (5, .int p3)]) hx hb dL_acts_121 hl (by decide) rfl (fun ls hl => ?_)
  refine lv_ldc (own := RL) (v := (-2147483201)) hx hb hown (hts (.constant RL 17 (-2147483201)) (List.mem_of_getElem? (i := 4) rfl)) dL_acts_123 ?_
  exact fk_iretL (Nat.le_of_ble_eq_true rfl) (Nat.le_of_ble_eq_true rfl) hx hb hr hlocks hP hK hD hS rfl rfl dL_acts_125

set_option maxHeartbeats 4000000 in
set_option maxRecDepth 100000 in
theorem Lx_interrupt_IS (l : Launch) (D : va_G) (ad : Nat → Nat) (cI cT cJ : ClassId) (X : va_W) (S : fk_S) (p0 p1 p2 p3 : Int32) (hX : ∀ X, fk_X l D (fk_ty cI cT cJ) yL_starts wsL_starts rx_sta [.ref (ad 0), .int 8, .int p0] (fk_kW ad cI cT S ++ X) "java/lang/IllegalStateException") : fk_L l D (fk_ty cI cT cJ) yL_acts wsL_acts rm_L [.ref (ad 0), .int 8, .int p0, .int p1, .int p2, .int p3] (fk_kW ad cI cT S ++ X) (some (.int (-2147483203))) (fk_kW ad cI cT S ++ X) := by
  refine fk_L_of (cc := cL_acts) (maxL := 7) (ret := some .int) (own := RL) (hh := [(0, 120, 121, 15), (0, 120, 126, 18), (0, 120, 131, 21)]) (by decide) rfl rfl (Nat.le_of_ble_eq_true rfl) ?_
  intro p e s m below meth c A ls hx hb hr hlocks hml hts hown htab hA hP hK hD hZ hN hl
  have hS : va_S A s.heap s.heap [] := va_S.rf
  have hl : lv_has ls 7 [(0, .ref (ad 0)), (1, .int 8), (2, .int p0), (3, .int p1), (4, .int p2), (5, .int p3)] := hl
  refine lv_iload_n hx hb dL_acts_0 rfl (lv_at hl 1 rfl) ?_
  refine lv_if_ne (tgt := 15) hx hb dL_acts_1 (by decide) (fun _ => ?_) (fun c => absurd c (by decide))
  refine lv_iload_n hx hb dL_acts_15 rfl (lv_at hl 1 rfl) ?_
  refine lv_iconst (v := 1) hx hb dL_acts_16 (by decide) ?_
  refine lv_icmp_ne (tgt := 29) hx hb dL_acts_17 (by decide) (fun _ => ?_) (fun c => absurd c (by decide))
  refine lv_iload_n hx hb dL_acts_29 rfl (lv_at hl 1 rfl) ?_
  refine lv_iconst (v := 2) hx hb dL_acts_30 (by decide) ?_
  refine lv_icmp_ne (tgt := 47) hx hb dL_acts_31 (by decide) (fun _ => ?_) (fun c => absurd c (by decide))
  refine lv_iload_n hx hb dL_acts_47 rfl (lv_at hl 1 rfl) ?_
  refine lv_iconst (v := 3) hx hb dL_acts_48 (by decide) ?_
  refine lv_icmp_ne (tgt := 60) hx hb dL_acts_49 (by decide) (fun _ => ?_) (fun c => absurd c (by decide))
  refine lv_iload_n hx hb dL_acts_60 rfl (lv_at hl 1 rfl) ?_
  refine lv_iconst (v := 4) hx hb dL_acts_61 (by decide) ?_
  refine lv_icmp_ne (tgt := 74) hx hb dL_acts_62 (by decide) (fun _ => ?_) (fun c => absurd c (by decide))
  refine lv_iload_n hx hb dL_acts_74 rfl (lv_at hl 1 rfl) ?_
  refine lv_iconst (v := 5) hx hb dL_acts_75 (by decide) ?_
  refine lv_icmp_ne (tgt := 87) hx hb dL_acts_76 (by decide) (fun _ => ?_) (fun c => absurd c (by decide))
  refine lv_iload_n hx hb dL_acts_87 rfl (lv_at hl 1 rfl) ?_
  refine lv_bipush (v := 6) hx hb dL_acts_88 (by decide) ?_
  refine lv_icmp_ne (tgt := 114) hx hb dL_acts_90 (by decide) (fun _ => ?_) (fun c => absurd c (by decide))
  refine lv_aload_n hx hb dL_acts_114 rfl (lv_at hl 0 rfl) ?_
  refine lv_iload_n hx hb dL_acts_115 rfl (lv_at hl 1 rfl) ?_
  refine lv_iload_n hx hb dL_acts_116 rfl (lv_at hl 2 rfl) ?_
  refine fk_xcallS (As := [.ref (ad 0), .int 8, .int p0]) (rest := []) ⟨hx, hb, hml, hown, hts⟩ (hX _) (va_cwS 3 hts gL_acts_L_starts rfl rfl rfl (by decide +kernel) ⟨Nat.le_of_ble_eq_true rfl, Nat.le_of_ble_eq_true rfl⟩) hK hP hD hS hA hZ rfl hl.1 rfl (Nat.le_of_ble_eq_true rfl) dL_acts_117 ⟨Nat.le_of_ble_eq_true rfl, Nat.le_of_ble_eq_true rfl⟩ (fk_caught (x := (0, 120, 131, 21)) [(0, 120, 121, 15), (0, 120, 126, 18)] [] hown htab rfl rfl (List.forall_mem_cons.mpr ⟨⟨by decide, _, hts _ (List.mem_of_getElem? (i := 1) rfl), hN.1⟩, (List.forall_mem_cons.mpr ⟨⟨by decide, _, hts _ (List.mem_of_getElem? (i := 2) rfl), hN.2.2⟩, (fun _ h9 => absurd h9 List.not_mem_nil)⟩)⟩) (by decide) (by decide) (hts _ (List.mem_of_getElem? (i := 3) rfl)) hZ fk_cast2 (fun q9 H locs hP hS => ?_))
  refine lv_astore (lv' := [(6, .ref q9), (0, .ref (ad 0)), (1, .int 8), (2, .int p0), (3, .int p1), (4, .int p2), (5, .int p3)]) hx hb dL_acts_131 hl (by decide) rfl (fun ls hl => ?_)
  refine lv_ldc (own := RL) (v := (-2147483203)) hx hb hown (hts (.constant RL 23 (-2147483203)) (List.mem_of_getElem? (i := 6) rfl)) dL_acts_133 ?_
  exact fk_iretL (Nat.le_of_ble_eq_true rfl) (Nat.le_of_ble_eq_true rfl) hx hb hr hlocks hP hK hD hS rfl rfl dL_acts_135
