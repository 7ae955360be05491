set_option maxHeartbeats 4000000 in
set_option maxRecDepth 100000 in
theorem Lc_tick (l : Launch) (D : va_G) (ad : Nat → Nat) (cI cT cJ : ClassId) (X : va_W) (S : fk_S) (o : Nat) (f : Nat → Int64) (p0 : Int32) (S1 : fk_S) (v : Int32) (hC : ∀ X, fk_C l D (fk_ty cI cT cJ) yX2_tick wsX2_tick rmX2_tick [.ref (ad 0), .int p0] (fk_kW ad cI cT S ++ X) (some (.int v)) (fk_kW ad cI cT S1 ++ X)) : fk_L l D (fk_ty cI cT cJ) yL_tick wsL_tick rm_L [.ref (ad 0), .int p0, .ref o] (fk_kW ad cI cT S ++ (o, fk_ou cJ f) :: X) (some (.int 0)) (fk_kW ad cI cT S1 ++ (o, fk_ou cJ (vp_updL f 0 v.toInt64)) :: X) := by
  refine fk_L_of (cc := cL_tick) (maxL := 4) (ret := some .int) (own := RL) (hh := [(0, 9, 12, 32)]) (by decide) rfl rfl (Nat.le_of_ble_eq_true rfl) ?_
  intro p e s m below meth c A ls hx hb hr hlocks hml hts hown htab hA hP hK hD hZ hN hl
  have hS : va_S A s.heap s.heap [] := va_S.rf
  have hl : lv_has ls 4 [(0, .ref (ad 0)), (1, .int p0), (2, .ref o)] := hl
  refine lv_aload_n hx hb dL_tick_0 rfl (lv_at hl 2 rfl) ?_
  refine lv_iconst (v := 0) hx hb dL_tick_1 (by decide) ?_
  refine lv_aload_n hx hb dL_tick_2 rfl (lv_at hl 0 rfl) ?_
  refine lv_iload_n hx hb dL_tick_3 rfl (lv_at hl 1 rfl) ?_
  refine fk_callV (As := [.int p0]) (rest := [.int 0, .ref o]) ⟨hx, hb, hml, hown, hts⟩ (hC _) (cwV 1 hts gL_tick_X2_tick rfl rfl rfl (by decide +kernel) ⟨Nat.le_of_ble_eq_true rfl, Nat.le_of_ble_eq_true rfl⟩) (fk_rvK hK hP) hK hP hD hS hA rfl hl.1 rfl (Nat.le_of_ble_eq_true rfl) dL_tick_4 ⟨Nat.le_of_ble_eq_true rfl, Nat.le_of_ble_eq_true rfl⟩ (fun H locs hP hD hS => ?_)
  refine W.eq (g2 := F0 m 7 ls [.int v, .int 0, .ref o]) rfl ?_
  refine lv_i2l hx hb dL_tick_7 rfl ?_
  refine va_last hx hb hK hP hD hS 27 2 fk_at27 rfl fk_v01 dL_tick_8 (fun H locs hP hD hS => ?_)
  have hP : va_P D vwCl (fk_kW ad cI cT S1 ++ (o, fk_ou cJ (vp_updL f 0 v.toInt64)) :: X) H := by rw [fk_set27] at hP; exact hP
  have hD : va_D A (fk_kW ad cI cT S1 ++ (o, fk_ou cJ (vp_updL f 0 v.toInt64)) :: X) := by rw [fk_set27] at hD; exact hD
  refine lv_goto (tgt := 15) hx hb dL_tick_9 (by decide) ?_
  refine lv_iconst (v := 0) hx hb dL_tick_15 (by decide) ?_
  exact fk_iretL (Nat.zero_le _) (Nat.zero_le _) hx hb hr hlocks hP hK hD hS rfl rfl dL_tick_16

set_option maxHeartbeats 4000000 in
set_option maxRecDepth 100000 in
theorem Lx_tick_IA (l : Launch) (D : va_G) (ad : Nat → Nat) (cI cT cJ : ClassId) (X : va_W) (S : fk_S) (o : Nat) (f : Nat → Int64) (p0 : Int32) (hX : ∀ X, fk_X l D (fk_ty cI cT cJ) yX2_tick wsX2_tick rx_pub [.ref (ad 0), .int p0] (fk_kW ad cI cT S ++ X) "java/lang/IllegalArgumentException") : fk_L l D (fk_ty cI cT cJ) yL_tick wsL_tick rm_L [.ref (ad 0), .int p0, .ref o] (fk_kW ad cI cT S ++ (o, fk_ou cJ f) :: X) (some (.int 1)) (fk_kW ad cI cT S ++ (o, fk_ou cJ f) :: X) := by
  refine fk_L_of (cc := cL_tick) (maxL := 4) (ret := some .int) (own := RL) (hh := [(0, 9, 12, 32)]) (by decide) rfl rfl (Nat.le_of_ble_eq_true rfl) ?_
  intro p e s m below meth c A ls hx hb hr hlocks hml hts hown htab hA hP hK hD hZ hN hl
  have hS : va_S A s.heap s.heap [] := va_S.rf
  have hl : lv_has ls 4 [(0, .ref (ad 0)), (1, .int p0), (2, .ref o)] := hl
  refine lv_aload_n hx hb dL_tick_0 rfl (lv_at hl 2 rfl) ?_
  refine lv_iconst (v := 0) hx hb dL_tick_1 (by decide) ?_
  refine lv_aload_n hx hb dL_tick_2 rfl (lv_at hl 0 rfl) ?_
  refine lv_iload_n hx hb dL_tick_3 rfl (lv_at hl 1 rfl) ?_
  refine fk_xcallV (As := [.int p0]) (rest := [.int 0, .ref o]) ⟨hx, hb, hml, hown, hts⟩ (hX _) (cwV 1 hts gL_tick_X2_tick rfl rfl rfl (by decide +kernel) ⟨Nat.le_of_ble_eq_true rfl, Nat.le_of_ble_eq_true rfl⟩) (fk_rvK hK hP) hK hP hD hS hA hZ rfl hl.1 rfl (Nat.le_of_ble_eq_true rfl) dL_tick_4 ⟨Nat.le_of_ble_eq_true rfl, Nat.le_of_ble_eq_true rfl⟩ (fk_caught (x := (0, 9, 12, 32)) [] [] hown htab rfl rfl (fun _ h9 => absurd h9 List.not_mem_nil) (by decide) (by decide) (hts _ (List.mem_of_getElem? (i := 1) rfl)) hZ fk_cast3 (fun q9 H locs hP hS => ?_))
  refine lv_astore_n (lv' := [(3, .ref q9), (0, .ref (ad 0)), (1, .int p0), (2, .ref o)]) hx hb dL_tick_12 rfl hl (by decide) rfl (fun ls hl => ?_)
  refine lv_iconst (v := 1) hx hb dL_tick_13 (by decide) ?_
  exact fk_iretL (Nat.le_of_ble_eq_true rfl) (Nat.le_of_ble_eq_true rfl) hx hb hr hlocks hP hK hD hS rfl rfl dL_tick_14

set_option maxHeartbeats 4000000 in
set_option maxRecDepth 100000 in
theorem Lc_stateOf (l : Launch) (D : va_G) (ad : Nat → Nat) (cI cT cJ : ClassId) (X : va_W) (S : fk_S) (o : Nat) (f : Nat → Int64) (p0 : Int32) (S1 : fk_S) (v : Int32) (hC : ∀ X, fk_C l D (fk_ty cI cT cJ) yX2_stateOf wsX2_stateOf rmX2_stateOf [.ref (ad 0), .int p0] (fk_kW ad cI cT S ++ X) (some (.int v)) (fk_kW ad cI cT S1 ++ X)) : fk_L l D (fk_ty cI cT cJ) yL_stateOf wsL_stateOf rm_L [.ref (ad 0), .int p0, .ref o] (fk_kW ad cI cT S ++ (o, fk_ou cJ f) :: X) (some (.int 0)) (fk_kW ad cI cT S1 ++ (o, fk_ou cJ (vp_updL f 0 v.toInt64)) :: X) := by
  refine fk_L_of (cc := cL_stateOf) (maxL := 4) (ret := some .int) (own := RL) (hh := [(0, 9, 12, 13)]) (by decide) rfl rfl (Nat.le_of_ble_eq_true rfl) ?_
  intro p e s m below meth c A ls hx hb hr hlocks hml hts hown htab hA hP hK hD hZ hN hl
  have hS : va_S A s.heap s.heap [] := va_S.rf
  have hl : lv_has ls 4 [(0, .ref (ad 0)), (1, .int p0), (2, .ref o)] := hl
  refine lv_aload_n hx hb dL_stateOf_0 rfl (lv_at hl 2 rfl) ?_
  refine lv_iconst (v := 0) hx hb dL_stateOf_1 (by decide) ?_
  refine lv_aload_n hx hb dL_stateOf_2 rfl (lv_at hl 0 rfl) ?_
  refine lv_iload_n hx hb dL_stateOf_3 rfl (lv_at hl 1 rfl) ?_
  refine fk_callV (As := [.int p0]) (rest := [.int 0, .ref o]) ⟨hx, hb, hml, hown, hts⟩ (hC _) (cwV 1 hts gL_stateOf_X2_stateOf rfl rfl rfl (by decide +kernel) ⟨Nat.le_of_ble_eq_true rfl, Nat.le_of_ble_eq_true rfl⟩) (fk_rvK hK hP) hK hP hD hS hA rfl hl.1 rfl (Nat.le_of_ble_eq_true rfl) dL_stateOf_4 ⟨Nat.le_of_ble_eq_true rfl, Nat.le_of_ble_eq_true rfl⟩ (fun H locs hP hD hS => ?_)
  refine W.eq (g2 := F0 m 7 ls [.int v, .int 0, .ref o]) rfl ?_
  refine lv_i2l hx hb dL_stateOf_7 rfl ?_
  refine va_last hx hb hK hP hD hS 27 2 fk_at27 rfl fk_v01 dL_stateOf_8 (fun H locs hP hD hS => ?_)
  have hP : va_P D vwCl (fk_kW ad cI cT S1 ++ (o, fk_ou cJ (vp_updL f 0 v.toInt64)) :: X) H := by rw [fk_set27] at hP; exact hP
  have hD : va_D A (fk_kW ad cI cT S1 ++ (o, fk_ou cJ (vp_updL f 0 v.toInt64)) :: X) := by rw [fk_set27] at hD; exact hD
  refine lv_goto (tgt := 15) hx hb dL_stateOf_9 (by decide) ?_
  refine lv_iconst (v := 0) hx hb dL_stateOf_15 (by decide) ?_
  exact fk_iretL (Nat.zero_le _) (Nat.zero_le _) hx hb hr hlocks hP hK hD hS rfl rfl dL_stateOf_16

set_option maxHeartbeats 4000000 in
set_option maxRecDepth 100000 in
theorem Lx_stateOf_IO (l : Launch) (D : va_G) (ad : Nat → Nat) (cI cT cJ : ClassId) (X : va_W) (S : fk_S) (o : Nat) (f : Nat → Int64) (p0 : Int32) (hX : ∀ X, fk_X l D (fk_ty cI cT cJ) yX2_stateOf wsX2_stateOf rx_pub [.ref (ad 0), .int p0] (fk_kW ad cI cT S ++ X) "java/lang/IndexOutOfBoundsException") : fk_L l D (fk_ty cI cT cJ) yL_stateOf wsL_stateOf rm_L [.ref (ad 0), .int p0, .ref o] (fk_kW ad cI cT S ++ (o, fk_ou cJ f) :: X) (some (.int 1)) (fk_kW ad cI cT S ++ (o, fk_ou cJ f) :: X) := by
  refine fk_L_of (cc := cL_stateOf) (maxL := 4) (ret := some .int) (own := RL) (hh := [(0, 9, 12, 13)]) (by decide) rfl rfl (Nat.le_of_ble_eq_true rfl) ?_
  intro p e s m below meth c A ls hx hb hr hlocks hml hts hown htab hA hP hK hD hZ hN hl
  have hS : va_S A s.heap s.heap [] := va_S.rf
  have hl : lv_has ls 4 [(0, .ref (ad 0)), (1, .int p0), (2, .ref o)] := hl
  refine lv_aload_n hx hb dL_stateOf_0 rfl (lv_at hl 2 rfl) ?_
  refine lv_iconst (v := 0) hx hb dL_stateOf_1 (by decide) ?_
  refine lv_aload_n hx hb dL_stateOf_2 rfl (lv_at hl 0 rfl) ?_
  refine lv_iload_n hx hb dL_stateOf_3 rfl (lv_at hl 1 rfl) ?_
  refine fk_xcallV (As := [.int p0]) (rest := [.int 0, .ref o]) ⟨hx, hb, hml, hown, hts⟩ (hX _) (cwV 1 hts gL_stateOf_X2_stateOf rfl rfl rfl (by decide +kernel) ⟨Nat.le_of_ble_eq_true rfl, Nat.le_of_ble_eq_true rfl⟩) (fk_rvK hK hP) hK hP hD hS hA hZ rfl hl.1 rfl (Nat.le_of_ble_eq_true rfl) dL_stateOf_4 ⟨Nat.le_of_ble_eq_true rfl, Nat.le_of_ble_eq_true rfl⟩ (fk_caught (x := (0, 9, 12, 13)) [] [] hown htab rfl rfl (fun _ h9 => absurd h9 List.not_mem_nil) (by decide) (by decide) (hts _ (List.mem_of_getElem? (i := 1) rfl)) hZ fk_cast1 (fun q9 H locs hP hS => ?_))
  refine lv_astore_n (lv' := [(3, .ref q9), (0, .ref (ad 0)), (1, .int p0), (2, .ref o)]) hx hb dL_stateOf_12 rfl hl (by decide) rfl (fun ls hl => ?_)
  refine lv_iconst (v := 1) hx hb dL_stateOf_13 (by decide) ?_
  exact fk_iretL (Nat.le_of_ble_eq_true rfl) (Nat.le_of_ble_eq_true rfl) hx hb hr hlocks hP hK hD hS rfl rfl dL_stateOf_14

set_option maxHeartbeats 4000000 in
set_option maxRecDepth 100000 in
theorem Lc_addressOf (l : Launch) (D : va_G) (ad : Nat → Nat) (cI cT cJ : ClassId) (X : va_W) (S : fk_S) (o : Nat) (f : Nat → Int64) (p0 : Int32) (S1 : fk_S) (v : Int32) (hC : ∀ X, fk_C l D (fk_ty cI cT cJ) yX2_addressOf wsX2_addressOf rmX2_addressOf [.ref (ad 0), .int p0] (fk_kW ad cI cT S ++ X) (some (.int v)) (fk_kW ad cI cT S1 ++ X)) : fk_L l D (fk_ty cI cT cJ) yL_addressOf wsL_addressOf rm_L [.ref (ad 0), .int p0, .ref o] (fk_kW ad cI cT S ++ (o, fk_ou cJ f) :: X) (some (.int 0)) (fk_kW ad cI cT S1 ++ (o, fk_ou cJ (vp_updL f 0 v.toInt64)) :: X) := by
  refine fk_L_of (cc := cL_addressOf) (maxL := 4) (ret := some .int) (own := RL) (hh := [(0, 9, 12, 13)]) (by decide) rfl rfl (Nat.le_of_ble_eq_true rfl) ?_
  intro p e s m below meth c A ls hx hb hr hlocks hml hts hown htab hA hP hK hD hZ hN hl
  have hS : va_S A s.heap s.heap [] := va_S.rf
  have hl : lv_has ls 4 [(0, .ref (ad 0)), (1, .int p0), (2, .ref o)] := hl
  refine lv_aload_n hx hb dL_addressOf_0 rfl (lv_at hl 2 rfl) ?_
  refine lv_iconst (v := 0) hx hb dL_addressOf_1 (by decide) ?_
  refine lv_aload_n hx hb dL_addressOf_2 rfl (lv_at hl 0 rfl) ?_
  refine lv_iload_n hx hb dL_addressOf_3 rfl (lv_at hl 1 rfl) ?_
  refine fk_callV (As := [.int p0]) (rest := [.int 0, .ref o]) ⟨hx, hb, hml, hown, hts⟩ (hC _) (cwV 1 hts gL_addressOf_X2_addressOf rfl rfl rfl (by decide +kernel) ⟨Nat.le_of_ble_eq_true rfl, Nat.le_of_ble_eq_true rfl⟩) (fk_rvK hK hP) hK hP hD hS hA rfl hl.1 rfl (Nat.le_of_ble_eq_true rfl) dL_addressOf_4 ⟨Nat.le_of_ble_eq_true rfl, Nat.le_of_ble_eq_true rfl⟩ (fun H locs hP hD hS => ?_)
  refine W.eq (g2 := F0 m 7 ls [.int v, .int 0, .ref o]) rfl ?_
  refine lv_i2l hx hb dL_addressOf_7 rfl ?_
  refine va_last hx hb hK hP hD hS 27 2 fk_at27 rfl fk_v01 dL_addressOf_8 (fun H locs hP hD hS => ?_)
  have hP : va_P D vwCl (fk_kW ad cI cT S1 ++ (o, fk_ou cJ (vp_updL f 0 v.toInt64)) :: X) H := by rw [fk_set27] at hP; exact hP
  have hD : va_D A (fk_kW ad cI cT S1 ++ (o, fk_ou cJ (vp_updL f 0 v.toInt64)) :: X) := by rw [fk_set27] at hD; exact hD
  refine lv_goto (tgt := 15) hx hb dL_addressOf_9 (by decide) ?_
  refine lv_iconst (v := 0) hx hb dL_addressOf_15 (by decide) ?_
  exact fk_iretL (Nat.zero_le _) (Nat.zero_le _) hx hb hr hlocks hP hK hD hS rfl rfl dL_addressOf_16

set_option maxHeartbeats 4000000 in
set_option maxRecDepth 100000 in
theorem Lx_addressOf_IO (l : Launch) (D : va_G) (ad : Nat → Nat) (cI cT cJ : ClassId) (X : va_W) (S : fk_S) (o : Nat) (f : Nat → Int64) (p0 : Int32) (hX : ∀ X, fk_X l D (fk_ty cI cT cJ) yX2_addressOf wsX2_addressOf rx_pub [.ref (ad 0), .int p0] (fk_kW ad cI cT S ++ X) "java/lang/IndexOutOfBoundsException") : fk_L l D (fk_ty cI cT cJ) yL_addressOf wsL_addressOf rm_L [.ref (ad 0), .int p0, .ref o] (fk_kW ad cI cT S ++ (o, fk_ou cJ f) :: X) (some (.int 1)) (fk_kW ad cI cT S ++ (o, fk_ou cJ f) :: X) := by
  refine fk_L_of (cc := cL_addressOf) (maxL := 4) (ret := some .int) (own := RL) (hh := [(0, 9, 12, 13)]) (by decide) rfl rfl (Nat.le_of_ble_eq_true rfl) ?_
  intro p e s m below meth c A ls hx hb hr hlocks hml hts hown htab hA hP hK hD hZ hN hl
  have hS : va_S A s.heap s.heap [] := va_S.rf
  have hl : lv_has ls 4 [(0, .ref (ad 0)), (1, .int p0), (2, .ref o)] := hl
  refine lv_aload_n hx hb dL_addressOf_0 rfl (lv_at hl 2 rfl) ?_
  refine lv_iconst (v := 0) hx hb dL_addressOf_1 (by decide) ?_
  refine lv_aload_n hx hb dL_addressOf_2 rfl (lv_at hl 0 rfl) ?_
  refine lv_iload_n hx hb dL_addressOf_3 rfl (lv_at hl 1 rfl) ?_
  refine fk_xcallV (As := [.int p0]) (rest := [.int 0, .ref o]) ⟨hx, hb, hml, hown, hts⟩ (hX _) (cwV 1 hts gL_addressOf_X2_addressOf rfl rfl rfl (by decide +kernel) ⟨Nat.le_of_ble_eq_true rfl, Nat.le_of_ble_eq_true rfl⟩) (fk_rvK hK hP) hK hP hD hS hA hZ rfl hl.1 rfl (Nat.le_of_ble_eq_true rfl) dL_addressOf_4 ⟨Nat.le_of_ble_eq_true rfl, Nat.le_of_ble_eq_true rfl⟩ (fk_caught (x := (0, 9, 12, 13)) [] [] hown htab rfl rfl (fun _ h9 => absurd h9 List.not_mem_nil) (by decide) (by decide) (hts _ (List.mem_of_getElem? (i := 1) rfl)) hZ fk_cast1 (fun q9 H locs hP hS => ?_))
  refine lv_astore_n (lv' := [(3, .ref q9), (0, .ref (ad 0)), (1, .int p0), (2, .ref o)]) hx hb dL_addressOf_12 rfl hl (by decide) rfl (fun ls hl => ?_)
  refine lv_iconst (v := 1) hx hb dL_addressOf_13 (by decide) ?_
  exact fk_iretL (Nat.le_of_ble_eq_true rfl) (Nat.le_of_ble_eq_true rfl) hx hb hr hlocks hP hK hD hS rfl rfl dL_addressOf_14

set_option maxHeartbeats 4000000 in
set_option maxRecDepth 100000 in
theorem Lc_resultOf (l : Launch) (D : va_G) (ad : Nat → Nat) (cI cT cJ : ClassId) (X : va_W) (S : fk_S) (o : Nat) (f : Nat → Int64) (p0 : Int32) (S1 : fk_S) (v : Int32) (hC : ∀ X, fk_C l D (fk_ty cI cT cJ) yX2_resultOf wsX2_resultOf rmX2_resultOf [.ref (ad 0), .int p0] (fk_kW ad cI cT S ++ X) (some (.int v)) (fk_kW ad cI cT S1 ++ X)) : fk_L l D (fk_ty cI cT cJ) yL_resultOf wsL_resultOf rm_L [.ref (ad 0), .int p0, .ref o] (fk_kW ad cI cT S ++ (o, fk_ou cJ f) :: X) (some (.int 0)) (fk_kW ad cI cT S1 ++ (o, fk_ou cJ (vp_updL f 0 v.toInt64)) :: X) := by
  refine fk_L_of (cc := cL_resultOf) (maxL := 4) (ret := some .int) (own := RL) (hh := [(0, 9, 12, 13)]) (by decide) rfl rfl (Nat.le_of_ble_eq_true rfl) ?_
  intro p e s m below meth c A ls hx hb hr hlocks hml hts hown htab hA hP hK hD hZ hN hl
  have hS : va_S A s.heap s.heap [] := va_S.rf
  have hl : lv_has ls 4 [(0, .ref (ad 0)), (1, .int p0), (2, .ref o)] := hl
  refine lv_aload_n hx hb dL_resultOf_0 rfl (lv_at hl 2 rfl) ?_
  refine lv_iconst (v := 0) hx hb dL_resultOf_1 (by decide) ?_
  refine lv_aload_n hx hb dL_resultOf_2 rfl (lv_at hl 0 rfl) ?_
  refine lv_iload_n hx hb dL_resultOf_3 rfl (lv_at hl 1 rfl) ?_
  refine fk_callV (As := [.int p0]) (rest := [.int 0, .ref o]) ⟨hx, hb, hml, hown, hts⟩ (hC _) (cwV 1 hts gL_resultOf_X2_resultOf rfl rfl rfl (by decide +kernel) ⟨Nat.le_of_ble_eq_true rfl, Nat.le_of_ble_eq_true rfl⟩) (fk_rvK hK hP) hK hP hD hS hA rfl hl.1 rfl (Nat.le_of_ble_eq_true rfl) dL_resultOf_4 ⟨Nat.le_of_ble_eq_true rfl, Nat.le_of_ble_eq_true rfl⟩ (fun H locs hP hD hS => ?_)
  refine W.eq (g2 := F0 m 7 ls [.int v, .int 0, .ref o]) rfl ?_
  refine lv_i2l hx hb dL_resultOf_7 rfl ?_
  refine va_last hx hb hK hP hD hS 27 2 fk_at27 rfl fk_v01 dL_resultOf_8 (fun H locs hP hD hS => ?_)
  have hP : va_P D vwCl (fk_kW ad cI cT S1 ++ (o, fk_ou cJ (vp_updL f 0 v.toInt64)) :: X) H := by rw [fk_set27] at hP; exact hP
  have hD : va_D A (fk_kW ad cI cT S1 ++ (o, fk_ou cJ (vp_updL f 0 v.toInt64)) :: X) := by rw [fk_set27] at hD; exact hD
  refine lv_goto (tgt := 15) hx hb dL_resultOf_9 (by decide) ?_
  refine lv_iconst (v := 0) hx hb dL_resultOf_15 (by decide) ?_
  exact fk_iretL (Nat.zero_le _) (Nat.zero_le _) hx hb hr hlocks hP hK hD hS rfl rfl dL_resultOf_16

set_option maxHeartbeats 4000000 in
set_option maxRecDepth 100000 in
theorem Lx_resultOf_IO (l : Launch) (D : va_G) (ad : Nat → Nat) (cI cT cJ : ClassId) (X : va_W) (S : fk_S) (o : Nat) (f : Nat → Int64) (p0 : Int32) (hX : ∀ X, fk_X l D (fk_ty cI cT cJ) yX2_resultOf wsX2_resultOf rx_pub [.ref (ad 0), .int p0] (fk_kW ad cI cT S ++ X) "java/lang/IndexOutOfBoundsException") : fk_L l D (fk_ty cI cT cJ) yL_resultOf wsL_resultOf rm_L [.ref (ad 0), .int p0, .ref o] (fk_kW ad cI cT S ++ (o, fk_ou cJ f) :: X) (some (.int 1)) (fk_kW ad cI cT S ++ (o, fk_ou cJ f) :: X) := by
  refine fk_L_of (cc := cL_resultOf) (maxL := 4) (ret := some .int) (own := RL) (hh := [(0, 9, 12, 13)]) (by decide) rfl rfl (Nat.le_of_ble_eq_true rfl) ?_
  intro p e s m below meth c A ls hx hb hr hlocks hml hts hown htab hA hP hK hD hZ hN hl
  have hS : va_S A s.heap s.heap [] := va_S.rf
  have hl : lv_has ls 4 [(0, .ref (ad 0)), (1, .int p0), (2, .ref o)] := hl
  refine lv_aload_n hx hb dL_resultOf_0 rfl (lv_at hl 2 rfl) ?_
  refine lv_iconst (v := 0) hx hb dL_resultOf_1 (by decide) ?_
  refine lv_aload_n hx hb dL_resultOf_2 rfl (lv_at hl 0 rfl) ?_
  refine lv_iload_n hx hb dL_resultOf_3 rfl (lv_at hl 1 rfl) ?_
  refine fk_xcallV (As := [.int p0]) (rest := [.int 0, .ref o]) ⟨hx, hb, hml, hown, hts⟩ (hX _) (cwV 1 hts gL_resultOf_X2_resultOf rfl rfl rfl (by decide +kernel) ⟨Nat.le_of_ble_eq_true rfl, Nat.le_of_ble_eq_true rfl⟩) (fk_rvK hK hP) hK hP hD hS hA hZ rfl hl.1 rfl (Nat.le_of_ble_eq_true rfl) dL_resultOf_4 ⟨Nat.le_of_ble_eq_true rfl, Nat.le_of_ble_eq_true rfl⟩ (fk_caught (x := (0, 9, 12, 13)) [] [] hown htab rfl rfl (fun _ h9 => absurd h9 List.not_mem_nil) (by decide) (by decide) (hts _ (List.mem_of_getElem? (i := 1) rfl)) hZ fk_cast1 (fun q9 H locs hP hS => ?_))
  refine lv_astore_n (lv' := [(3, .ref q9), (0, .ref (ad 0)), (1, .int p0), (2, .ref o)]) hx hb dL_resultOf_12 rfl hl (by decide) rfl (fun ls hl => ?_)
  refine lv_iconst (v := 1) hx hb dL_resultOf_13 (by decide) ?_
  exact fk_iretL (Nat.le_of_ble_eq_true rfl) (Nat.le_of_ble_eq_true rfl) hx hb hr hlocks hP hK hD hS rfl rfl dL_resultOf_14

set_option maxHeartbeats 4000000 in
set_option maxRecDepth 100000 in
theorem Lc_serialOf (l : Launch) (D : va_G) (ad : Nat → Nat) (cI cT cJ : ClassId) (X : va_W) (S : fk_S) (o : Nat) (f : Nat → Int64) (p0 : Int32) (S1 : fk_S) (v : Int32) (hC : ∀ X, fk_C l D (fk_ty cI cT cJ) yX2_serialOf wsX2_serialOf rmX2_serialOf [.ref (ad 0), .int p0] (fk_kW ad cI cT S ++ X) (some (.int v)) (fk_kW ad cI cT S1 ++ X)) : fk_L l D (fk_ty cI cT cJ) yL_serialOf wsL_serialOf rm_L [.ref (ad 0), .int p0, .ref o] (fk_kW ad cI cT S ++ (o, fk_ou cJ f) :: X) (some (.int 0)) (fk_kW ad cI cT S1 ++ (o, fk_ou cJ (vp_updL f 0 v.toInt64)) :: X) := by
  refine fk_L_of (cc := cL_serialOf) (maxL := 4) (ret := some .int) (own := RL) (hh := [(0, 9, 12, 13)]) (by decide) rfl rfl (Nat.le_of_ble_eq_true rfl) ?_
  intro p e s m below meth c A ls hx hb hr hlocks hml hts hown htab hA hP hK hD hZ hN hl
  have hS : va_S A s.heap s.heap [] := va_S.rf
  have hl : lv_has ls 4 [(0, .ref (ad 0)), (1, .int p0), (2, .ref o)] := hl
  refine lv_aload_n hx hb dL_serialOf_0 rfl (lv_at hl 2 rfl) ?_
  refine lv_iconst (v := 0) hx hb dL_serialOf_1 (by decide) ?_
  refine lv_aload_n hx hb dL_serialOf_2 rfl (lv_at hl 0 rfl) ?_
  refine lv_iload_n hx hb dL_serialOf_3 rfl (lv_at hl 1 rfl) ?_
  refine fk_callV (As := [.int p0]) (rest := [.int 0, .ref o]) ⟨hx, hb, hml, hown, hts⟩ (hC _) (cwV 1 hts gL_serialOf_X2_serialOf rfl rfl rfl (by decide +kernel) ⟨Nat.le_of_ble_eq_true rfl, Nat.le_of_ble_eq_true rfl⟩) (fk_rvK hK hP) hK hP hD hS hA rfl hl.1 rfl (Nat.le_of_ble_eq_true rfl) dL_serialOf_4 ⟨Nat.le_of_ble_eq_true rfl, Nat.le_of_ble_eq_true rfl⟩ (fun H locs hP hD hS => ?_)
  refine W.eq (g2 := F0 m 7 ls [.int v, .int 0, .ref o]) rfl ?_
  refine lv_i2l hx hb dL_serialOf_7 rfl ?_
  refine va_last hx hb hK hP hD hS 27 2 fk_at27 rfl fk_v01 dL_serialOf_8 (fun H locs hP hD hS => ?_)
  have hP : va_P D vwCl (fk_kW ad cI cT S1 ++ (o, fk_ou cJ (vp_updL f 0 v.toInt64)) :: X) H := by rw [fk_set27] at hP; exact hP
  have hD : va_D A (fk_kW ad cI cT S1 ++ (o, fk_ou cJ (vp_updL f 0 v.toInt64)) :: X) := by rw [fk_set27] at hD; exact hD
  refine lv_goto (tgt := 15) hx hb dL_serialOf_9 (by decide) ?_
  refine lv_iconst (v := 0) hx hb dL_serialOf_15 (by decide) ?_
  exact fk_iretL (Nat.zero_le _) (Nat.zero_le _) hx hb hr hlocks hP hK hD hS rfl rfl dL_serialOf_16

set_option maxHeartbeats 4000000 in
set_option maxRecDepth 100000 in
theorem Lx_serialOf_IO (l : Launch) (D : va_G) (ad : Nat → Nat) (cI cT cJ : ClassId) (X : va_W) (S : fk_S) (o : Nat) (f : Nat → Int64) (p0 : Int32) (hX : ∀ X, fk_X l D (fk_ty cI cT cJ) yX2_serialOf wsX2_serialOf rx_pub [.ref (ad 0), .int p0] (fk_kW ad cI cT S ++ X) "java/lang/IndexOutOfBoundsException") : fk_L l D (fk_ty cI cT cJ) yL_serialOf wsL_serialOf rm_L [.ref (ad 0), .int p0, .ref o] (fk_kW ad cI cT S ++ (o, fk_ou cJ f) :: X) (some (.int 1)) (fk_kW ad cI cT S ++ (o, fk_ou cJ f) :: X) := by
  refine fk_L_of (cc := cL_serialOf) (maxL := 4) (ret := some .int) (own := RL) (hh := [(0, 9, 12, 13)]) (by decide) rfl rfl (Nat.le_of_ble_eq_true rfl) ?_
  intro p e s m below meth c A ls hx hb hr hlocks hml hts hown htab hA hP hK hD hZ hN hl
  have hS : va_S A s.heap s.heap [] := va_S.rf
  have hl : lv_has ls 4 [(0, .ref (ad 0)), (1, .int p0), (2, .ref o)] := hl
  refine lv_aload_n hx hb dL_serialOf_0 rfl (lv_at hl 2 rfl) ?_
  refine lv_iconst (v := 0) hx hb dL_serialOf_1 (by decide) ?_
  refine lv_aload_n hx hb dL_serialOf_2 rfl (lv_at hl 0 rfl) ?_
  refine lv_iload_n hx hb dL_serialOf_3 rfl (lv_at hl 1 rfl) ?_
  refine fk_xcallV (As := [.int p0]) (rest := [.int 0, .ref o]) ⟨hx, hb, hml, hown, hts⟩ (hX _) (cwV 1 hts gL_serialOf_X2_serialOf rfl rfl rfl (by decide +kernel) ⟨Nat.le_of_ble_eq_true rfl, Nat.le_of_ble_eq_true rfl⟩) (fk_rvK hK hP) hK hP hD hS hA hZ rfl hl.1 rfl (Nat.le_of_ble_eq_true rfl) dL_serialOf_4 ⟨Nat.le_of_ble_eq_true rfl, Nat.le_of_ble_eq_true rfl⟩ (fk_caught (x := (0, 9, 12, 13)) [] [] hown htab rfl rfl (fun _ h9 => absurd h9 List.not_mem_nil) (by decide) (by decide) (hts _ (List.mem_of_getElem? (i := 1) rfl)) hZ fk_cast1 (fun q9 H locs hP hS => ?_))
  refine lv_astore_n (lv' := [(3, .ref q9), (0, .ref (ad 0)), (1, .int p0), (2, .ref o)]) hx hb dL_serialOf_12 rfl hl (by decide) rfl (fun ls hl => ?_)
  refine lv_iconst (v := 1) hx hb dL_serialOf_13 (by decide) ?_
  exact fk_iretL (Nat.le_of_ble_eq_true rfl) (Nat.le_of_ble_eq_true rfl) hx hb hr hlocks hP hK hD hS rfl rfl dL_serialOf_14

set_option maxHeartbeats 4000000 in
set_option maxRecDepth 100000 in
theorem Lc_waiters (l : Launch) (D : va_G) (ad : Nat → Nat) (cI cT cJ : ClassId) (X : va_W) (S : fk_S) (o : Nat) (f : Nat → Int64) (p0 : Int32) (S1 : fk_S) (v : Int32) (hC : ∀ X, fk_C l D (fk_ty cI cT cJ) yX2_waiters wsX2_waiters rmX2_waiters [.ref (ad 0), .int p0] (fk_kW ad cI cT S ++ X) (some (.int v)) (fk_kW ad cI cT S1 ++ X)) : fk_L l D (fk_ty cI cT cJ) yL_waiters wsL_waiters rm_L [.ref (ad 0), .int p0, .ref o] (fk_kW ad cI cT S ++ (o, fk_ou cJ f) :: X) (some (.int 0)) (fk_kW ad cI cT S1 ++ (o, fk_ou cJ (vp_updL f 0 v.toInt64)) :: X) := by
  refine fk_L_of (cc := cL_waiters) (maxL := 4) (ret := some .int) (own := RL) (hh := [(0, 9, 12, 13)]) (by decide) rfl rfl (Nat.le_of_ble_eq_true rfl) ?_
  intro p e s m below meth c A ls hx hb hr hlocks hml hts hown htab hA hP hK hD hZ hN hl
  have hS : va_S A s.heap s.heap [] := va_S.rf
  have hl : lv_has ls 4 [(0, .ref (ad 0)), (1, .int p0), (2, .ref o)] := hl
  refine lv_aload_n hx hb dL_waiters_0 rfl (lv_at hl 2 rfl) ?_
  refine lv_iconst (v := 0) hx hb dL_waiters_1 (by decide) ?_
  refine lv_aload_n hx hb dL_waiters_2 rfl (lv_at hl 0 rfl) ?_
  refine lv_iload_n hx hb dL_waiters_3 rfl (lv_at hl 1 rfl) ?_
  refine fk_callV (As := [.int p0]) (rest := [.int 0, .ref o]) ⟨hx, hb, hml, hown, hts⟩ (hC _) (cwV 1 hts gL_waiters_X2_waiters rfl rfl rfl (by decide +kernel) ⟨Nat.le_of_ble_eq_true rfl, Nat.le_of_ble_eq_true rfl⟩) (fk_rvK hK hP) hK hP hD hS hA rfl hl.1 rfl (Nat.le_of_ble_eq_true rfl) dL_waiters_4 ⟨Nat.le_of_ble_eq_true rfl, Nat.le_of_ble_eq_true rfl⟩ (fun H locs hP hD hS => ?_)
  refine W.eq (g2 := F0 m 7 ls [.int v, .int 0, .ref o]) rfl ?_
  refine lv_i2l hx hb dL_waiters_7 rfl ?_
  refine va_last hx hb hK hP hD hS 27 2 fk_at27 rfl fk_v01 dL_waiters_8 (fun H locs hP hD hS => ?_)
  have hP : va_P D vwCl (fk_kW ad cI cT S1 ++ (o, fk_ou cJ (vp_updL f 0 v.toInt64)) :: X) H := by rw [fk_set27] at hP; exact hP
  have hD : va_D A (fk_kW ad cI cT S1 ++ (o, fk_ou cJ (vp_updL f 0 v.toInt64)) :: X) := by rw [fk_set27] at hD; exact hD
  refine lv_goto (tgt := 15) hx hb dL_waiters_9 (by decide) ?_
  refine lv_iconst (v := 0) hx hb dL_waiters_15 (by decide) ?_
  exact fk_iretL (Nat.zero_le _) (Nat.zero_le _) hx hb hr hlocks hP hK hD hS rfl rfl dL_waiters_16

set_option maxHeartbeats 4000000 in
set_option maxRecDepth 100000 in
theorem Lx_waiters_IO (l : Launch) (D : va_G) (ad : Nat → Nat) (cI cT cJ : ClassId) (X : va_W) (S : fk_S) (o : Nat) (f : Nat → Int64) (p0 : Int32) (hX : ∀ X, fk_X l D (fk_ty cI cT cJ) yX2_waiters wsX2_waiters rx_pub [.ref (ad 0), .int p0] (fk_kW ad cI cT S ++ X) "java/lang/IndexOutOfBoundsException") : fk_L l D (fk_ty cI cT cJ) yL_waiters wsL_waiters rm_L [.ref (ad 0), .int p0, .ref o] (fk_kW ad cI cT S ++ (o, fk_ou cJ f) :: X) (some (.int 1)) (fk_kW ad cI cT S ++ (o, fk_ou cJ f) :: X) := by
  refine fk_L_of (cc := cL_waiters) (maxL := 4) (ret := some .int) (own := RL) (hh := [(0, 9, 12, 13)]) (by decide) rfl rfl (Nat.le_of_ble_eq_true rfl) ?_
  intro p e s m below meth c A ls hx hb hr hlocks hml hts hown htab hA hP hK hD hZ hN hl
  have hS : va_S A s.heap s.heap [] := va_S.rf
  have hl : lv_has ls 4 [(0, .ref (ad 0)), (1, .int p0), (2, .ref o)] := hl
  refine lv_aload_n hx hb dL_waiters_0 rfl (lv_at hl 2 rfl) ?_
  refine lv_iconst (v := 0) hx hb dL_waiters_1 (by decide) ?_
  refine lv_aload_n hx hb dL_waiters_2 rfl (lv_at hl 0 rfl) ?_
  refine lv_iload_n hx hb dL_waiters_3 rfl (lv_at hl 1 rfl) ?_
  refine fk_xcallV (As := [.int p0]) (rest := [.int 0, .ref o]) ⟨hx, hb, hml, hown, hts⟩ (hX _) (cwV 1 hts gL_waiters_X2_waiters rfl rfl rfl (by decide +kernel) ⟨Nat.le_of_ble_eq_true rfl, Nat.le_of_ble_eq_true rfl⟩) (fk_rvK hK hP) hK hP hD hS hA hZ rfl hl.1 rfl (Nat.le_of_ble_eq_true rfl) dL_waiters_4 ⟨Nat.le_of_ble_eq_true rfl, Nat.le_of_ble_eq_true rfl⟩ (fk_caught (x := (0, 9, 12, 13)) [] [] hown htab rfl rfl (fun _ h9 => absurd h9 List.not_mem_nil) (by decide) (by decide) (hts _ (List.mem_of_getElem? (i := 1) rfl)) hZ fk_cast1 (fun q9 H locs hP hS => ?_))
  refine lv_astore_n (lv' := [(3, .ref q9), (0, .ref (ad 0)), (1, .int p0), (2, .ref o)]) hx hb dL_waiters_12 rfl hl (by decide) rfl (fun ls hl => ?_)
  refine lv_iconst (v := 1) hx hb dL_waiters_13 (by decide) ?_
  exact fk_iretL (Nat.le_of_ble_eq_true rfl) (Nat.le_of_ble_eq_true rfl) hx hb hr hlocks hP hK hD hS rfl rfl dL_waiters_14

set_option maxHeartbeats 4000000 in
set_option maxRecDepth 100000 in
theorem Lc_waiterAt (l : Launch) (D : va_G) (ad : Nat → Nat) (cI cT cJ : ClassId) (X : va_W) (S : fk_S) (o : Nat) (f : Nat → Int64) (p0 p1 : Int32) (S1 : fk_S) (v : Int32) (hC : ∀ X, fk_C l D (fk_ty cI cT cJ) yX2_waiterAt wsX2_waiterAt rmX2_waiterAt [.ref (ad 0), .int p0, .int p1] (fk_kW ad cI cT S ++ X) (some (.int v)) (fk_kW ad cI cT S1 ++ X)) : fk_L l D (fk_ty cI cT cJ) yL_waiterAt wsL_waiterAt rm_L [.ref (ad 0), .int p0, .int p1, .ref o] (fk_kW ad cI cT S ++ (o, fk_ou cJ f) :: X) (some (.int 0)) (fk_kW ad cI cT S1 ++ (o, fk_ou cJ (vp_updL f 0 v.toInt64)) :: X) := by
  refine fk_L_of (cc := cL_waiterAt) (maxL := 5) (ret := some .int) (own := RL) (hh := [(0, 10, 13, 13)]) (by decide) rfl rfl (Nat.le_of_ble_eq_true rfl) ?_
  intro p e s m below meth c A ls hx hb hr hlocks hml hts hown htab hA hP hK hD hZ hN hl
  have hS : va_S A s.heap s.heap [] := va_S.rf
  have hl : lv_has ls 5 [(0, .ref (ad 0)), (1, .int p0), (2, .int p1), (3, .ref o)] := hl
  refine lv_aload_n hx hb dL_waiterAt_0 rfl (lv_at hl 3 rfl) ?_
  refine lv_iconst (v := 0) hx hb dL_waiterAt_1 (by decide) ?_
  refine lv_aload_n hx hb dL_waiterAt_2 rfl (lv_at hl 0 rfl) ?_
  refine lv_iload_n hx hb dL_waiterAt_3 rfl (lv_at hl 1 rfl) ?_
  refine lv_iload_n hx hb dL_waiterAt_4 rfl (lv_at hl 2 rfl) ?_
  refine fk_callV (As := [.int p0, .int p1]) (rest := [.int 0, .ref o]) ⟨hx, hb, hml, hown, hts⟩ (hC _) (cwV 2 hts gL_waiterAt_X2_waiterAt rfl rfl rfl (by decide +kernel) ⟨Nat.le_of_ble_eq_true rfl, Nat.le_of_ble_eq_true rfl⟩) (fk_rvK hK hP) hK hP hD hS hA rfl hl.1 rfl (Nat.le_of_ble_eq_true rfl) dL_waiterAt_5 ⟨Nat.le_of_ble_eq_true rfl, Nat.le_of_ble_eq_true rfl⟩ (fun H locs hP hD hS => ?_)
  refine W.eq (g2 := F0 m 8 ls [.int v, .int 0, .ref o]) rfl ?_
  refine lv_i2l hx hb dL_waiterAt_8 rfl ?_
  refine va_last hx hb hK hP hD hS 27 2 fk_at27 rfl fk_v01 dL_waiterAt_9 (fun H locs hP hD hS => ?_)
  have hP : va_P D vwCl (fk_kW ad cI cT S1 ++ (o, fk_ou cJ (vp_updL f 0 v.toInt64)) :: X) H := by rw [fk_set27] at hP; exact hP
  have hD : va_D A (fk_kW ad cI cT S1 ++ (o, fk_ou cJ (vp_updL f 0 v.toInt64)) :: X) := by rw [fk_set27] at hD; exact hD
  refine lv_goto (tgt := 17) hx hb dL_waiterAt_10 (by decide) ?_
  refine lv_iconst (v := 0) hx hb dL_waiterAt_17 (by decide) ?_
  exact fk_iretL (Nat.zero_le _) (Nat.zero_le _) hx hb hr hlocks hP hK hD hS rfl rfl dL_waiterAt_18

set_option maxHeartbeats 4000000 in
set_option maxRecDepth 100000 in
theorem Lx_waiterAt_IO (l : Launch) (D : va_G) (ad : Nat → Nat) (cI cT cJ : ClassId) (X : va_W) (S : fk_S) (o : Nat) (f : Nat → Int64) (p0 p1 : Int32) (hX : ∀ X, fk_X l D (fk_ty cI cT cJ) yX2_waiterAt wsX2_waiterAt rx_pub [.ref (ad 0), .int p0, .int p1] (fk_kW ad cI cT S ++ X) "java/lang/IndexOutOfBoundsException") : fk_L l D (fk_ty cI cT cJ) yL_waiterAt wsL_waiterAt rm_L [.ref (ad 0), .int p0, .int p1, .ref o] (fk_kW ad cI cT S ++ (o, fk_ou cJ f) :: X) (some (.int 1)) (fk_kW ad cI cT S ++ (o, fk_ou cJ f) :: X) := by
  refine fk_L_of (cc := cL_waiterAt) (maxL := 5) (ret := some .int) (own := RL) (hh := [(0, 10, 13, 13)]) (by decide) rfl rfl (Nat.le_of_ble_eq_true rfl) ?_
  intro p e s m below meth c A ls hx hb hr hlocks hml hts hown htab hA hP hK hD hZ hN hl
  have hS : va_S A s.heap s.heap [] := va_S.rf
  have hl : lv_has ls 5 [(0, .ref (ad 0)), (1, .int p0), (2, .int p1), (3, .ref o)] := hl
  refine lv_aload_n hx hb dL_waiterAt_0 rfl (lv_at hl 3 rfl) ?_
  refine lv_iconst (v := 0) hx hb dL_waiterAt_1 (by decide) ?_
  refine lv_aload_n hx hb dL_waiterAt_2 rfl (lv_at hl 0 rfl) ?_
  refine lv_iload_n hx hb dL_waiterAt_3 rfl (lv_at hl 1 rfl) ?_
  refine lv_iload_n hx hb dL_waiterAt_4 rfl (lv_at hl 2 rfl) ?_
  refine fk_xcallV (As := [.int p0, .int p1]) (rest := [.int 0, .ref o]) ⟨hx, hb, hml, hown, hts⟩ (hX _) (cwV 2 hts gL_waiterAt_X2_waiterAt rfl rfl rfl (by decide +kernel) ⟨Nat.le_of_ble_eq_true rfl, Nat.le_of_ble_eq_true rfl⟩) (fk_rvK hK hP) hK hP hD hS hA hZ rfl hl.1 rfl (Nat.le_of_ble_eq_true rfl) dL_waiterAt_5 ⟨Nat.le_of_ble_eq_true rfl, Nat.le_of_ble_eq_true rfl⟩ (fk_caught (x := (0, 10, 13, 13)) [] [] hown htab rfl rfl (fun _ h9 => absurd h9 List.not_mem_nil) (by decide) (by decide) (hts _ (List.mem_of_getElem? (i := 1) rfl)) hZ fk_cast1 (fun q9 H locs hP hS => ?_))
  refine lv_astore (lv' := [(4, .ref q9), (0, .ref (ad 0)), (1, .int p0), (2, .int p1), (3, .ref o)]) hx hb dL_waiterAt_13 hl (by decide) rfl (fun ls hl => ?_)
  refine lv_iconst (v := 1) hx hb dL_waiterAt_15 (by decide) ?_
  exact fk_iretL (Nat.le_of_ble_eq_true rfl) (Nat.le_of_ble_eq_true rfl) hx hb hr hlocks hP hK hD hS rfl rfl dL_waiterAt_16

set_option maxHeartbeats 4000000 in
set_option maxRecDepth 100000 in
theorem Lc_queueAt (l : Launch) (D : va_G) (ad : Nat → Nat) (cI cT cJ : ClassId) (X : va_W) (S : fk_S) (o : Nat) (f : Nat → Int64) (p0 p1 : Int32) (S1 : fk_S) (v : Int32) (hC : ∀ X, fk_C l D (fk_ty cI cT cJ) yX2_queueAt wsX2_queueAt rmX2_queueAt [.ref (ad 0), .int p0, .int p1] (fk_kW ad cI cT S ++ X) (some (.int v)) (fk_kW ad cI cT S1 ++ X)) : fk_L l D (fk_ty cI cT cJ) yL_queueAt wsL_queueAt rm_L [.ref (ad 0), .int p0, .int p1, .ref o] (fk_kW ad cI cT S ++ (o, fk_ou cJ f) :: X) (some (.int 0)) (fk_kW ad cI cT S1 ++ (o, fk_ou cJ (vp_updL f 0 v.toInt64)) :: X) := by
  refine fk_L_of (cc := cL_queueAt) (maxL := 5) (ret := some .int) (own := RL) (hh := [(0, 10, 13, 13)]) (by decide) rfl rfl (Nat.le_of_ble_eq_true rfl) ?_
  intro p e s m below meth c A ls hx hb hr hlocks hml hts hown htab hA hP hK hD hZ hN hl
  have hS : va_S A s.heap s.heap [] := va_S.rf
  have hl : lv_has ls 5 [(0, .ref (ad 0)), (1, .int p0), (2, .int p1), (3, .ref o)] := hl
  refine lv_aload_n hx hb dL_queueAt_0 rfl (lv_at hl 3 rfl) ?_
  refine lv_iconst (v := 0) hx hb dL_queueAt_1 (by decide) ?_
  refine lv_aload_n hx hb dL_queueAt_2 rfl (lv_at hl 0 rfl) ?_
  refine lv_iload_n hx hb dL_queueAt_3 rfl (lv_at hl 1 rfl) ?_
  refine lv_iload_n hx hb dL_queueAt_4 rfl (lv_at hl 2 rfl) ?_
  refine fk_callV (As := [.int p0, .int p1]) (rest := [.int 0, .ref o]) ⟨hx, hb, hml, hown, hts⟩ (hC _) (cwV 2 hts gL_queueAt_X2_queueAt rfl rfl rfl (by decide +kernel) ⟨Nat.le_of_ble_eq_true rfl, Nat.le_of_ble_eq_true rfl⟩) (fk_rvK hK hP) hK hP hD hS hA rfl hl.1 rfl (Nat.le_of_ble_eq_true rfl) dL_queueAt_5 ⟨Nat.le_of_ble_eq_true rfl, Nat.le_of_ble_eq_true rfl⟩ (fun H locs hP hD hS => ?_)
  refine W.eq (g2 := F0 m 8 ls [.int v, .int 0, .ref o]) rfl ?_
  refine lv_i2l hx hb dL_queueAt_8 rfl ?_
  refine va_last hx hb hK hP hD hS 27 2 fk_at27 rfl fk_v01 dL_queueAt_9 (fun H locs hP hD hS => ?_)
  have hP : va_P D vwCl (fk_kW ad cI cT S1 ++ (o, fk_ou cJ (vp_updL f 0 v.toInt64)) :: X) H := by rw [fk_set27] at hP; exact hP
  have hD : va_D A (fk_kW ad cI cT S1 ++ (o, fk_ou cJ (vp_updL f 0 v.toInt64)) :: X) := by rw [fk_set27] at hD; exact hD
  refine lv_goto (tgt := 17) hx hb dL_queueAt_10 (by decide) ?_
  refine lv_iconst (v := 0) hx hb dL_queueAt_17 (by decide) ?_
  exact fk_iretL (Nat.zero_le _) (Nat.zero_le _) hx hb hr hlocks hP hK hD hS rfl rfl dL_queueAt_18

set_option maxHeartbeats 4000000 in
set_option maxRecDepth 100000 in
theorem Lx_queueAt_IO (l : Launch) (D : va_G) (ad : Nat → Nat) (cI cT cJ : ClassId) (X : va_W) (S : fk_S) (o : Nat) (f : Nat → Int64) (p0 p1 : Int32) (hX : ∀ X, fk_X l D (fk_ty cI cT cJ) yX2_queueAt wsX2_queueAt rx_pub [.ref (ad 0), .int p0, .int p1] (fk_kW ad cI cT S ++ X) "java/lang/IndexOutOfBoundsException") : fk_L l D (fk_ty cI cT cJ) yL_queueAt wsL_queueAt rm_L [.ref (ad 0), .int p0, .int p1, .ref o] (fk_kW ad cI cT S ++ (o, fk_ou cJ f) :: X) (some (.int 1)) (fk_kW ad cI cT S ++ (o, fk_ou cJ f) :: X) := by
  refine fk_L_of (cc := cL_queueAt) (maxL := 5) (ret := some .int) (own := RL) (hh := [(0, 10, 13, 13)]) (by decide) rfl rfl (Nat.le_of_ble_eq_true rfl) ?_
  intro p e s m below meth c A ls hx hb hr hlocks hml hts hown htab hA hP hK hD hZ hN hl
  have hS : va_S A s.heap s.heap [] := va_S.rf
  have hl : lv_has ls 5 [(0, .ref (ad 0)), (1, .int p0), (2, .int p1), (3, .ref o)] := hl
  refine lv_aload_n hx hb dL_queueAt_0 rfl (lv_at hl 3 rfl) ?_
  refine lv_iconst (v := 0) hx hb dL_queueAt_1 (by decide) ?_
  refine lv_aload_n hx hb dL_queueAt_2 rfl (lv_at hl 0 rfl) ?_
  refine lv_iload_n hx hb dL_queueAt_3 rfl (lv_at hl 1 rfl) ?_
  refine lv_iload_n hx hb dL_queueAt_4 rfl (lv_at hl 2 rfl) ?_
  refine fk_xcallV (As := [.int p0, .int p1]) (rest := [.int 0, .ref o]) ⟨hx, hb, hml, hown, hts⟩ (hX _) (cwV 2 hts gL_queueAt_X2_queueAt rfl rfl rfl (by decide +kernel) ⟨Nat.le_of_ble_eq_true rfl, Nat.le_of_ble_eq_true rfl⟩) (fk_rvK hK hP) hK hP hD hS hA hZ rfl hl.1 rfl (Nat.le_of_ble_eq_true rfl) dL_queueAt_5 ⟨Nat.le_of_ble_eq_true rfl, Nat.le_of_ble_eq_true rfl⟩ (fk_caught (x := (0, 10, 13, 13)) [] [] hown htab rfl rfl (fun _ h9 => absurd h9 List.not_mem_nil) (by decide) (by decide) (hts _ (List.mem_of_getElem? (i := 1) rfl)) hZ fk_cast1 (fun q9 H locs hP hS => ?_))
  refine lv_astore (lv' := [(4, .ref q9), (0, .ref (ad 0)), (1, .int p0), (2, .int p1), (3, .ref o)]) hx hb dL_queueAt_13 hl (by decide) rfl (fun ls hl => ?_)
  refine lv_iconst (v := 1) hx hb dL_queueAt_15 (by decide) ?_
  exact fk_iretL (Nat.le_of_ble_eq_true rfl) (Nat.le_of_ble_eq_true rfl) hx hb hr hlocks hP hK hD hS rfl rfl dL_queueAt_16
