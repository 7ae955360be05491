set_option maxHeartbeats 4000000 in
set_option maxRecDepth 100000 in
theorem Lc_unlock (l : Launch) (D : va_G) (ad : Nat → Nat) (cI cT cJ : ClassId) (X : va_W) (S : fk_S) (o : Nat) (f : Nat → Int64) (p0 p1 : Int32) (S1 : fk_S) (v : Int32) (hC : ∀ X, fk_C l D (fk_ty cI cT cJ) yX2_unlock wsX2_unlock rmX2_unlock [.ref (ad 0), .int p0, .int p1] (fk_kW ad cI cT S ++ X) (some (.int v)) (fk_kW ad cI cT S1 ++ X)) : fk_L l D (fk_ty cI cT cJ) yL_unlock wsL_unlock rm_L [.ref (ad 0), .int p0, .int p1, .ref o] (fk_kW ad cI cT S ++ (o, fk_ou cJ f) :: X) (some (.int 0)) (fk_kW ad cI cT S1 ++ (o, fk_ou cJ (vp_updL f 0 v.toInt64)) :: X) := by
  refine fk_L_of (cc := cL_unlock) (maxL := 5) (ret := some .int) (own := RL) (hh := [(0, 10, 13, 13), (0, 10, 17, 15)]) (by decide) rfl rfl (Nat.le_of_ble_eq_true rfl) ?_
  intro p e s m below meth c A ls hx hb hr hlocks hml hts hown htab hA hP hK hD hZ hN hl
  have hS : va_S A s.heap s.heap [] := va_S.rf
  have hl : lv_has ls 5 [(0, .ref (ad 0)), (1, .int p0), (2, .int p1), (3, .ref o)] := hl
  refine lv_aload_n hx hb dL_unlock_0 rfl (lv_at hl 3 rfl) ?_
  refine lv_iconst (v := 0) hx hb dL_unlock_1 (by decide) ?_
  refine lv_aload_n hx hb dL_unlock_2 rfl (lv_at hl 0 rfl) ?_
  refine lv_iload_n hx hb dL_unlock_3 rfl (lv_at hl 1 rfl) ?_
  refine lv_iload_n hx hb dL_unlock_4 rfl (lv_at hl 2 rfl) ?_
  refine fk_callV (As := [.int p0, .int p1]) (rest := [.int 0, .ref o]) ⟨hx, hb, hml, hown, hts⟩ (hC _) (cwV 2 hts gL_unlock_X2_unlock rfl rfl rfl (by decide +kernel) ⟨Nat.le_of_ble_eq_true rfl, Nat.le_of_ble_eq_true rfl⟩) (fk_rvK hK hP) hK hP hD hS hA rfl hl.1 rfl (Nat.le_of_ble_eq_true rfl) dL_unlock_5 ⟨Nat.le_of_ble_eq_true rfl, Nat.le_of_ble_eq_true rfl⟩ (fun H locs hP hD hS => ?_)
  refine W.eq (g2 := F0 m 8 ls [.int v, .int 0, .ref o]) rfl ?_
  refine lv_i2l hx hb dL_unlock_8 rfl ?_
  refine va_last hx hb hK hP hD hS 27 2 fk_at27 rfl fk_v01 dL_unlock_9 (fun H locs hP hD hS => ?_)
  have hP : va_P D vwCl (fk_kW ad cI cT S1 ++ (o, fk_ou cJ (vp_updL f 0 v.toInt64)) :: X) H := by rw [fk_set27] at hP; exact hP
  have hD : va_D A (fk_kW ad cI cT S1 ++ (o, fk_ou cJ (vp_updL f 0 v.toInt64)) :: X) := by rw [fk_set27] at hD; exact hD
  refine lv_goto (tgt := 21) hx hb dL_unlock_10 (by decide) ?_
  refine lv_iconst (v := 0) hx hb dL_unlock_21 (by decide) ?_
  exact fk_iretL (Nat.zero_le _) (Nat.zero_le _) hx hb hr hlocks hP hK hD hS rfl rfl dL_unlock_22

set_option maxHeartbeats 4000000 in
set_option maxRecDepth 100000 in
theorem Lx_unlock_IO (l : Launch) (D : va_G) (ad : Nat → Nat) (cI cT cJ : ClassId) (X : va_W) (S : fk_S) (o : Nat) (f : Nat → Int64) (p0 p1 : Int32) (hX : ∀ X, fk_X l D (fk_ty cI cT cJ) yX2_unlock wsX2_unlock rx_pub [.ref (ad 0), .int p0, .int p1] (fk_kW ad cI cT S ++ X) "java/lang/IndexOutOfBoundsException") : fk_L l D (fk_ty cI cT cJ) yL_unlock wsL_unlock rm_L [.ref (ad 0), .int p0, .int p1, .ref o] (fk_kW ad cI cT S ++ (o, fk_ou cJ f) :: X) (some (.int 1)) (fk_kW ad cI cT S ++ (o, fk_ou cJ f) :: X) := by
  refine fk_L_of (cc := cL_unlock) (maxL := 5) (ret := some .int) (own := RL) (hh := [(0, 10, 13, 13), (0, 10, 17, 15)]) (by decide) rfl rfl (Nat.le_of_ble_eq_true rfl) ?_
  intro p e s m below meth c A ls hx hb hr hlocks hml hts hown htab hA hP hK hD hZ hN hl
  have hS : va_S A s.heap s.heap [] := va_S.rf
  have hl : lv_has ls 5 [(0, .ref (ad 0)), (1, .int p0), (2, .int p1), (3, .ref o)] := hl
  refine lv_aload_n hx hb dL_unlock_0 rfl (lv_at hl 3 rfl) ?_
  refine lv_iconst (v := 0) hx hb dL_unlock_1 (by decide) ?_
  refine lv_aload_n hx hb dL_unlock_2 rfl (lv_at hl 0 rfl) ?_
  refine lv_iload_n hx hb dL_unlock_3 rfl (lv_at hl 1 rfl) ?_
  refine lv_iload_n hx hb dL_unlock_4 rfl (lv_at hl 2 rfl) ?_
  refine fk_xcallV (As := [.int p0, .int p1]) (rest := [.int 0, .ref o]) ⟨hx, hb, hml, hown, hts⟩ (hX _) (cwV 2 hts gL_unlock_X2_unlock rfl rfl rfl (by decide +kernel) ⟨Nat.le_of_ble_eq_true rfl, Nat.le_of_ble_eq_true rfl⟩) (fk_rvK hK hP) hK hP hD hS hA hZ rfl hl.1 rfl (Nat.le_of_ble_eq_true rfl) dL_unlock_5 ⟨Nat.le_of_ble_eq_true rfl, Nat.le_of_ble_eq_true rfl⟩ (fk_caught (x := (0, 10, 13, 13)) [] [(0, 10, 17, 15)] hown htab rfl rfl (fun _ h9 => absurd h9 List.not_mem_nil) (by decide) (by decide) (hts _ (List.mem_of_getElem? (i := 1) rfl)) hZ fk_cast1 (fun q9 H locs hP hS => ?_))
  refine lv_astore (lv' := [(4, .ref q9), (0, .ref (ad 0)), (1, .int p0), (2, .int p1), (3, .ref o)]) hx hb dL_unlock_13 hl (by decide) rfl (fun ls hl => ?_)
  refine lv_iconst (v := 1) hx hb dL_unlock_15 (by decide) ?_
  exact fk_iretL (Nat.le_of_ble_eq_true rfl) (Nat.le_of_ble_eq_true rfl) hx hb hr hlocks hP hK hD hS rfl rfl dL_unlock_16

set_option maxHeartbeats 4000000 in
set_option maxRecDepth 100000 in
theorem Lx_unlock_IS (l : Launch) (D : va_G) (ad : Nat → Nat) (cI cT cJ : ClassId) (X : va_W) (S : fk_S) (o : Nat) (f : Nat → Int64) (p0 p1 : Int32) (hX : ∀ X, fk_X l D (fk_ty cI cT cJ) yX2_unlock wsX2_unlock rx_pub [.ref (ad 0), .int p0, .int p1] (fk_kW ad cI cT S ++ X) "java/lang/IllegalStateException") : fk_L l D (fk_ty cI cT cJ) yL_unlock wsL_unlock rm_L [.ref (ad 0), .int p0, .int p1, .ref o] (fk_kW ad cI cT S ++ (o, fk_ou cJ f) :: X) (some (.int 2)) (fk_kW ad cI cT S ++ (o, fk_ou cJ f) :: X) := by
  refine fk_L_of (cc := cL_unlock) (maxL := 5) (ret := some .int) (own := RL) (hh := [(0, 10, 13, 13), (0, 10, 17, 15)]) (by decide) rfl rfl (Nat.le_of_ble_eq_true rfl) ?_
  intro p e s m below meth c A ls hx hb hr hlocks hml hts hown htab hA hP hK hD hZ hN hl
  have hS : va_S A s.heap s.heap [] := va_S.rf
  have hl : lv_has ls 5 [(0, .ref (ad 0)), (1, .int p0), (2, .int p1), (3, .ref o)] := hl
  refine lv_aload_n hx hb dL_unlock_0 rfl (lv_at hl 3 rfl) ?_
  refine lv_iconst (v := 0) hx hb dL_unlock_1 (by decide) ?_
  refine lv_aload_n hx hb dL_unlock_2 rfl (lv_at hl 0 rfl) ?_
  refine lv_iload_n hx hb dL_unlock_3 rfl (lv_at hl 1 rfl) ?_
  refine lv_iload_n hx hb dL_unlock_4 rfl (lv_at hl 2 rfl) ?_
  refine fk_xcallV (As := [.int p0, .int p1]) (rest := [.int 0, .ref o]) ⟨hx, hb, hml, hown, hts⟩ (hX _) (cwV 2 hts gL_unlock_X2_unlock rfl rfl rfl (by decide +kernel) ⟨Nat.le_of_ble_eq_true rfl, Nat.le_of_ble_eq_true rfl⟩) (fk_rvK hK hP) hK hP hD hS hA hZ rfl hl.1 rfl (Nat.le_of_ble_eq_true rfl) dL_unlock_5 ⟨Nat.le_of_ble_eq_true rfl, Nat.le_of_ble_eq_true rfl⟩ (fk_caught (x := (0, 10, 17, 15)) [(0, 10, 13, 13)] [] hown htab rfl rfl (List.forall_mem_cons.mpr ⟨⟨by decide, _, hts _ (List.mem_of_getElem? (i := 1) rfl), hN.1⟩, (fun _ h9 => absurd h9 List.not_mem_nil)⟩) (by decide) (by decide) (hts _ (List.mem_of_getElem? (i := 2) rfl)) hZ fk_cast2 (fun q9 H locs hP hS => ?_))
  refine lv_astore (lv' := [(4, .ref q9), (0, .ref (ad 0)), (1, .int p0), (2, .int p1), (3, .ref o)]) hx hb dL_unlock_17 hl (by decide) rfl (fun ls hl => ?_)
  refine lv_iconst (v := 2) hx hb dL_unlock_19 (by decide) ?_
  exact fk_iretL (Nat.le_of_ble_eq_true rfl) (Nat.le_of_ble_eq_true rfl) hx hb hr hlocks hP hK hD hS rfl rfl dL_unlock_20

set_option maxHeartbeats 4000000 in
set_option maxRecDepth 100000 in
theorem Lc_locks (l : Launch) (D : va_G) (ad : Nat → Nat) (cI cT cJ : ClassId) (X : va_W) (S : fk_S) (o : Nat) (f : Nat → Int64) (p0 : Int32) (S1 : fk_S) (v : Int32) (hC : ∀ X, fk_C l D (fk_ty cI cT cJ) yX2_locks wsX2_locks rmX2_locks [.ref (ad 0), .int p0] (fk_kW ad cI cT S ++ X) (some (.int v)) (fk_kW ad cI cT S1 ++ X)) : fk_L l D (fk_ty cI cT cJ) yL_locks wsL_locks rm_L [.ref (ad 0), .int p0, .ref o] (fk_kW ad cI cT S ++ (o, fk_ou cJ f) :: X) (some (.int 0)) (fk_kW ad cI cT S1 ++ (o, fk_ou cJ (vp_updL f 0 v.toInt64)) :: X) := by
  refine fk_L_of (cc := cL_locks) (maxL := 4) (ret := some .int) (own := RL) (hh := [(0, 9, 12, 13)]) (by decide) rfl rfl (Nat.le_of_ble_eq_true rfl) ?_
  intro p e s m below meth c A ls hx hb hr hlocks hml hts hown htab hA hP hK hD hZ hN hl
  have hS : va_S A s.heap s.heap [] := va_S.rf
  have hl : lv_has ls 4 [(0, .ref (ad 0)), (1, .int p0), (2, .ref o)] := hl
  refine lv_aload_n hx hb dL_locks_0 rfl (lv_at hl 2 rfl) ?_
  refine lv_iconst (v := 0) hx hb dL_locks_1 (by decide) ?_
  refine lv_aload_n hx hb dL_locks_2 rfl (lv_at hl 0 rfl) ?_
  refine lv_iload_n hx hb dL_locks_3 rfl (lv_at hl 1 rfl) ?_
  refine fk_callV (As := [.int p0]) (rest := [.int 0, .ref o]) ⟨hx, hb, hml, hown, hts⟩ (hC _) (cwV 1 hts gL_locks_X2_locks rfl rfl rfl (by decide +kernel) ⟨Nat.le_of_ble_eq_true rfl, Nat.le_of_ble_eq_true rfl⟩) (fk_rvK hK hP) hK hP hD hS hA rfl hl.1 rfl (Nat.le_of_ble_eq_true rfl) dL_locks_4 ⟨Nat.le_of_ble_eq_true rfl, Nat.le_of_ble_eq_true rfl⟩ (fun H locs hP hD hS => ?_)
  refine W.eq (g2 := F0 m 7 ls [.int v, .int 0, .ref o]) rfl ?_
  refine lv_i2l hx hb dL_locks_7 rfl ?_
  refine va_last hx hb hK hP hD hS 27 2 fk_at27 rfl fk_v01 dL_locks_8 (fun H locs hP hD hS => ?_)
  have hP : va_P D vwCl (fk_kW ad cI cT S1 ++ (o, fk_ou cJ (vp_updL f 0 v.toInt64)) :: X) H := by rw [fk_set27] at hP; exact hP
  have hD : va_D A (fk_kW ad cI cT S1 ++ (o, fk_ou cJ (vp_updL f 0 v.toInt64)) :: X) := by rw [fk_set27] at hD; exact hD
  refine lv_goto (tgt := 15) hx hb dL_locks_9 (by decide) ?_
  refine lv_iconst (v := 0) hx hb dL_locks_15 (by decide) ?_
  exact fk_iretL (Nat.zero_le _) (Nat.zero_le _) hx hb hr hlocks hP hK hD hS rfl rfl dL_locks_16

set_option maxHeartbeats 4000000 in
set_option maxRecDepth 100000 in
theorem Lx_locks_IO (l : Launch) (D : va_G) (ad : Nat → Nat) (cI cT cJ : ClassId) (X : va_W) (S : fk_S) (o : Nat) (f : Nat → Int64) (p0 : Int32) (hX : ∀ X, fk_X l D (fk_ty cI cT cJ) yX2_locks wsX2_locks rx_pub [.ref (ad 0), .int p0] (fk_kW ad cI cT S ++ X) "java/lang/IndexOutOfBoundsException") : fk_L l D (fk_ty cI cT cJ) yL_locks wsL_locks rm_L [.ref (ad 0), .int p0, .ref o] (fk_kW ad cI cT S ++ (o, fk_ou cJ f) :: X) (some (.int 1)) (fk_kW ad cI cT S ++ (o, fk_ou cJ f) :: X) := by
  refine fk_L_of (cc := cL_locks) (maxL := 4) (ret := some .int) (own := RL) (hh := [(0, 9, 12, 13)]) (by decide) rfl rfl (Nat.le_of_ble_eq_true rfl) ?_
  intro p e s m below meth c A ls hx hb hr hlocks hml hts hown htab hA hP hK hD hZ hN hl
  have hS : va_S A s.heap s.heap [] := va_S.rf
  have hl : lv_has ls 4 [(0, .ref (ad 0)), (1, .int p0), (2, .ref o)] := hl
  refine lv_aload_n hx hb dL_locks_0 rfl (lv_at hl 2 rfl) ?_
  refine lv_iconst (v := 0) hx hb dL_locks_1 (by decide) ?_
  refine lv_aload_n hx hb dL_locks_2 rfl (lv_at hl 0 rfl) ?_
  refine lv_iload_n hx hb dL_locks_3 rfl (lv_at hl 1 rfl) ?_
  refine fk_xcallV (As := [.int p0]) (rest := [.int 0, .ref o]) ⟨hx, hb, hml, hown, hts⟩ (hX _) (cwV 1 hts gL_locks_X2_locks rfl rfl rfl (by decide +kernel) ⟨Nat.le_of_ble_eq_true rfl, Nat.le_of_ble_eq_true rfl⟩) (fk_rvK hK hP) hK hP hD hS hA hZ rfl hl.1 rfl (Nat.le_of_ble_eq_true rfl) dL_locks_4 ⟨Nat.le_of_ble_eq_true rfl, Nat.le_of_ble_eq_true rfl⟩ (fk_caught (x := (0, 9, 12, 13)) [] [] hown htab rfl rfl (fun _ h9 => absurd h9 List.not_mem_nil) (by decide) (by decide) (hts _ (List.mem_of_getElem? (i := 1) rfl)) hZ fk_cast1 (fun q9 H locs hP hS => ?_))
  refine lv_astore_n (lv' := [(3, .ref q9), (0, .ref (ad 0)), (1, .int p0), (2, .ref o)]) hx hb dL_locks_12 rfl hl (by decide) rfl (fun ls hl => ?_)
  refine lv_iconst (v := 1) hx hb dL_locks_13 (by decide) ?_
  exact fk_iretL (Nat.le_of_ble_eq_true rfl) (Nat.le_of_ble_eq_true rfl) hx hb hr hlocks hP hK hD hS rfl rfl dL_locks_14

set_option maxHeartbeats 4000000 in
set_option maxRecDepth 100000 in
theorem Lc_lockAt (l : Launch) (D : va_G) (ad : Nat → Nat) (cI cT cJ : ClassId) (X : va_W) (S : fk_S) (o : Nat) (f : Nat → Int64) (p0 p1 : Int32) (S1 : fk_S) (v : Int32) (hC : ∀ X, fk_C l D (fk_ty cI cT cJ) yX2_lockAt wsX2_lockAt rmX2_lockAt [.ref (ad 0), .int p0, .int p1] (fk_kW ad cI cT S ++ X) (some (.int v)) (fk_kW ad cI cT S1 ++ X)) : fk_L l D (fk_ty cI cT cJ) yL_lockAt wsL_lockAt rm_L [.ref (ad 0), .int p0, .int p1, .ref o] (fk_kW ad cI cT S ++ (o, fk_ou cJ f) :: X) (some (.int 0)) (fk_kW ad cI cT S1 ++ (o, fk_ou cJ (vp_updL f 0 v.toInt64)) :: X) := by
  refine fk_L_of (cc := cL_lockAt) (maxL := 5) (ret := some .int) (own := RL) (hh := [(0, 10, 13, 13)]) (by decide) rfl rfl (Nat.le_of_ble_eq_true rfl) ?_
  intro p e s m below meth c A ls hx hb hr hlocks hml hts hown htab hA hP hK hD hZ hN hl
  have hS : va_S A s.heap s.heap [] := va_S.rf
  have hl : lv_has ls 5 [(0, .ref (ad 0)), (1, .int p0), (2, .int p1), (3, .ref o)] := hl
  refine lv_aload_n hx hb dL_lockAt_0 rfl (lv_at hl 3 rfl) ?_
  refine lv_iconst (v := 0) hx hb dL_lockAt_1 (by decide) ?_
  refine lv_aload_n hx hb dL_lockAt_2 rfl (lv_at hl 0 rfl) ?_
  refine lv_iload_n hx hb dL_lockAt_3 rfl (lv_at hl 1 rfl) ?_
  refine lv_iload_n hx hb dL_lockAt_4 rfl (lv_at hl 2 rfl) ?_
  refine fk_callV (As := [.int p0, .int p1]) (rest := [.int 0, .ref o]) ⟨hx, hb, hml, hown, hts⟩ (hC _) (cwV 2 hts gL_lockAt_X2_lockAt rfl rfl rfl (by decide +kernel) ⟨Nat.le_of_ble_eq_true rfl, Nat.le_of_ble_eq_true rfl⟩) (fk_rvK hK hP) hK hP hD hS hA rfl hl.1 rfl (Nat.le_of_ble_eq_true rfl) dL_lockAt_5 ⟨Nat.le_of_ble_eq_true rfl, Nat.le_of_ble_eq_true rfl⟩ (fun H locs hP hD hS => ?_)
  refine W.eq (g2 := F0 m 8 ls [.int v, .int 0, .ref o]) rfl ?_
  refine lv_i2l hx hb dL_lockAt_8 rfl ?_
  refine va_last hx hb hK hP hD hS 27 2 fk_at27 rfl fk_v01 dL_lockAt_9 (fun H locs hP hD hS => ?_)
  have hP : va_P D vwCl (fk_kW ad cI cT S1 ++ (o, fk_ou cJ (vp_updL f 0 v.toInt64)) :: X) H := by rw [fk_set27] at hP; exact hP
  have hD : va_D A (fk_kW ad cI cT S1 ++ (o, fk_ou cJ (vp_updL f 0 v.toInt64)) :: X) := by rw [fk_set27] at hD; exact hD
  refine lv_goto (tgt := 17) hx hb dL_lockAt_10 (by decide) ?_
  refine lv_iconst (v := 0) hx hb dL_lockAt_17 (by decide) ?_
  exact fk_iretL (Nat.zero_le _) (Nat.zero_le _) hx hb hr hlocks hP hK hD hS rfl rfl dL_lockAt_18

set_option maxHeartbeats 4000000 in
set_option maxRecDepth 100000 in
theorem Lx_lockAt_IO (l : Launch) (D : va_G) (ad : Nat → Nat) (cI cT cJ : ClassId) (X : va_W) (S : fk_S) (o : Nat) (f : Nat → Int64) (p0 p1 : Int32) (hX : ∀ X, fk_X l D (fk_ty cI cT cJ) yX2_lockAt wsX2_lockAt rx_pub [.ref (ad 0), .int p0, .int p1] (fk_kW ad cI cT S ++ X) "java/lang/IndexOutOfBoundsException") : fk_L l D (fk_ty cI cT cJ) yL_lockAt wsL_lockAt rm_L [.ref (ad 0), .int p0, .int p1, .ref o] (fk_kW ad cI cT S ++ (o, fk_ou cJ f) :: X) (some (.int 1)) (fk_kW ad cI cT S ++ (o, fk_ou cJ f) :: X) := by
  refine fk_L_of (cc := cL_lockAt) (maxL := 5) (ret := some .int) (own := RL) (hh := [(0, 10, 13, 13)]) (by decide) rfl rfl (Nat.le_of_ble_eq_true rfl) ?_
  intro p e s m below meth c A ls hx hb hr hlocks hml hts hown htab hA hP hK hD hZ hN hl
  have hS : va_S A s.heap s.heap [] := va_S.rf
  have hl : lv_has ls 5 [(0, .ref (ad 0)), (1, .int p0), (2, .int p1), (3, .ref o)] := hl
  refine lv_aload_n hx hb dL_lockAt_0 rfl (lv_at hl 3 rfl) ?_
  refine lv_iconst (v := 0) hx hb dL_lockAt_1 (by decide) ?_
  refine lv_aload_n hx hb dL_lockAt_2 rfl (lv_at hl 0 rfl) ?_
  refine lv_iload_n hx hb dL_lockAt_3 rfl (lv_at hl 1 rfl) ?_
  refine lv_iload_n hx hb dL_lockAt_4 rfl (lv_at hl 2 rfl) ?_
  refine fk_xcallV (As := [.int p0, .int p1]) (rest := [.int 0, .ref o]) ⟨hx, hb, hml, hown, hts⟩ (hX _) (cwV 2 hts gL_lockAt_X2_lockAt rfl rfl rfl (by decide +kernel) ⟨Nat.le_of_ble_eq_true rfl, Nat.le_of_ble_eq_true rfl⟩) (fk_rvK hK hP) hK hP hD hS hA hZ rfl hl.1 rfl (Nat.le_of_ble_eq_true rfl) dL_lockAt_5 ⟨Nat.le_of_ble_eq_true rfl, Nat.le_of_ble_eq_true rfl⟩ (fk_caught (x := (0, 10, 13, 13)) [] [] hown htab rfl rfl (fun _ h9 => absurd h9 List.not_mem_nil) (by decide) (by decide) (hts _ (List.mem_of_getElem? (i := 1) rfl)) hZ fk_cast1 (fun q9 H locs hP hS => ?_))
  refine lv_astore (lv' := [(4, .ref q9), (0, .ref (ad 0)), (1, .int p0), (2, .int p1), (3, .ref o)]) hx hb dL_lockAt_13 hl (by decide) rfl (fun ls hl => ?_)
  refine lv_iconst (v := 1) hx hb dL_lockAt_15 (by decide) ?_
  exact fk_iretL (Nat.le_of_ble_eq_true rfl) (Nat.le_of_ble_eq_true rfl) hx hb hr hlocks hP hK hD hS rfl rfl dL_lockAt_16

set_option maxHeartbeats 4000000 in
set_option maxRecDepth 100000 in
theorem Lc_blockedBy (l : Launch) (D : va_G) (ad : Nat → Nat) (cI cT cJ : ClassId) (X : va_W) (S : fk_S) (o : Nat) (f : Nat → Int64) (p0 : Int32) (S1 : fk_S) (v : Int32) (hC : ∀ X, fk_C l D (fk_ty cI cT cJ) yX2_blockedBy wsX2_blockedBy rmX2_blockedBy [.ref (ad 0), .int p0] (fk_kW ad cI cT S ++ X) (some (.int v)) (fk_kW ad cI cT S1 ++ X)) : fk_L l D (fk_ty cI cT cJ) yL_blockedBy wsL_blockedBy rm_L [.ref (ad 0), .int p0, .ref o] (fk_kW ad cI cT S ++ (o, fk_ou cJ f) :: X) (some (.int 0)) (fk_kW ad cI cT S1 ++ (o, fk_ou cJ (vp_updL f 0 v.toInt64)) :: X) := by
  refine fk_L_of (cc := cL_blockedBy) (maxL := 4) (ret := some .int) (own := RL) (hh := [(0, 9, 12, 13)]) (by decide) rfl rfl (Nat.le_of_ble_eq_true rfl) ?_
  intro p e s m below meth c A ls hx hb hr hlocks hml hts hown htab hA hP hK hD hZ hN hl
  have hS : va_S A s.heap s.heap [] := va_S.rf
  have hl : lv_has ls 4 [(0, .ref (ad 0)), (1, .int p0), (2, .ref o)] := hl
  refine lv_aload_n hx hb dL_blockedBy_0 rfl (lv_at hl 2 rfl) ?_
  refine lv_iconst (v := 0) hx hb dL_blockedBy_1 (by decide) ?_
  refine lv_aload_n hx hb dL_blockedBy_2 rfl (lv_at hl 0 rfl) ?_
  refine lv_iload_n hx hb dL_blockedBy_3 rfl (lv_at hl 1 rfl) ?_
  refine fk_callV (As := [.int p0]) (rest := [.int 0, .ref o]) ⟨hx, hb, hml, hown, hts⟩ (hC _) (cwV 1 hts gL_blockedBy_X2_blockedBy rfl rfl rfl (by decide +kernel) ⟨Nat.le_of_ble_eq_true rfl, Nat.le_of_ble_eq_true rfl⟩) (fk_rvK hK hP) hK hP hD hS hA rfl hl.1 rfl (Nat.le_of_ble_eq_true rfl) dL_blockedBy_4 ⟨Nat.le_of_ble_eq_true rfl, Nat.le_of_ble_eq_true rfl⟩ (fun H locs hP hD hS => ?_)
  refine W.eq (g2 := F0 m 7 ls [.int v, .int 0, .ref o]) rfl ?_
  refine lv_i2l hx hb dL_blockedBy_7 rfl ?_
  refine va_last hx hb hK hP hD hS 27 2 fk_at27 rfl fk_v01 dL_blockedBy_8 (fun H locs hP hD hS => ?_)
  have hP : va_P D vwCl (fk_kW ad cI cT S1 ++ (o, fk_ou cJ (vp_updL f 0 v.toInt64)) :: X) H := by rw [fk_set27] at hP; exact hP
  have hD : va_D A (fk_kW ad cI cT S1 ++ (o, fk_ou cJ (vp_updL f 0 v.toInt64)) :: X) := by rw [fk_set27] at hD; exact hD
  refine lv_goto (tgt := 15) hx hb dL_blockedBy_9 (by decide) ?_
  refine lv_iconst (v := 0) hx hb dL_blockedBy_15 (by decide) ?_
  exact fk_iretL (Nat.zero_le _) (Nat.zero_le _) hx hb hr hlocks hP hK hD hS rfl rfl dL_blockedBy_16

set_option maxHeartbeats 4000000 in
set_option maxRecDepth 100000 in
theorem Lx_blockedBy_IO (l : Launch) (D : va_G) (ad : Nat → Nat) (cI cT cJ : ClassId) (X : va_W) (S : fk_S) (o : Nat) (f : Nat → Int64) (p0 : Int32) (hX : ∀ X, fk_X l D (fk_ty cI cT cJ) yX2_blockedBy wsX2_blockedBy rx_pub [.ref (ad 0), .int p0] (fk_kW ad cI cT S ++ X) "java/lang/IndexOutOfBoundsException") : fk_L l D (fk_ty cI cT cJ) yL_blockedBy wsL_blockedBy rm_L [.ref (ad 0), .int p0, .ref o] (fk_kW ad cI cT S ++ (o, fk_ou cJ f) :: X) (some (.int 1)) (fk_kW ad cI cT S ++ (o, fk_ou cJ f) :: X) := by
  refine fk_L_of (cc := cL_blockedBy) (maxL := 4) (ret := some .int) (own := RL) (hh := [(0, 9, 12, 13)]) (by decide) rfl rfl (Nat.le_of_ble_eq_true rfl) ?_
  intro p e s m below meth c A ls hx hb hr hlocks hml hts hown htab hA hP hK hD hZ hN hl
  have hS : va_S A s.heap s.heap [] := va_S.rf
  have hl : lv_has ls 4 [(0, .ref (ad 0)), (1, .int p0), (2, .ref o)] := hl
  refine lv_aload_n hx hb dL_blockedBy_0 rfl (lv_at hl 2 rfl) ?_
  refine lv_iconst (v := 0) hx hb dL_blockedBy_1 (by decide) ?_
  refine lv_aload_n hx hb dL_blockedBy_2 rfl (lv_at hl 0 rfl) ?_
  refine lv_iload_n hx hb dL_blockedBy_3 rfl (lv_at hl 1 rfl) ?_
  refine fk_xcallV (As := [.int p0]) (rest := [.int 0, .ref o]) ⟨hx, hb, hml, hown, hts⟩ (hX _) (cwV 1 hts gL_blockedBy_X2_blockedBy rfl rfl rfl (by decide +kernel) ⟨Nat.le_of_ble_eq_true rfl, Nat.le_of_ble_eq_true rfl⟩) (fk_rvK hK hP) hK hP hD hS hA hZ rfl hl.1 rfl (Nat.le_of_ble_eq_true rfl) dL_blockedBy_4 ⟨Nat.le_of_ble_eq_true rfl, Nat.le_of_ble_eq_true rfl⟩ (fk_caught (x := (0, 9, 12, 13)) [] [] hown htab rfl rfl (fun _ h9 => absurd h9 List.not_mem_nil) (by decide) (by decide) (hts _ (List.mem_of_getElem? (i := 1) rfl)) hZ fk_cast1 (fun q9 H locs hP hS => ?_))
  refine lv_astore_n (lv' := [(3, .ref q9), (0, .ref (ad 0)), (1, .int p0), (2, .ref o)]) hx hb dL_blockedBy_12 rfl hl (by decide) rfl (fun ls hl => ?_)
  refine lv_iconst (v := 1) hx hb dL_blockedBy_13 (by decide) ?_
  exact fk_iretL (Nat.le_of_ble_eq_true rfl) (Nat.le_of_ble_eq_true rfl) hx hb hr hlocks hP hK hD hS rfl rfl dL_blockedBy_14

set_option maxHeartbeats 4000000 in
set_option maxRecDepth 100000 in
theorem Lc_interrupt (l : Launch) (D : va_G) (ad : Nat → Nat) (cI cT cJ : ClassId) (X : va_W) (S : fk_S) (p0 : Int32) (S1 : fk_S) (hC : ∀ X, fk_C l D (fk_ty cI cT cJ) yX2_interrupt wsX2_interrupt rmX2_interrupt [.ref (ad 0), .int p0] (fk_kW ad cI cT S ++ X) none (fk_kW ad cI cT S1 ++ X)) : fk_L l D (fk_ty cI cT cJ) yL_interrupt wsL_interrupt rm_L [.ref (ad 0), .int p0] (fk_kW ad cI cT S ++ X) (some (.int 0)) (fk_kW ad cI cT S1 ++ X) := by
  refine fk_L_of (cc := cL_interrupt) (maxL := 3) (ret := some .int) (own := RL) (hh := [(0, 5, 8, 13), (0, 5, 11, 15)]) (by decide) rfl rfl (Nat.le_of_ble_eq_true rfl) ?_
  intro p e s m below meth c A ls hx hb hr hlocks hml hts hown htab hA hP hK hD hZ hN hl
  have hS : va_S A s.heap s.heap [] := va_S.rf
  have hl : lv_has ls 3 [(0, .ref (ad 0)), (1, .int p0)] := hl
  refine lv_aload_n hx hb dL_interrupt_0 rfl (lv_at hl 0 rfl) ?_
  refine lv_iload_n hx hb dL_interrupt_1 rfl (lv_at hl 1 rfl) ?_
  refine fk_callV (As := [.int p0]) (rest := []) ⟨hx, hb, hml, hown, hts⟩ (hC _) (cwV 1 hts gL_interrupt_X2_interrupt rfl rfl rfl (by decide +kernel) ⟨Nat.le_of_ble_eq_true rfl, Nat.le_of_ble_eq_true rfl⟩) (fk_rvK hK hP) hK hP hD hS hA rfl hl.1 rfl (Nat.le_of_ble_eq_true rfl) dL_interrupt_2 ⟨Nat.le_of_ble_eq_true rfl, Nat.le_of_ble_eq_true rfl⟩ (fun H locs hP hD hS => ?_)
  refine W.eq (g2 := F0 m 5 ls []) rfl ?_
  refine lv_goto (tgt := 14) hx hb dL_interrupt_5 (by decide) ?_
  refine lv_iconst (v := 0) hx hb dL_interrupt_14 (by decide) ?_
  exact fk_iretL (Nat.zero_le _) (Nat.zero_le _) hx hb hr hlocks hP hK hD hS rfl rfl dL_interrupt_15

set_option maxHeartbeats 4000000 in
set_option maxRecDepth 100000 in
theorem Lx_interrupt_IO (l : Launch) (D : va_G) (ad : Nat → Nat) (cI cT cJ : ClassId) (X : va_W) (S : fk_S) (p0 : Int32) (hX : ∀ X, fk_X l D (fk_ty cI cT cJ) yX2_interrupt wsX2_interrupt rx_pub [.ref (ad 0), .int p0] (fk_kW ad cI cT S ++ X) "java/lang/IndexOutOfBoundsException") : fk_L l D (fk_ty cI cT cJ) yL_interrupt wsL_interrupt rm_L [.ref (ad 0), .int p0] (fk_kW ad cI cT S ++ X) (some (.int 1)) (fk_kW ad cI cT S ++ X) := by
  refine fk_L_of (cc := cL_interrupt) (maxL := 3) (ret := some .int) (own := RL) (hh := [(0, 5, 8, 13), (0, 5, 11, 15)]) (by decide) rfl rfl (Nat.le_of_ble_eq_true rfl) ?_
  intro p e s m below meth c A ls hx hb hr hlocks hml hts hown htab hA hP hK hD hZ hN hl
  have hS : va_S A s.heap s.heap [] := va_S.rf
  have hl : lv_has ls 3 [(0, .ref (ad 0)), (1, .int p0)] := hl
  refine lv_aload_n hx hb dL_interrupt_0 rfl (lv_at hl 0 rfl) ?_
  refine lv_iload_n hx hb dL_interrupt_1 rfl (lv_at hl 1 rfl) ?_
  refine fk_xcallV (As := [.int p0]) (rest := []) ⟨hx, hb, hml, hown, hts⟩ (hX _) (cwV 1 hts gL_interrupt_X2_interrupt rfl rfl rfl (by decide +kernel) ⟨Nat.le_of_ble_eq_true rfl, Nat.le_of_ble_eq_true rfl⟩) (fk_rvK hK hP) hK hP hD hS hA hZ rfl hl.1 rfl (Nat.le_of_ble_eq_true rfl) dL_interrupt_2 ⟨Nat.le_of_ble_eq_true rfl, Nat.le_of_ble_eq_true rfl⟩ (fk_caught (x := (0, 5, 8, 13)) [] [(0, 5, 11, 15)] hown htab rfl rfl (fun _ h9 => absurd h9 List.not_mem_nil) (by decide) (by decide) (hts _ (List.mem_of_getElem? (i := 1) rfl)) hZ fk_cast1 (fun q9 H locs hP hS => ?_))
  refine lv_astore_n (lv' := [(2, .ref q9), (0, .ref (ad 0)), (1, .int p0)]) hx hb dL_interrupt_8 rfl hl (by decide) rfl (fun ls hl => ?_)
  refine lv_iconst (v := 1) hx hb dL_interrupt_9 (by decide) ?_
  exact fk_iretL (Nat.le_of_ble_eq_true rfl) (Nat.le_of_ble_eq_true rfl) hx hb hr hlocks hP hK hD hS rfl rfl dL_interrupt_10

set_option maxHeartbeats 4000000 in
set_option maxRecDepth 100000 in
theorem Lx_interrupt_IS (l : Launch) (D : va_G) (ad : Nat → Nat) (cI cT cJ : ClassId) (X : va_W) (S : fk_S) (p0 : Int32) (hX : ∀ X, fk_X l D (fk_ty cI cT cJ) yX2_interrupt wsX2_interrupt rx_pub [.ref (ad 0), .int p0] (fk_kW ad cI cT S ++ X) "java/lang/IllegalStateException") : fk_L l D (fk_ty cI cT cJ) yL_interrupt wsL_interrupt rm_L [.ref (ad 0), .int p0] (fk_kW ad cI cT S ++ X) (some (.int 2)) (fk_kW ad cI cT S ++ X) := by
  refine fk_L_of (cc := cL_interrupt) (maxL := 3) (ret := some .int) (own := RL) (hh := [(0, 5, 8, 13), (0, 5, 11, 15)]) (by decide) rfl rfl (Nat.le_of_ble_eq_true rfl) ?_
  intro p e s m below meth c A ls hx hb hr hlocks hml hts hown htab hA hP hK hD hZ hN hl
  have hS : va_S A s.heap s.heap [] := va_S.rf
  have hl : lv_has ls 3 [(0, .ref (ad 0)), (1, .int p0)] := hl
  refine lv_aload_n hx hb dL_interrupt_0 rfl (lv_at hl 0 rfl) ?_
  refine lv_iload_n hx hb dL_interrupt_1 rfl (lv_at hl 1 rfl) ?_
  refine fk_xcallV (As := [.int p0]) (rest := []) ⟨hx, hb, hml, hown, hts⟩ (hX _) (cwV 1 hts gL_interrupt_X2_interrupt rfl rfl rfl (by decide +kernel) ⟨Nat.le_of_ble_eq_true rfl, Nat.le_of_ble_eq_true rfl⟩) (fk_rvK hK hP) hK hP hD hS hA hZ rfl hl.1 rfl (Nat.le_of_ble_eq_true rfl) dL_interrupt_2 ⟨Nat.le_of_ble_eq_true rfl, Nat.le_of_ble_eq_true rfl⟩ (fk_caught (x := (0, 5, 11, 15)) [(0, 5, 8, 13)] [] hown htab rfl rfl (List.forall_mem_cons.mpr ⟨⟨by decide, _, hts _ (List.mem_of_getElem? (i := 1) rfl), hN.1⟩, (fun _ h9 => absurd h9 List.not_mem_nil)⟩) (by decide) (by decide) (hts _ (List.mem_of_getElem? (i := 2) rfl)) hZ fk_cast2 (fun q9 H locs hP hS => ?_))
  refine lv_astore_n (lv' := [(2, .ref q9), (0, .ref (ad 0)), (1, .int p0)]) hx hb dL_interrupt_11 rfl hl (by decide) rfl (fun ls hl => ?_)
  refine lv_iconst (v := 2) hx hb dL_interrupt_12 (by decide) ?_
  exact fk_iretL (Nat.le_of_ble_eq_true rfl) (Nat.le_of_ble_eq_true rfl) hx hb hr hlocks hP hK hD hS rfl rfl dL_interrupt_13

set_option maxHeartbeats 4000000 in
set_option maxRecDepth 100000 in
theorem Lc_exit (l : Launch) (D : va_G) (ad : Nat → Nat) (cI cT cJ : ClassId) (X : va_W) (S : fk_S) (o : Nat) (f : Nat → Int64) (p0 : Int32) (S1 : fk_S) (v : Int32) (hC : ∀ X, fk_C l D (fk_ty cI cT cJ) yX2_exit wsX2_exit rmX2_exit [.ref (ad 0), .int p0] (fk_kW ad cI cT S ++ X) (some (.int v)) (fk_kW ad cI cT S1 ++ X)) : fk_L l D (fk_ty cI cT cJ) yL_exit wsL_exit rm_L [.ref (ad 0), .int p0, .ref o] (fk_kW ad cI cT S ++ (o, fk_ou cJ f) :: X) (some (.int 0)) (fk_kW ad cI cT S1 ++ (o, fk_ou cJ (vp_updL f 0 v.toInt64)) :: X) := by
  refine fk_L_of (cc := cL_exit) (maxL := 4) (ret := some .int) (own := RL) (hh := [(0, 9, 12, 13), (0, 9, 15, 15)]) (by decide) rfl rfl (Nat.le_of_ble_eq_true rfl) ?_
  intro p e s m below meth c A ls hx hb hr hlocks hml hts hown htab hA hP hK hD hZ hN hl
  have hS : va_S A s.heap s.heap [] := va_S.rf
  have hl : lv_has ls 4 [(0, .ref (ad 0)), (1, .int p0), (2, .ref o)] := hl
  refine lv_aload_n hx hb dL_exit_0 rfl (lv_at hl 2 rfl) ?_
  refine lv_iconst (v := 0) hx hb dL_exit_1 (by decide) ?_
  refine lv_aload_n hx hb dL_exit_2 rfl (lv_at hl 0 rfl) ?_
  refine lv_iload_n hx hb dL_exit_3 rfl (lv_at hl 1 rfl) ?_
  refine fk_callV (As := [.int p0]) (rest := [.int 0, .ref o]) ⟨hx, hb, hml, hown, hts⟩ (hC _) (cwV 1 hts gL_exit_X2_exit rfl rfl rfl (by decide +kernel) ⟨Nat.le_of_ble_eq_true rfl, Nat.le_of_ble_eq_true rfl⟩) (fk_rvK hK hP) hK hP hD hS hA rfl hl.1 rfl (Nat.le_of_ble_eq_true rfl) dL_exit_4 ⟨Nat.le_of_ble_eq_true rfl, Nat.le_of_ble_eq_true rfl⟩ (fun H locs hP hD hS => ?_)
  refine W.eq (g2 := F0 m 7 ls [.int v, .int 0, .ref o]) rfl ?_
  refine lv_i2l hx hb dL_exit_7 rfl ?_
  refine va_last hx hb hK hP hD hS 27 2 fk_at27 rfl fk_v01 dL_exit_8 (fun H locs hP hD hS => ?_)
  have hP : va_P D vwCl (fk_kW ad cI cT S1 ++ (o, fk_ou cJ (vp_updL f 0 v.toInt64)) :: X) H := by rw [fk_set27] at hP; exact hP
  have hD : va_D A (fk_kW ad cI cT S1 ++ (o, fk_ou cJ (vp_updL f 0 v.toInt64)) :: X) := by rw [fk_set27] at hD; exact hD
  refine lv_goto (tgt := 18) hx hb dL_exit_9 (by decide) ?_
  refine lv_iconst (v := 0) hx hb dL_exit_18 (by decide) ?_
  exact fk_iretL (Nat.zero_le _) (Nat.zero_le _) hx hb hr hlocks hP hK hD hS rfl rfl dL_exit_19

set_option maxHeartbeats 4000000 in
set_option maxRecDepth 100000 in
theorem Lx_exit_IO (l : Launch) (D : va_G) (ad : Nat → Nat) (cI cT cJ : ClassId) (X : va_W) (S : fk_S) (o : Nat) (f : Nat → Int64) (p0 : Int32) (hX : ∀ X, fk_X l D (fk_ty cI cT cJ) yX2_exit wsX2_exit rx_pub [.ref (ad 0), .int p0] (fk_kW ad cI cT S ++ X) "java/lang/IndexOutOfBoundsException") : fk_L l D (fk_ty cI cT cJ) yL_exit wsL_exit rm_L [.ref (ad 0), .int p0, .ref o] (fk_kW ad cI cT S ++ (o, fk_ou cJ f) :: X) (some (.int 1)) (fk_kW ad cI cT S ++ (o, fk_ou cJ f) :: X) := by
  refine fk_L_of (cc := cL_exit) (maxL := 4) (ret := some .int) (own := RL) (hh := [(0, 9, 12, 13), (0, 9, 15, 15)]) (by decide) rfl rfl (Nat.le_of_ble_eq_true rfl) ?_
  intro p e s m below meth c A ls hx hb hr hlocks hml hts hown htab hA hP hK hD hZ hN hl
  have hS : va_S A s.heap s.heap [] := va_S.rf
  have hl : lv_has ls 4 [(0, .ref (ad 0)), (1, .int p0), (2, .ref o)] := hl
  refine lv_aload_n hx hb dL_exit_0 rfl (lv_at hl 2 rfl) ?_
  refine lv_iconst (v := 0) hx hb dL_exit_1 (by decide) ?_
  refine lv_aload_n hx hb dL_exit_2 rfl (lv_at hl 0 rfl) ?_
  refine lv_iload_n hx hb dL_exit_3 rfl (lv_at hl 1 rfl) ?_
  refine fk_xcallV (As := [.int p0]) (rest := [.int 0, .ref o]) ⟨hx, hb, hml, hown, hts⟩ (hX _) (cwV 1 hts gL_exit_X2_exit rfl rfl rfl (by decide +kernel) ⟨Nat.le_of_ble_eq_true rfl, Nat.le_of_ble_eq_true rfl⟩) (fk_rvK hK hP) hK hP hD hS hA hZ rfl hl.1 rfl (Nat.le_of_ble_eq_true rfl) dL_exit_4 ⟨Nat.le_of_ble_eq_true rfl, Nat.le_of_ble_eq_true rfl⟩ (fk_caught (x := (0, 9, 12, 13)) [] [(0, 9, 15, 15)] hown htab rfl rfl (fun _ h9 => absurd h9 List.not_mem_nil) (by decide) (by decide) (hts _ (List.mem_of_getElem? (i := 1) rfl)) hZ fk_cast1 (fun q9 H locs hP hS => ?_))
  refine lv_astore_n (lv' := [(3, .ref q9), (0, .ref (ad 0)), (1, .int p0), (2, .ref o)]) hx hb dL_exit_12 rfl hl (by decide) rfl (fun ls hl => ?_)
  refine lv_iconst (v := 1) hx hb dL_exit_13 (by decide) ?_
  exact fk_iretL (Nat.le_of_ble_eq_true rfl) (Nat.le_of_ble_eq_true rfl) hx hb hr hlocks hP hK hD hS rfl rfl dL_exit_14

set_option maxHeartbeats 4000000 in
set_option maxRecDepth 100000 in
theorem Lx_exit_IS (l : Launch) (D : va_G) (ad : Nat → Nat) (cI cT cJ : ClassId) (X : va_W) (S : fk_S) (o : Nat) (f : Nat → Int64) (p0 : Int32) (hX : ∀ X, fk_X l D (fk_ty cI cT cJ) yX2_exit wsX2_exit rx_pub [.ref (ad 0), .int p0] (fk_kW ad cI cT S ++ X) "java/lang/IllegalStateException") : fk_L l D (fk_ty cI cT cJ) yL_exit wsL_exit rm_L [.ref (ad 0), .int p0, .ref o] (fk_kW ad cI cT S ++ (o, fk_ou cJ f) :: X) (some (.int 2)) (fk_kW ad cI cT S ++ (o, fk_ou cJ f) :: X) := by
  refine fk_L_of (cc := cL_exit) (maxL := 4) (ret := some .int) (own := RL) (hh := [(0, 9, 12, 13), (0, 9, 15, 15)]) (by decide) rfl rfl (Nat.le_of_ble_eq_true rfl) ?_
  intro p e s m below meth c A ls hx hb hr hlocks hml hts hown htab hA hP hK hD hZ hN hl
  have hS : va_S A s.heap s.heap [] := va_S.rf
  have hl : lv_has ls 4 [(0, .ref (ad 0)), (1, .int p0), (2, .ref o)] := hl
  refine lv_aload_n hx hb dL_exit_0 rfl (lv_at hl 2 rfl) ?_
  refine lv_iconst (v := 0) hx hb dL_exit_1 (by decide) ?_
  refine lv_aload_n hx hb dL_exit_2 rfl (lv_at hl 0 rfl) ?_
  refine lv_iload_n hx hb dL_exit_3 rfl (lv_at hl 1 rfl) ?_
  refine fk_xcallV (As := [.int p0]) (rest := [.int 0, .ref o]) ⟨hx, hb, hml, hown, hts⟩ (hX _) (cwV 1 hts gL_exit_X2_exit rfl rfl rfl (by decide +kernel) ⟨Nat.le_of_ble_eq_true rfl, Nat.le_of_ble_eq_true rfl⟩) (fk_rvK hK hP) hK hP hD hS hA hZ rfl hl.1 rfl (Nat.le_of_ble_eq_true rfl) dL_exit_4 ⟨Nat.le_of_ble_eq_true rfl, Nat.le_of_ble_eq_true rfl⟩ (fk_caught (x := (0, 9, 15, 15)) [(0, 9, 12, 13)] [] hown htab rfl rfl (List.forall_mem_cons.mpr ⟨⟨by decide, _, hts _ (List.mem_of_getElem? (i := 1) rfl), hN.1⟩, (fun _ h9 => absurd h9 List.not_mem_nil)⟩) (by decide) (by decide) (hts _ (List.mem_of_getElem? (i := 2) rfl)) hZ fk_cast2 (fun q9 H locs hP hS => ?_))
  refine lv_astore_n (lv' := [(3, .ref q9), (0, .ref (ad 0)), (1, .int p0), (2, .ref o)]) hx hb dL_exit_15 rfl hl (by decide) rfl (fun ls hl => ?_)
  refine lv_iconst (v := 2) hx hb dL_exit_16 (by decide) ?_
  exact fk_iretL (Nat.le_of_ble_eq_true rfl) (Nat.le_of_ble_eq_true rfl) hx hb hr hlocks hP hK hD hS rfl rfl dL_exit_17

set_option maxHeartbeats 4000000 in
set_option maxRecDepth 100000 in
theorem Lc_start (l : Launch) (D : va_G) (ad : Nat → Nat) (cI cT cJ : ClassId) (X : va_W) (S : fk_S) (p0 : Int32) (S1 : fk_S) (hC : ∀ X, fk_C l D (fk_ty cI cT cJ) yX2_start wsX2_start rmX2_start [.ref (ad 0), .int p0] (fk_kW ad cI cT S ++ X) none (fk_kW ad cI cT S1 ++ X)) : fk_L l D (fk_ty cI cT cJ) yL_start wsL_start rm_L [.ref (ad 0), .int p0] (fk_kW ad cI cT S ++ X) (some (.int 0)) (fk_kW ad cI cT S1 ++ X) := by
  refine fk_L_of (cc := cL_start) (maxL := 3) (ret := some .int) (own := RL) (hh := [(0, 5, 8, 13), (0, 5, 11, 15)]) (by decide) rfl rfl (Nat.le_of_ble_eq_true rfl) ?_
  intro p e s m below meth c A ls hx hb hr hlocks hml hts hown htab hA hP hK hD hZ hN hl
  have hS : va_S A s.heap s.heap [] := va_S.rf
  have hl : lv_has ls 3 [(0, .ref (ad 0)), (1, .int p0)] := hl
  refine lv_aload_n hx hb dL_start_0 rfl (lv_at hl 0 rfl) ?_
  refine lv_iload_n hx hb dL_start_1 rfl (lv_at hl 1 rfl) ?_
  refine fk_callV (As := [.int p0]) (rest := []) ⟨hx, hb, hml, hown, hts⟩ (hC _) (cwV 1 hts gL_start_X2_start rfl rfl rfl (by decide +kernel) ⟨Nat.le_of_ble_eq_true rfl, Nat.le_of_ble_eq_true rfl⟩) (fk_rvK hK hP) hK hP hD hS hA rfl hl.1 rfl (Nat.le_of_ble_eq_true rfl) dL_start_2 ⟨Nat.le_of_ble_eq_true rfl, Nat.le_of_ble_eq_true rfl⟩ (fun H locs hP hD hS => ?_)
  refine W.eq (g2 := F0 m 5 ls []) rfl ?_
  refine lv_goto (tgt := 14) hx hb dL_start_5 (by decide) ?_
  refine lv_iconst (v := 0) hx hb dL_start_14 (by decide) ?_
  exact fk_iretL (Nat.zero_le _) (Nat.zero_le _) hx hb hr hlocks hP hK hD hS rfl rfl dL_start_15

set_option maxHeartbeats 4000000 in
set_option maxRecDepth 100000 in
theorem Lx_start_IO (l : Launch) (D : va_G) (ad : Nat → Nat) (cI cT cJ : ClassId) (X : va_W) (S : fk_S) (p0 : Int32) (hX : ∀ X, fk_X l D (fk_ty cI cT cJ) yX2_start wsX2_start rx_pub [.ref (ad 0), .int p0] (fk_kW ad cI cT S ++ X) "java/lang/IndexOutOfBoundsException") : fk_L l D (fk_ty cI cT cJ) yL_start wsL_start rm_L [.ref (ad 0), .int p0] (fk_kW ad cI cT S ++ X) (some (.int 1)) (fk_kW ad cI cT S ++ X) := by
  refine fk_L_of (cc := cL_start) (maxL := 3) (ret := some .int) (own := RL) (hh := [(0, 5, 8, 13), (0, 5, 11, 15)]) (by decide) rfl rfl (Nat.le_of_ble_eq_true rfl) ?_
  intro p e s m below meth c A ls hx hb hr hlocks hml hts hown htab hA hP hK hD hZ hN hl
  have hS : va_S A s.heap s.heap [] := va_S.rf
  have hl : lv_has ls 3 [(0, .ref (ad 0)), (1, .int p0)] := hl
  refine lv_aload_n hx hb dL_start_0 rfl (lv_at hl 0 rfl) ?_
  refine lv_iload_n hx hb dL_start_1 rfl (lv_at hl 1 rfl) ?_
  refine fk_xcallV (As := [.int p0]) (rest := []) ⟨hx, hb, hml, hown, hts⟩ (hX _) (cwV 1 hts gL_start_X2_start rfl rfl rfl (by decide +kernel) ⟨Nat.le_of_ble_eq_true rfl, Nat.le_of_ble_eq_true rfl⟩) (fk_rvK hK hP) hK hP hD hS hA hZ rfl hl.1 rfl (Nat.le_of_ble_eq_true rfl) dL_start_2 ⟨Nat.le_of_ble_eq_true rfl, Nat.le_of_ble_eq_true rfl⟩ (fk_caught (x := (0, 5, 8, 13)) [] [(0, 5, 11, 15)] hown htab rfl rfl (fun _ h9 => absurd h9 List.not_mem_nil) (by decide) (by decide) (hts _ (List.mem_of_getElem? (i := 1) rfl)) hZ fk_cast1 (fun q9 H locs hP hS => ?_))
  refine lv_astore_n (lv' := [(2, .ref q9), (0, .ref (ad 0)), (1, .int p0)]) hx hb dL_start_8 rfl hl (by decide) rfl (fun ls hl => ?_)
  refine lv_iconst (v := 1) hx hb dL_start_9 (by decide) ?_
  exact fk_iretL (Nat.le_of_ble_eq_true rfl) (Nat.le_of_ble_eq_true rfl) hx hb hr hlocks hP hK hD hS rfl rfl dL_start_10

set_option maxHeartbeats 4000000 in
set_option maxRecDepth 100000 in
theorem Lx_start_IS (l : Launch) (D : va_G) (ad : Nat → Nat) (cI cT cJ : ClassId) (X : va_W) (S : fk_S) (p0 : Int32) (hX : ∀ X, fk_X l D (fk_ty cI cT cJ) yX2_start wsX2_start rx_pub [.ref (ad 0), .int p0] (fk_kW ad cI cT S ++ X) "java/lang/IllegalStateException") : fk_L l D (fk_ty cI cT cJ) yL_start wsL_start rm_L [.ref (ad 0), .int p0] (fk_kW ad cI cT S ++ X) (some (.int 2)) (fk_kW ad cI cT S ++ X) := by
  refine fk_L_of (cc := cL_start) (maxL := 3) (ret := some .int) (own := RL) (hh := [(0, 5, 8, 13), (0, 5, 11, 15)]) (by decide) rfl rfl (Nat.le_of_ble_eq_true rfl) ?_
  intro p e s m below meth c A ls hx hb hr hlocks hml hts hown htab hA hP hK hD hZ hN hl
  have hS : va_S A s.heap s.heap [] := va_S.rf
  have hl : lv_has ls 3 [(0, .ref (ad 0)), (1, .int p0)] := hl
  refine lv_aload_n hx hb dL_start_0 rfl (lv_at hl 0 rfl) ?_
  refine lv_iload_n hx hb dL_start_1 rfl (lv_at hl 1 rfl) ?_
  refine fk_xcallV (As := [.int p0]) (rest := []) ⟨hx, hb, hml, hown, hts⟩ (hX _) (cwV 1 hts gL_start_X2_start rfl rfl rfl (by decide +kernel) ⟨Nat.le_of_ble_eq_true rfl, Nat.le_of_ble_eq_true rfl⟩) (fk_rvK hK hP) hK hP hD hS hA hZ rfl hl.1 rfl (Nat.le_of_ble_eq_true rfl) dL_start_2 ⟨Nat.le_of_ble_eq_true rfl, Nat.le_of_ble_eq_true rfl⟩ (fk_caught (x := (0, 5, 11, 15)) [(0, 5, 8, 13)] [] hown htab rfl rfl (List.forall_mem_cons.mpr ⟨⟨by decide, _, hts _ (List.mem_of_getElem? (i := 1) rfl), hN.1⟩, (fun _ h9 => absurd h9 List.not_mem_nil)⟩) (by decide) (by decide) (hts _ (List.mem_of_getElem? (i := 2) rfl)) hZ fk_cast2 (fun q9 H locs hP hS => ?_))
  refine lv_astore_n (lv' := [(2, .ref q9), (0, .ref (ad 0)), (1, .int p0)]) hx hb dL_start_11 rfl hl (by decide) rfl (fun ls hl => ?_)
  refine lv_iconst (v := 2) hx hb dL_start_12 (by decide) ?_
  exact fk_iretL (Nat.le_of_ble_eq_true rfl) (Nat.le_of_ble_eq_true rfl) hx hb hr hlocks hP hK hD hS rfl rfl dL_start_13

set_option maxHeartbeats 4000000 in
set_option maxRecDepth 100000 in
theorem Lc_setPriority (l : Launch) (D : va_G) (ad : Nat → Nat) (cI cT cJ : ClassId) (X : va_W) (S : fk_S) (o : Nat) (f : Nat → Int64) (p0 p1 : Int32) (S1 : fk_S) (v : Int32) (hC : ∀ X, fk_C l D (fk_ty cI cT cJ) yX2_setPriority wsX2_setPriority rmX2_setPriority [.ref (ad 0), .int p0, .int p1] (fk_kW ad cI cT S ++ X) (some (.int v)) (fk_kW ad cI cT S1 ++ X)) : fk_L l D (fk_ty cI cT cJ) yL_setPriority wsL_setPriority rm_L [.ref (ad 0), .int p0, .int p1, .ref o] (fk_kW ad cI cT S ++ (o, fk_ou cJ f) :: X) (some (.int 0)) (fk_kW ad cI cT S1 ++ (o, fk_ou cJ (vp_updL f 0 v.toInt64)) :: X) := by
  refine fk_L_of (cc := cL_setPriority) (maxL := 5) (ret := some .int) (own := RL) (hh := [(0, 10, 13, 13), (0, 10, 17, 32), (0, 10, 21, 15)]) (by decide) rfl rfl (Nat.le_of_ble_eq_true rfl) ?_
  intro p e s m below meth c A ls hx hb hr hlocks hml hts hown htab hA hP hK hD hZ hN hl
  have hS : va_S A s.heap s.heap [] := va_S.rf
  have hl : lv_has ls 5 [(0, .ref (ad 0)), (1, .int p0), (2, .int p1), (3, .ref o)] := hl
  refine lv_aload_n hx hb dL_setPriority_0 rfl (lv_at hl 3 rfl) ?_
  refine lv_iconst (v := 0) hx hb dL_setPriority_1 (by decide) ?_
  refine lv_aload_n hx hb dL_setPriority_2 rfl (lv_at hl 0 rfl) ?_
  refine lv_iload_n hx hb dL_setPriority_3 rfl (lv_at hl 1 rfl) ?_
  refine lv_iload_n hx hb dL_setPriority_4 rfl (lv_at hl 2 rfl) ?_
  refine fk_callV (As := [.int p0, .int p1]) (rest := [.int 0, .ref o]) ⟨hx, hb, hml, hown, hts⟩ (hC _) (cwV 2 hts gL_setPriority_X2_setPriority rfl rfl rfl (by decide +kernel) ⟨Nat.le_of_ble_eq_true rfl, Nat.le_of_ble_eq_true rfl⟩) (fk_rvK hK hP) hK hP hD hS hA rfl hl.1 rfl (Nat.le_of_ble_eq_true rfl) dL_setPriority_5 ⟨Nat.le_of_ble_eq_true rfl, Nat.le_of_ble_eq_true rfl⟩ (fun H locs hP hD hS => ?_)
  refine W.eq (g2 := F0 m 8 ls [.int v, .int 0, .ref o]) rfl ?_
  refine lv_i2l hx hb dL_setPriority_8 rfl ?_
  refine va_last hx hb hK hP hD hS 27 2 fk_at27 rfl fk_v01 dL_setPriority_9 (fun H locs hP hD hS => ?_)
  have hP : va_P D vwCl (fk_kW ad cI cT S1 ++ (o, fk_ou cJ (vp_updL f 0 v.toInt64)) :: X) H := by rw [fk_set27] at hP; exact hP
  have hD : va_D A (fk_kW ad cI cT S1 ++ (o, fk_ou cJ (vp_updL f 0 v.toInt64)) :: X) := by rw [fk_set27] at hD; exact hD
  refine lv_goto (tgt := 25) hx hb dL_setPriority_10 (by decide) ?_
  refine lv_iconst (v := 0) hx hb dL_setPriority_25 (by decide) ?_
  exact fk_iretL (Nat.zero_le _) (Nat.zero_le _) hx hb hr hlocks hP hK hD hS rfl rfl dL_setPriority_26

set_option maxHeartbeats 4000000 in
set_option maxRecDepth 100000 in
theorem Lx_setPriority_IO (l : Launch) (D : va_G) (ad : Nat → Nat) (cI cT cJ : ClassId) (X : va_W) (S : fk_S) (o : Nat) (f : Nat → Int64) (p0 p1 : Int32) (hX : ∀ X, fk_X l D (fk_ty cI cT cJ) yX2_setPriority wsX2_setPriority rx_pub [.ref (ad 0), .int p0, .int p1] (fk_kW ad cI cT S ++ X) "java/lang/IndexOutOfBoundsException") : fk_L l D (fk_ty cI cT cJ) yL_setPriority wsL_setPriority rm_L [.ref (ad 0), .int p0, .int p1, .ref o] (fk_kW ad cI cT S ++ (o, fk_ou cJ f) :: X) (some (.int 1)) (fk_kW ad cI cT S ++ (o, fk_ou cJ f) :: X) := by
  refine fk_L_of (cc := cL_setPriority) (maxL := 5) (ret := some .int) (own := RL) (hh := [(0, 10, 13, 13), (0, 10, 17, 32), (0, 10, 21, 15)]) (by decide) rfl rfl (Nat.le_of_ble_eq_true rfl) ?_
  intro p e s m below meth c A ls hx hb hr hlocks hml hts hown htab hA hP hK hD hZ hN hl
  have hS : va_S A s.heap s.heap [] := va_S.rf
  have hl : lv_has ls 5 [(0, .ref (ad 0)), (1, .int p0), (2, .int p1), (3, .ref o)] := hl
  refine lv_aload_n hx hb dL_setPriority_0 rfl (lv_at hl 3 rfl) ?_
  refine lv_iconst (v := 0) hx hb dL_setPriority_1 (by decide) ?_
  refine lv_aload_n hx hb dL_setPriority_2 rfl (lv_at hl 0 rfl) ?_
  refine lv_iload_n hx hb dL_setPriority_3 rfl (lv_at hl 1 rfl) ?_
  refine lv_iload_n hx hb dL_setPriority_4 rfl (lv_at hl 2 rfl) ?_
  refine fk_xcallV (As := [.int p0, .int p1]) (rest := [.int 0, .ref o]) ⟨hx, hb, hml, hown, hts⟩ (hX _) (cwV 2 hts gL_setPriority_X2_setPriority rfl rfl rfl (by decide +kernel) ⟨Nat.le_of_ble_eq_true rfl, Nat.le_of_ble_eq_true rfl⟩) (fk_rvK hK hP) hK hP hD hS hA hZ rfl hl.1 rfl (Nat.le_of_ble_eq_true rfl) dL_setPriority_5 ⟨Nat.le_of_ble_eq_true rfl, Nat.le_of_ble_eq_true rfl⟩ (fk_caught (x := (0, 10, 13, 13)) [] [(0, 10, 17, 32), (0, 10, 21, 15)] hown htab rfl rfl (fun _ h9 => absurd h9 List.not_mem_nil) (by decide) (by decide) (hts _ (List.mem_of_getElem? (i := 1) rfl)) hZ fk_cast1 (fun q9 H locs hP hS => ?_))
  refine lv_astore (lv' := [(4, .ref q9), (0, .ref (ad 0)), (1, .int p0), (2, .int p1), (3, .ref o)]) hx hb dL_setPriority_13 hl (by decide) rfl (fun ls hl => ?_)
  refine lv_iconst (v := 1) hx hb dL_setPriority_15 (by decide) ?_
  exact fk_iretL (Nat.le_of_ble_eq_true rfl) (Nat.le_of_ble_eq_true rfl) hx hb hr hlocks hP hK hD hS rfl rfl dL_setPriority_16

set_option maxHeartbeats 4000000 in
set_option maxRecDepth 100000 in
theorem Lx_setPriority_IA (l : Launch) (D : va_G) (ad : Nat → Nat) (cI cT cJ : ClassId) (X : va_W) (S : fk_S) (o : Nat) (f : Nat → Int64) (p0 p1 : Int32) (hX : ∀ X, fk_X l D (fk_ty cI cT cJ) yX2_setPriority wsX2_setPriority rx_pub [.ref (ad 0), .int p0, .int p1] (fk_kW ad cI cT S ++ X) "java/lang/IllegalArgumentException") : fk_L l D (fk_ty cI cT cJ) yL_setPriority wsL_setPriority rm_L [.ref (ad 0), .int p0, .int p1, .ref o] (fk_kW ad cI cT S ++ (o, fk_ou cJ f) :: X) (some (.int 2)) (fk_kW ad cI cT S ++ (o, fk_ou cJ f) :: X) := by
  refine fk_L_of (cc := cL_setPriority) (maxL := 5) (ret := some .int) (own := RL) (hh := [(0, 10, 13, 13), (0, 10, 17, 32), (0, 10, 21, 15)]) (by decide) rfl rfl (Nat.le_of_ble_eq_true rfl) ?_
  intro p e s m below meth c A ls hx hb hr hlocks hml hts hown htab hA hP hK hD hZ hN hl
  have hS : va_S A s.heap s.heap [] := va_S.rf
  have hl : lv_has ls 5 [(0, .ref (ad 0)), (1, .int p0), (2, .int p1), (3, .ref o)] := hl
  refine lv_aload_n hx hb dL_setPriority_0 rfl (lv_at hl 3 rfl) ?_
  refine lv_iconst (v := 0) hx hb dL_setPriority_1 (by decide) ?_
  refine lv_aload_n hx hb dL_setPriority_2 rfl (lv_at hl 0 rfl) ?_
  refine lv_iload_n hx hb dL_setPriority_3 rfl (lv_at hl 1 rfl) ?_
  refine lv_iload_n hx hb dL_setPriority_4 rfl (lv_at hl 2 rfl) ?_
  refine fk_xcallV (As := [.int p0, .int p1]) (rest := [.int 0, .ref o]) ⟨hx, hb, hml, hown, hts⟩ (hX _) (cwV 2 hts gL_setPriority_X2_setPriority rfl rfl rfl (by decide +kernel) ⟨Nat.le_of_ble_eq_true rfl, Nat.le_of_ble_eq_true rfl⟩) (fk_rvK hK hP) hK hP hD hS hA hZ rfl hl.1 rfl (Nat.le_of_ble_eq_true rfl) dL_setPriority_5 ⟨Nat.le_of_ble_eq_true rfl, Nat.le_of_ble_eq_true rfl⟩ (fk_caught (x := (0, 10, 17, 32)) [(0, 10, 13, 13)] [(0, 10, 21, 15)] hown htab rfl rfl (List.forall_mem_cons.mpr ⟨⟨by decide, _, hts _ (List.mem_of_getElem? (i := 1) rfl), hN.2.1⟩, (fun _ h9 => absurd h9 List.not_mem_nil)⟩) (by decide) (by decide) (hts _ (List.mem_of_getElem? (i := 2) rfl)) hZ fk_cast3 (fun q9 H locs hP hS => ?_))
  refine lv_astore (lv' := [(4, .ref q9), (0, .ref (ad 0)), (1, .int p0), (2, .int p1), (3, .ref o)]) hx hb dL_setPriority_17 hl (by decide) rfl (fun ls hl => ?_)
  refine lv_iconst (v := 2) hx hb dL_setPriority_19 (by decide) ?_
  exact fk_iretL (Nat.le_of_ble_eq_true rfl) (Nat.le_of_ble_eq_true rfl) hx hb hr hlocks hP hK hD hS rfl rfl dL_setPriority_20

set_option maxHeartbeats 4000000 in
set_option maxRecDepth 100000 in
theorem Lx_setPriority_IS (l : Launch) (D : va_G) (ad : Nat → Nat) (cI cT cJ : ClassId) (X : va_W) (S : fk_S) (o : Nat) (f : Nat → Int64) (p0 p1 : Int32) (hX : ∀ X, fk_X l D (fk_ty cI cT cJ) yX2_setPriority wsX2_setPriority rx_pub [.ref (ad 0), .int p0, .int p1] (fk_kW ad cI cT S ++ X) "java/lang/IllegalStateException") : fk_L l D (fk_ty cI cT cJ) yL_setPriority wsL_setPriority rm_L [.ref (ad 0), .int p0, .int p1, .ref o] (fk_kW ad cI cT S ++ (o, fk_ou cJ f) :: X) (some (.int 3)) (fk_kW ad cI cT S ++ (o, fk_ou cJ f) :: X) := by
  refine fk_L_of (cc := cL_setPriority) (maxL := 5) (ret := some .int) (own := RL) (hh := [(0, 10, 13, 13), (0, 10, 17, 32), (0, 10, 21, 15)]) (by decide) rfl rfl (Nat.le_of_ble_eq_true rfl) ?_
  intro p e s m below meth c A ls hx hb hr hlocks hml hts hown htab hA hP hK hD hZ hN hl
  have hS : va_S A s.heap s.heap [] := va_S.rf
  have hl : lv_has ls 5 [(0, .ref (ad 0)), (1, .int p0), (2, .int p1), (3, .ref o)] := hl
  refine lv_aload_n hx hb dL_setPriority_0 rfl (lv_at hl 3 rfl) ?_
  refine lv_iconst (v := 0) hx hb dL_setPriority_1 (by decide) ?_
  refine lv_aload_n hx hb dL_setPriority_2 rfl (lv_at hl 0 rfl) ?_
  refine lv_iload_n hx hb dL_setPriority_3 rfl (lv_at hl 1 rfl) ?_
  refine lv_iload_n hx hb dL_setPriority_4 rfl (lv_at hl 2 rfl) ?_
  refine fk_xcallV (As := [.int p0, .int p1]) (rest := [.int 0, .ref o]) ⟨hx, hb, hml, hown, hts⟩ (hX _) (cwV 2 hts gL_setPriority_X2_setPriority rfl rfl rfl (by decide +kernel) ⟨Nat.le_of_ble_eq_true rfl, Nat.le_of_ble_eq_true rfl⟩) (fk_rvK hK hP) hK hP hD hS hA hZ rfl hl.1 rfl (Nat.le_of_ble_eq_true rfl) dL_setPriority_5 ⟨Nat.le_of_ble_eq_true rfl, Nat.le_of_ble_eq_true rfl⟩ (fk_caught (x := (0, 10, 21, 15)) [(0, 10, 13, 13), (0, 10, 17, 32)] [] hown htab rfl rfl (List.forall_mem_cons.mpr ⟨⟨by decide, _, hts _ (List.mem_of_getElem? (i := 1) rfl), hN.1⟩, (List.forall_mem_cons.mpr ⟨⟨by decide, _, hts _ (List.mem_of_getElem? (i := 2) rfl), hN.2.2⟩, (fun _ h9 => absurd h9 List.not_mem_nil)⟩)⟩) (by decide) (by decide) (hts _ (List.mem_of_getElem? (i := 3) rfl)) hZ fk_cast2 (fun q9 H locs hP hS => ?_))
  refine lv_astore (lv' := [(4, .ref q9), (0, .ref (ad 0)), (1, .int p0), (2, .int p1), (3, .ref o)]) hx hb dL_setPriority_21 hl (by decide) rfl (fun ls hl => ?_)
  refine lv_iconst (v := 3) hx hb dL_setPriority_23 (by decide) ?_
  exact fk_iretL (Nat.le_of_ble_eq_true rfl) (Nat.le_of_ble_eq_true rfl) hx hb hr hlocks hP hK hD hS rfl rfl dL_setPriority_24
