abbrev rmX2_wakeFirst : Room := { frames := 5, cells := 0, slots := 0, locals := 116 }
set_option maxHeartbeats 4000000 in
set_option maxRecDepth 100000 in
theorem kc_wakeFirst (l : Launch) (D : va_G) (ad : Nat → Nat) (cI cT cJ : ClassId) (X : va_W) (S : fk_S) (a mk : Int32) (k : Nat) (hk : k ≤ 8) : fk_C l D (fk_ty cI cT cJ) yX2_wakeFirst wsX2_wakeFirst rmX2_wakeFirst [.ref (ad 0), .int a, .int (nI k), .int mk] (fk_kW ad cI cT S ++ X) (some (.int (nI (kk_wake a mk k S).1))) (fk_kW ad cI cT (kk_wake a mk k S).2 ++ X) := by
  refine fk_C_of (cc := cX2_wakeFirst) (maxL := 6) (ret := (some .int)) (own := RX2) (by decide) rfl rfl (Nat.le_of_ble_eq_true rfl) ?_
  intro p e s m below meth c A ls hx hb hr hlocks hml hts hown hA hP hK hD hl
  have hS : va_S A s.heap s.heap [] := va_S.rf
  have hl : lv_has ls 6 [(0, .ref (ad 0)), (1, .int a), (2, .int (nI k)), (3, .int mk)] := hl
  refine lv_iconst (v := 0) hx hb dX2_wakeFirst_0 (by decide) ?_
  refine lv_istore (lv' := [(4, .int 0), (0, .ref (ad 0)), (1, .int a), (2, .int (nI k)), (3, .int mk)]) hx hb dX2_wakeFirst_1 hl (by decide) rfl (fun ls hl => ?_)
  have loop : ∀ (n : Nat) (i : Nat) (S1 : fk_S), i + n = k → (kk_wake a mk n S1).2 = (kk_wake a mk k S).2 → i + (kk_wake a mk n S1).1 = (kk_wake a mk k S).1 → ∀ (H : Heap) (locs : List Loc) (ls : Array Slot), va_P D vwCl (fk_kW ad cI cT S1 ++ X) H → va_D A (fk_kW ad cI cT S1 ++ X) → va_S A s.heap H locs → lv_has ls 6 [(4, .int (nI i)), (0, .ref (ad 0)), (1, .int a), (2, .int (nI k)), (3, .int mk)] → W p l e rmX2_wakeFirst s m ([.ref (ad 0), .int a, .int (nI k), .int mk] : List Value).toArray below meth c H locs 0 0 (fk_Q below D (fk_ty cI cT cJ) [.ref (ad 0), .int a, .int (nI k), .int mk] s A (fk_kW ad cI cT (kk_wake a mk k S).2 ++ X) (some (.int (nI (kk_wake a mk k S).1)))) (F0 m 3 ls []) := by
    intro n
    induction n with
    | zero =>
      intro i S1 hi h2 h1 H locs ls hP hD hS hl
      refine lv_iload hx hb dX2_wakeFirst_3 (lv_at hl 0 rfl) ?_
      refine lv_iload_n hx hb dX2_wakeFirst_5 rfl (lv_at hl 3 rfl) ?_
      refine lv_icmp_ge (tgt := 39) hx hb dX2_wakeFirst_6 (by decide) (fun c_1 => ?_) (fun c_1 => absurd (nI_le (a := k) (b := i) (by omega) (by omega)) c_1)
      refine lv_iload_n hx hb dX2_wakeFirst_39 rfl (lv_at hl 3 rfl) ?_
      exact fk_iret hx hb hr hlocks hP hK hD hS (congrArg (fun z => fk_kW ad cI cT z ++ X) (by rw [← h2]; rfl)) (by rw [← h1, show i + (kk_wake a mk 0 S1).1 = k from by simp only [kk_wake]; omega]) dX2_wakeFirst_40
    | succ n ih =>
      intro i S1 hi h2 h1 H locs ls hP hD hS hl
      refine lv_iload hx hb dX2_wakeFirst_3 (lv_at hl 0 rfl) ?_
      refine lv_iload_n hx hb dX2_wakeFirst_5 rfl (lv_at hl 3 rfl) ?_
      refine lv_icmp_ge (tgt := 39) hx hb dX2_wakeFirst_6 (by decide) (fun c_2 => absurd c_2 (nI_ge (a := i) (b := k) (by omega) (by omega))) (fun c_2 => ?_)
      refine lv_aload_n hx hb dX2_wakeFirst_9 rfl (lv_at hl 1 rfl) ?_
      refine lv_iload_n hx hb dX2_wakeFirst_10 rfl (lv_at hl 2 rfl) ?_
      refine lv_iconst (v := 1) hx hb dX2_wakeFirst_11 (by decide) ?_
      refine lv_iload_n hx hb dX2_wakeFirst_12 rfl (lv_at hl 4 rfl) ?_
      refine fk_callV (As := [.int a, .int 1, .int mk]) (rest := []) ⟨hx, hb, hml, hown, hts⟩ (kc_firstAt l D ad cI cT cJ X S1 a 1 mk) (cwV 3 hts gX2_wakeFirst_X2_firstAt rfl rfl rfl (by decide +kernel) ⟨Nat.le_of_ble_eq_true rfl, Nat.le_of_ble_eq_true rfl⟩) (fk_rvK hK hP) hK hP hD hS hA rfl hl.1 rfl (Nat.le_of_ble_eq_true rfl) dX2_wakeFirst_13 ⟨Nat.le_of_ble_eq_true rfl, Nat.le_of_ble_eq_true rfl⟩ (fun H locs hP hD hS => ?_)
      rcases o_3 : kk_first S1 a 1 mk with _ | u4
      · refine W.eq (g2 := F0 m 16 ls [.null]) (by first | rfl | (rw [o_3]; rfl)) ?_
        refine lv_astoreN (lv' := [(5, .null), (4, .int (nI i)), (0, .ref (ad 0)), (1, .int a), (2, .int (nI k)), (3, .int mk)]) hx hb dX2_wakeFirst_16 hl (by decide) rfl (fun ls hl => ?_)
        refine lv_aloadN hx hb dX2_wakeFirst_18 (lv_at hl 0 rfl) ?_
        refine lv_ifnonnullN hx hb dX2_wakeFirst_20 ?_
        refine lv_iload hx hb dX2_wakeFirst_23 (lv_at hl 1 rfl) ?_
        exact fk_iret hx hb hr hlocks hP hK hD hS (congrArg (fun z => fk_kW ad cI cT z ++ X) (by rw [← h2]; simp only [kk_wake, o_3])) (by rw [← h1]; simp only [kk_wake, o_3]; rfl) dX2_wakeFirst_25
      · have hu_5 : u4 < 8 := kk_first_lt o_3
        refine W.eq (g2 := F0 m 16 ls [.ref (ad (3 + u4))]) (by first | rfl | (rw [o_3]; rfl)) ?_
        refine lv_astore (lv' := [(5, .ref (ad (3 + u4))), (4, .int (nI i)), (0, .ref (ad 0)), (1, .int a), (2, .int (nI k)), (3, .int mk)]) hx hb dX2_wakeFirst_16 hl (by decide) rfl (fun ls hl => ?_)
        refine lv_aload hx hb dX2_wakeFirst_18 (lv_at hl 0 rfl) ?_
        refine lv_ifnonnull (tgt := 26) hx hb dX2_wakeFirst_20 (by decide) ?_
        refine lv_aload_n hx hb dX2_wakeFirst_26 rfl (lv_at hl 2 rfl) ?_
        refine lv_aload hx hb dX2_wakeFirst_27 (lv_at hl 0 rfl) ?_
        refine lv_iconst (v := 0) hx hb dX2_wakeFirst_29 (by decide) ?_
        refine fk_callV (As := [.ref (ad (3 + u4)), .int 0]) (rest := []) ⟨hx, hb, hml, hown, hts⟩ (kc_endWait l D ad cI cT cJ X S1 u4 0 hu_5) (cwV 2 hts gX2_wakeFirst_X2_endWait rfl rfl rfl (by decide +kernel) ⟨Nat.le_of_ble_eq_true rfl, Nat.le_of_ble_eq_true rfl⟩) (fk_rvK hK hP) hK hP hD hS hA rfl hl.1 rfl (Nat.le_of_ble_eq_true rfl) dX2_wakeFirst_30 ⟨Nat.le_of_ble_eq_true rfl, Nat.le_of_ble_eq_true rfl⟩ (fun H locs hP hD hS => ?_)
        refine W.eq (g2 := F0 m 33 ls []) rfl ?_
        refine lv_iinc (v := (nI (i + 1))) (lv' := [(4, .int (nI (i + 1))), (5, .ref (ad (3 + u4))), (0, .ref (ad 0)), (1, .int a), (2, .int (nI k)), (3, .int mk)]) hx hb dX2_wakeFirst_33 hl (k := 1) rfl (nI_1 i) (by decide) rfl (fun ls hl => ?_)
        refine lv_goto (tgt := 3) hx hb dX2_wakeFirst_36 (by decide) ?_
        exact ih (i + 1) (kk_end S1 u4 0) (by omega) (by rw [← h2]; simp only [kk_wake, o_3]) (by rw [← h1]; simp only [kk_wake, o_3]; omega) _ _ _ hP hD hS (lv_sub hl [0, 2, 3, 4, 5] rfl)
  exact loop k 0 S (by omega) rfl (by omega) _ _ _ hP hD hS (lv_sub hl [0, 1, 2, 3, 4] rfl)

abbrev rmX2_moveFirst : Room := { frames := 2, cells := 0, slots := 0, locals := 50 }
set_option maxHeartbeats 4000000 in
set_option maxRecDepth 100000 in
theorem kc_moveFirst (l : Launch) (D : va_G) (ad : Nat → Nat) (cI cT cJ : ClassId) (X : va_W) (S : fk_S) (a b : Int32) (k : Nat) (hk : k ≤ 8) : fk_C l D (fk_ty cI cT cJ) yX2_moveFirst wsX2_moveFirst rmX2_moveFirst [.ref (ad 0), .int a, .int b, .int (nI k)] (fk_kW ad cI cT S ++ X) (some (.int (nI (kk_move a b k S).1))) (fk_kW ad cI cT (kk_move a b k S).2 ++ X) := by
  refine fk_C_of (cc := cX2_moveFirst) (maxL := 6) (ret := (some .int)) (own := RX2) (by decide) rfl rfl (Nat.le_of_ble_eq_true rfl) ?_
  intro p e s m below meth c A ls hx hb hr hlocks hml hts hown hA hP hK hD hl
  have hS : va_S A s.heap s.heap [] := va_S.rf
  have hl : lv_has ls 6 [(0, .ref (ad 0)), (1, .int a), (2, .int b), (3, .int (nI k))] := hl
  refine lv_iconst (v := 0) hx hb dX2_moveFirst_0 (by decide) ?_
  refine lv_istore (lv' := [(4, .int 0), (0, .ref (ad 0)), (1, .int a), (2, .int b), (3, .int (nI k))]) hx hb dX2_moveFirst_1 hl (by decide) rfl (fun ls hl => ?_)
  have loop : ∀ (n : Nat) (i : Nat) (S1 : fk_S), i + n = k → (kk_move a b n S1).2 = (kk_move a b k S).2 → i + (kk_move a b n S1).1 = (kk_move a b k S).1 → ∀ (H : Heap) (locs : List Loc) (ls : Array Slot), va_P D vwCl (fk_kW ad cI cT S1 ++ X) H → va_D A (fk_kW ad cI cT S1 ++ X) → va_S A s.heap H locs → lv_has ls 6 [(4, .int (nI i)), (0, .ref (ad 0)), (1, .int a), (2, .int b), (3, .int (nI k))] → W p l e rmX2_moveFirst s m ([.ref (ad 0), .int a, .int b, .int (nI k)] : List Value).toArray below meth c H locs 0 0 (fk_Q below D (fk_ty cI cT cJ) [.ref (ad 0), .int a, .int b, .int (nI k)] s A (fk_kW ad cI cT (kk_move a b k S).2 ++ X) (some (.int (nI (kk_move a b k S).1)))) (F0 m 3 ls []) := by
    intro n
    induction n with
    | zero =>
      intro i S1 hi h2 h1 H locs ls hP hD hS hl
      refine lv_iload hx hb dX2_moveFirst_3 (lv_at hl 0 rfl) ?_
      refine lv_iload_n hx hb dX2_moveFirst_5 rfl (lv_at hl 4 rfl) ?_
      refine lv_icmp_ge (tgt := 41) hx hb dX2_moveFirst_6 (by decide) (fun c_1 => ?_) (fun c_1 => absurd (nI_le (a := k) (b := i) (by omega) (by omega)) c_1)
      refine lv_iload_n hx hb dX2_moveFirst_41 rfl (lv_at hl 4 rfl) ?_
      exact fk_iret hx hb hr hlocks hP hK hD hS (congrArg (fun z => fk_kW ad cI cT z ++ X) (by rw [← h2]; rfl)) (by rw [← h1, show i + (kk_move a b 0 S1).1 = k from by simp only [kk_move]; omega]) dX2_moveFirst_42
    | succ n ih =>
      intro i S1 hi h2 h1 H locs ls hP hD hS hl
      refine lv_iload hx hb dX2_moveFirst_3 (lv_at hl 0 rfl) ?_
      refine lv_iload_n hx hb dX2_moveFirst_5 rfl (lv_at hl 4 rfl) ?_
      refine lv_icmp_ge (tgt := 41) hx hb dX2_moveFirst_6 (by decide) (fun c_2 => absurd c_2 (nI_ge (a := i) (b := k) (by omega) (by omega))) (fun c_2 => ?_)
      refine lv_aload_n hx hb dX2_moveFirst_9 rfl (lv_at hl 1 rfl) ?_
      refine lv_iload_n hx hb dX2_moveFirst_10 rfl (lv_at hl 2 rfl) ?_
      refine lv_iconst (v := 1) hx hb dX2_moveFirst_11 (by decide) ?_
      refine lv_sipush (v := 255) hx hb dX2_moveFirst_12 (by decide) ?_
      refine fk_callV (As := [.int a, .int 1, .int 255]) (rest := []) ⟨hx, hb, hml, hown, hts⟩ (kc_firstAt l D ad cI cT cJ X S1 a 1 255) (cwV 3 hts gX2_moveFirst_X2_firstAt rfl rfl rfl (by decide +kernel) ⟨Nat.le_of_ble_eq_true rfl, Nat.le_of_ble_eq_true rfl⟩) (fk_rvK hK hP) hK hP hD hS hA rfl hl.1 rfl (Nat.le_of_ble_eq_true rfl) dX2_moveFirst_15 ⟨Nat.le_of_ble_eq_true rfl, Nat.le_of_ble_eq_true rfl⟩ (fun H locs hP hD hS => ?_)
      rcases o_3 : kk_first S1 a 1 255 with _ | u4
      · refine W.eq (g2 := F0 m 18 ls [.null]) (by first | rfl | (rw [o_3]; rfl)) ?_
        refine lv_astoreN (lv' := [(5, .null), (4, .int (nI i)), (0, .ref (ad 0)), (1, .int a), (2, .int b), (3, .int (nI k))]) hx hb dX2_moveFirst_18 hl (by decide) rfl (fun ls hl => ?_)
        refine lv_aloadN hx hb dX2_moveFirst_20 (lv_at hl 0 rfl) ?_
        refine lv_ifnonnullN hx hb dX2_moveFirst_22 ?_
        refine lv_iload hx hb dX2_moveFirst_25 (lv_at hl 1 rfl) ?_
        exact fk_iret hx hb hr hlocks hP hK hD hS (congrArg (fun z => fk_kW ad cI cT z ++ X) (by rw [← h2]; simp only [kk_move, o_3])) (by rw [← h1]; simp only [kk_move, o_3]; rfl) dX2_moveFirst_27
      · have hu_5 : u4 < 8 := kk_first_lt o_3
        refine W.eq (g2 := F0 m 18 ls [.ref (ad (3 + u4))]) (by first | rfl | (rw [o_3]; rfl)) ?_
        refine lv_astore (lv' := [(5, .ref (ad (3 + u4))), (4, .int (nI i)), (0, .ref (ad 0)), (1, .int a), (2, .int b), (3, .int (nI k))]) hx hb dX2_moveFirst_18 hl (by decide) rfl (fun ls hl => ?_)
        refine lv_aload hx hb dX2_moveFirst_20 (lv_at hl 0 rfl) ?_
        refine lv_ifnonnull (tgt := 28) hx hb dX2_moveFirst_22 (by decide) ?_
        refine lv_aload_n hx hb dX2_moveFirst_28 rfl (lv_at hl 2 rfl) ?_
        refine lv_aload hx hb dX2_moveFirst_29 (lv_at hl 0 rfl) ?_
        refine lv_iload_n hx hb dX2_moveFirst_31 rfl (lv_at hl 4 rfl) ?_
        refine fk_callV (As := [.ref (ad (3 + u4)), .int b]) (rest := []) ⟨hx, hb, hml, hown, hts⟩ (kc_joinQueue l D ad cI cT cJ X S1 u4 b hu_5) (cwV 2 hts gX2_moveFirst_X2_joinQueue rfl rfl rfl (by decide +kernel) ⟨Nat.le_of_ble_eq_true rfl, Nat.le_of_ble_eq_true rfl⟩) (fk_rvK hK hP) hK hP hD hS hA rfl hl.1 rfl (Nat.le_of_ble_eq_true rfl) dX2_moveFirst_32 ⟨Nat.le_of_ble_eq_true rfl, Nat.le_of_ble_eq_true rfl⟩ (fun H locs hP hD hS => ?_)
        refine W.eq (g2 := F0 m 35 ls []) rfl ?_
        refine lv_iinc (v := (nI (i + 1))) (lv' := [(4, .int (nI (i + 1))), (5, .ref (ad (3 + u4))), (0, .ref (ad 0)), (1, .int a), (2, .int b), (3, .int (nI k))]) hx hb dX2_moveFirst_35 hl (k := 1) rfl (nI_1 i) (by decide) rfl (fun ls hl => ?_)
        refine lv_goto (tgt := 3) hx hb dX2_moveFirst_38 (by decide) ?_
        exact ih (i + 1) (kk_join S1 u4 b) (by omega) (by rw [← h2]; simp only [kk_move, o_3]) (by rw [← h1]; simp only [kk_move, o_3]; omega) _ _ _ hP hD hS (lv_sub hl [0, 2, 3, 4, 5] rfl)
  exact loop k 0 S (by omega) rfl (by omega) _ _ _ hP hD hS (lv_sub hl [0, 1, 2, 3, 4] rfl)

abbrev rmX2_giveLock : Room := { frames := 3, cells := 0, slots := 0, locals := 71 }
set_option maxHeartbeats 4000000 in
set_option maxRecDepth 100000 in
theorem kc_giveLock (l : Launch) (D : va_G) (ad : Nat → Nat) (cI cT cJ : ClassId) (X : va_W) (S : fk_S) (t : Nat) (a died : Int32) (ht : t < 8) (hsz : fk_sz S) : fk_C l D (fk_ty cI cT cJ) yX2_giveLock wsX2_giveLock rmX2_giveLock [.ref (ad 0), .ref (ad (3 + t)), .int a, .int died] (fk_kW ad cI cT S ++ X) none (fk_kW ad cI cT (kk_give S t a died) ++ X) := by
  refine fk_C_of (cc := cX2_giveLock) (maxL := 5) (ret := none) (own := RX2) (by decide) rfl rfl (Nat.le_of_ble_eq_true rfl) ?_
  intro p e s m below meth c A ls hx hb hr hlocks hml hts hown hA hP hK hD hl
  have hS : va_S A s.heap s.heap [] := va_S.rf
  have hl : lv_has ls 5 [(0, .ref (ad 0)), (1, .ref (ad (3 + t))), (2, .int a), (3, .int died)] := hl
  have hiX1 : ∀ w ∈ u_ws RX1 TX1 11, w ∈ wsX2_giveLock := by decide +kernel
  have hiX2 : ∀ w ∈ u_ws RX2 TX2 6, w ∈ wsX2_giveLock := by decide +kernel
  refine lv_iload_n hx hb dX2_giveLock_0 rfl (lv_at hl 2 rfl) ?_
  refine fk_callS (As := [.int a]) (rest := []) ⟨hx, hb, hml, hown, hts⟩ (kc_isAddress l D ad cI cT cJ X S a) (va_cwS 1 hts gX2_giveLock_X2_isAddress rfl rfl rfl (by decide +kernel) ⟨Nat.le_of_ble_eq_true rfl, Nat.le_of_ble_eq_true rfl⟩) hK hP hD hS hA rfl hl.1 rfl (Nat.le_of_ble_eq_true rfl) dX2_giveLock_1 ⟨Nat.le_of_ble_eq_true rfl, Nat.le_of_ble_eq_true rfl⟩ (fun H locs hP hD hS => ?_)
  cases b_1 : fk_isA a with
  | true =>
    refine W.eq (g2 := F0 m 4 ls [.int 1]) (by first | rfl | (rw [b_1]; rfl)) ?_
    refine lv_if_eq (tgt := 48) hx hb dX2_giveLock_4 (by decide) (fun c => absurd c (by decide)) (fun _ => ?_)
    refine lv_aload_n hx hb dX2_giveLock_7 rfl (lv_at hl 0 rfl) ?_
    refine lv_iload_n hx hb dX2_giveLock_8 rfl (lv_at hl 2 rfl) ?_
    refine fk_callV (As := [.int a]) (rest := []) ⟨hx, hb, hml, hown, hts⟩ (kc_firstLockingAt l D ad cI cT cJ X S a) (cwV 1 hts gX2_giveLock_X2_firstLockingAt rfl rfl rfl (by decide +kernel) ⟨Nat.le_of_ble_eq_true rfl, Nat.le_of_ble_eq_true rfl⟩) (fk_rvK hK hP) hK hP hD hS hA rfl hl.1 rfl (Nat.le_of_ble_eq_true rfl) dX2_giveLock_9 ⟨Nat.le_of_ble_eq_true rfl, Nat.le_of_ble_eq_true rfl⟩ (fun H locs hP hD hS => ?_)
    rcases o_3 : kk_lk S a with _ | u4
    · refine W.eq (g2 := F0 m 12 ls [.null]) (by first | rfl | (rw [o_3]; rfl)) ?_
      refine lv_ifnonnullN hx hb dX2_giveLock_12 ?_
      refine lv_iconst (v := 0) hx hb dX2_giveLock_15 (by decide) ?_
      refine lv_goto (tgt := 21) hx hb dX2_giveLock_16 (by decide) ?_
      refine lv_istore (lv' := [(4, .int 0), (0, .ref (ad 0)), (1, .ref (ad (3 + t))), (2, .int a), (3, .int died)]) hx hb dX2_giveLock_21 hl (by decide) rfl (fun ls hl => ?_)
      refine lv_aload_n hx hb dX2_giveLock_23 rfl (lv_at hl 1 rfl) ?_
      refine fk_getK hx hb hts hiX2 hown hK hP 0 (by decide) (v := .ref (ad 1)) rfl (List.mem_of_getElem? (i := 2) rfl) rfl dX2_giveLock_24 ?_
      refine lv_iload_n hx hb dX2_giveLock_27 rfl (lv_at hl 3 rfl) ?_
      refine lv_aload_n hx hb dX2_giveLock_28 rfl (lv_at hl 2 rfl) ?_
      refine fk_getT hx hb hts hiX1 hown hK hP ht 0 (by decide) (v := .int (nI t)) rfl (List.mem_of_getElem? (i := 3) rfl) rfl dX2_giveLock_29 ?_
      refine lv_iconst (v := 1) hx hb dX2_giveLock_32 (by decide) ?_
      refine lv_iadd hx hb dX2_giveLock_33 ?_
      refine W.eq (g2 := F0 m 34 ls [.int (nI (t + 1)), .int a, .ref (ad 1)]) (by rw [nI_1]) ?_
      refine lv_iload_n hx hb dX2_giveLock_34 rfl (lv_at hl 4 rfl) ?_
      refine lv_ior hx hb dX2_giveLock_35 ?_
      refine lv_iload hx hb dX2_giveLock_36 (lv_at hl 0 rfl) ?_
      refine lv_ior hx hb dX2_giveLock_38 ?_
      refine fk_stW hx hb hK hP hD hS (fk_isA_in b_1) dX2_giveLock_39 (fun H locs hP hD hS => ?_)
      refine lv_aload_n hx hb dX2_giveLock_40 rfl (lv_at hl 2 rfl) ?_
      refine fk_getT hx hb hts hiX1 hown hK hP ht 1 (by decide) (v := .ref (ad (11 + t))) rfl (List.mem_of_getElem? (i := 4) rfl) rfl dX2_giveLock_41 ?_
      refine lv_iload_n hx hb dX2_giveLock_44 rfl (lv_at hl 3 rfl) ?_
      refine fk_callV (As := [.int a]) (rest := []) ⟨hx, hb, hml, hown, hts⟩ (kc_add l D ad cI cT cJ X (fk_up S 0 a.toNatClampNeg (((nI (t + 1)) ||| died) ||| 0)) t a ht (fk_sz_of (fk_up_10 (by decide)) hsz)) (cwV 1 hts gX2_giveLock_X0_add rfl rfl rfl (by decide +kernel) ⟨Nat.le_of_ble_eq_true rfl, Nat.le_of_ble_eq_true rfl⟩) (fk_rvL hK hP ht) hK hP hD hS hA rfl hl.1 rfl (Nat.le_of_ble_eq_true rfl) dX2_giveLock_45 ⟨Nat.le_of_ble_eq_true rfl, Nat.le_of_ble_eq_true rfl⟩ (fun H locs hP hD hS => ?_)
      refine W.eq (g2 := F0 m 48 ls []) rfl ?_
      exact fk_vret hx hb hr hlocks hP hK hD hS (congrArg (fun z => fk_kW ad cI cT z ++ X) (by first | rfl | simp [kk_give, kk_word, b_1, o_3])) (by rfl) dX2_giveLock_48
    · have hu_5 : u4 < 8 := kk_lk_lt o_3
      refine W.eq (g2 := F0 m 12 ls [.ref (ad (3 + u4))]) (by first | rfl | (rw [o_3]; rfl)) ?_
      refine lv_ifnonnull (tgt := 19) hx hb dX2_giveLock_12 (by decide) ?_
      refine lv_ldc (own := RX2) (v := (-2147483648)) hx hb hown (hts (.constant RX2 83 (-2147483648)) (List.mem_of_getElem? (i := 1) rfl)) dX2_giveLock_19 ?_
      refine lv_istore (lv' := [(4, .int (-2147483648)), (0, .ref (ad 0)), (1, .ref (ad (3 + t))), (2, .int a), (3, .int died)]) hx hb dX2_giveLock_21 hl (by decide) rfl (fun ls hl => ?_)
      refine lv_aload_n hx hb dX2_giveLock_23 rfl (lv_at hl 1 rfl) ?_
      refine fk_getK hx hb hts hiX2 hown hK hP 0 (by decide) (v := .ref (ad 1)) rfl (List.mem_of_getElem? (i := 2) rfl) rfl dX2_giveLock_24 ?_
      refine lv_iload_n hx hb dX2_giveLock_27 rfl (lv_at hl 3 rfl) ?_
      refine lv_aload_n hx hb dX2_giveLock_28 rfl (lv_at hl 2 rfl) ?_
      refine fk_getT hx hb hts hiX1 hown hK hP ht 0 (by decide) (v := .int (nI t)) rfl (List.mem_of_getElem? (i := 3) rfl) rfl dX2_giveLock_29 ?_
      refine lv_iconst (v := 1) hx hb dX2_giveLock_32 (by decide) ?_
      refine lv_iadd hx hb dX2_giveLock_33 ?_
      refine W.eq (g2 := F0 m 34 ls [.int (nI (t + 1)), .int a, .ref (ad 1)]) (by rw [nI_1]) ?_
      refine lv_iload_n hx hb dX2_giveLock_34 rfl (lv_at hl 4 rfl) ?_
      refine lv_ior hx hb dX2_giveLock_35 ?_
      refine lv_iload hx hb dX2_giveLock_36 (lv_at hl 0 rfl) ?_
      refine lv_ior hx hb dX2_giveLock_38 ?_
      refine fk_stW hx hb hK hP hD hS (fk_isA_in b_1) dX2_giveLock_39 (fun H locs hP hD hS => ?_)
      refine lv_aload_n hx hb dX2_giveLock_40 rfl (lv_at hl 2 rfl) ?_
      refine fk_getT hx hb hts hiX1 hown hK hP ht 1 (by decide) (v := .ref (ad (11 + t))) rfl (List.mem_of_getElem? (i := 4) rfl) rfl dX2_giveLock_41 ?_
      refine lv_iload_n hx hb dX2_giveLock_44 rfl (lv_at hl 3 rfl) ?_
      refine fk_callV (As := [.int a]) (rest := []) ⟨hx, hb, hml, hown, hts⟩ (kc_add l D ad cI cT cJ X (fk_up S 0 a.toNatClampNeg (((nI (t + 1)) ||| died) ||| (-2147483648))) t a ht (fk_sz_of (fk_up_10 (by decide)) hsz)) (cwV 1 hts gX2_giveLock_X0_add rfl rfl rfl (by decide +kernel) ⟨Nat.le_of_ble_eq_true rfl, Nat.le_of_ble_eq_true rfl⟩) (fk_rvL hK hP ht) hK hP hD hS hA rfl hl.1 rfl (Nat.le_of_ble_eq_true rfl) dX2_giveLock_45 ⟨Nat.le_of_ble_eq_true rfl, Nat.le_of_ble_eq_true rfl⟩ (fun H locs hP hD hS => ?_)
      refine W.eq (g2 := F0 m 48 ls []) rfl ?_
      exact fk_vret hx hb hr hlocks hP hK hD hS (congrArg (fun z => fk_kW ad cI cT z ++ X) (by first | rfl | simp [kk_give, kk_word, b_1, o_3])) (by rfl) dX2_giveLock_48
  | false =>
    refine W.eq (g2 := F0 m 4 ls [.int 0]) (by first | rfl | (rw [b_1]; rfl)) ?_
    refine lv_if_eq (tgt := 48) hx hb dX2_giveLock_4 (by decide) (fun _ => ?_) (fun c => absurd c (by decide))
    exact fk_vret hx hb hr hlocks hP hK hD hS (congrArg (fun z => fk_kW ad cI cT z ++ X) (by first | rfl | simp [kk_give, kk_word, b_1])) (by rfl) dX2_giveLock_48

abbrev rmX2_passOn : Room := { frames := 5, cells := 0, slots := 0, locals := 116 }
set_option maxHeartbeats 4000000 in
set_option maxRecDepth 100000 in
theorem kc_passOn (l : Launch) (D : va_G) (ad : Nat → Nat) (cI cT cJ : ClassId) (X : va_W) (S : fk_S) (a : Int32) (b : Bool) (hsz : fk_sz S) : fk_C l D (fk_ty cI cT cJ) yX2_passOn wsX2_passOn rmX2_passOn [.ref (ad 0), .int a, .int (fk_b b)] (fk_kW ad cI cT S ++ X) (some (.int (fk_oI (kk_lk S a)))) (fk_kW ad cI cT (kk_pass S a b) ++ X) := by
  refine fk_C_of (cc := cX2_passOn) (maxL := 5) (ret := (some .int)) (own := RX2) (by decide) rfl rfl (Nat.le_of_ble_eq_true rfl) ?_
  intro p e s m below meth c A ls hx hb hr hlocks hml hts hown hA hP hK hD hl
  have hS : va_S A s.heap s.heap [] := va_S.rf
  have hl : lv_has ls 5 [(0, .ref (ad 0)), (1, .int a), (2, .int (fk_b b))] := hl
  have hiX1 : ∀ w ∈ u_ws RX1 TX1 11, w ∈ wsX2_passOn := by decide +kernel
  have hiX2 : ∀ w ∈ u_ws RX2 TX2 6, w ∈ wsX2_passOn := by decide +kernel
  cases b with
  | true =>
    have hl : lv_has ls 5 [(0, .ref (ad 0)), (1, .int a), (2, .int 1)] := hl
    refine lv_iload_n hx hb dX2_passOn_0 rfl (lv_at hl 2 rfl) ?_
    refine lv_if_eq (tgt := 9) hx hb dX2_passOn_1 (by decide) (fun c => absurd c (by decide)) (fun _ => ?_)
    refine lv_ldc (own := RX2) (v := 1073741824) hx hb hown (hts (.constant RX2 68 (1073741824)) (List.mem_of_getElem? (i := 1) rfl)) dX2_passOn_4 ?_
    refine lv_goto (tgt := 10) hx hb dX2_passOn_6 (by decide) ?_
    refine lv_istore_n (lv' := [(3, .int 1073741824), (0, .ref (ad 0)), (1, .int a), (2, .int 1)]) hx hb dX2_passOn_10 rfl hl (by decide) rfl (fun ls hl => ?_)
    refine lv_aload_n hx hb dX2_passOn_11 rfl (lv_at hl 1 rfl) ?_
    refine lv_iload_n hx hb dX2_passOn_12 rfl (lv_at hl 2 rfl) ?_
    refine fk_callV (As := [.int a]) (rest := []) ⟨hx, hb, hml, hown, hts⟩ (kc_firstLockingAt l D ad cI cT cJ X S a) (cwV 1 hts gX2_passOn_X2_firstLockingAt rfl rfl rfl (by decide +kernel) ⟨Nat.le_of_ble_eq_true rfl, Nat.le_of_ble_eq_true rfl⟩) (fk_rvK hK hP) hK hP hD hS hA rfl hl.1 rfl (Nat.le_of_ble_eq_true rfl) dX2_passOn_13 ⟨Nat.le_of_ble_eq_true rfl, Nat.le_of_ble_eq_true rfl⟩ (fun H locs hP hD hS => ?_)
    rcases o_2 : kk_lk S a with _ | u3
    · refine W.eq (g2 := F0 m 16 ls [.null]) (by first | rfl | (rw [o_2]; rfl)) ?_
      refine lv_astoreN (lv' := [(4, .null), (3, .int 1073741824), (0, .ref (ad 0)), (1, .int a), (2, .int 1)]) hx hb dX2_passOn_16 hl (by decide) rfl (fun ls hl => ?_)
      refine lv_aloadN hx hb dX2_passOn_18 (lv_at hl 0 rfl) ?_
      refine lv_ifnullN (tgt := 52) hx hb dX2_passOn_20 (by decide) ?_
      refine lv_iload_n hx hb dX2_passOn_52 rfl (lv_at hl 3 rfl) ?_
      refine fk_callS (As := [.int a]) (rest := []) ⟨hx, hb, hml, hown, hts⟩ (kc_isAddress l D ad cI cT cJ X S a) (va_cwS 1 hts gX2_passOn_X2_isAddress rfl rfl rfl (by decide +kernel) ⟨Nat.le_of_ble_eq_true rfl, Nat.le_of_ble_eq_true rfl⟩) hK hP hD hS hA rfl hl.1 rfl (Nat.le_of_ble_eq_true rfl) dX2_passOn_53 ⟨Nat.le_of_ble_eq_true rfl, Nat.le_of_ble_eq_true rfl⟩ (fun H locs hP hD hS => ?_)
      cases b_4 : fk_isA a with
      | true =>
        refine W.eq (g2 := F0 m 56 ls [.int 1]) (by first | rfl | (rw [b_4]; rfl)) ?_
        refine lv_if_eq (tgt := 66) hx hb dX2_passOn_56 (by decide) (fun c => absurd c (by decide)) (fun _ => ?_)
        refine lv_aload_n hx hb dX2_passOn_59 rfl (lv_at hl 2 rfl) ?_
        refine fk_getK hx hb hts hiX2 hown hK hP 0 (by decide) (v := .ref (ad 1)) rfl (List.mem_of_getElem? (i := 3) rfl) rfl dX2_passOn_60 ?_
        refine lv_iload_n hx hb dX2_passOn_63 rfl (lv_at hl 3 rfl) ?_
        refine lv_iload_n hx hb dX2_passOn_64 rfl (lv_at hl 1 rfl) ?_
        refine fk_stW hx hb hK hP hD hS (fk_isA_in b_4) dX2_passOn_65 (fun H locs hP hD hS => ?_)
        refine lv_iconst (v := (-1)) hx hb dX2_passOn_66 (by decide) ?_
        exact fk_iret hx hb hr hlocks hP hK hD hS (congrArg (fun z => fk_kW ad cI cT z ++ X) (by first | rfl | simp [kk_pass, kk_died, o_2, b_4])) (by first | rfl | simp [fk_oI, o_2, b_4]) dX2_passOn_67
      | false =>
        refine W.eq (g2 := F0 m 56 ls [.int 0]) (by first | rfl | (rw [b_4]; rfl)) ?_
        refine lv_if_eq (tgt := 66) hx hb dX2_passOn_56 (by decide) (fun _ => ?_) (fun c => absurd c (by decide))
        refine lv_iconst (v := (-1)) hx hb dX2_passOn_66 (by decide) ?_
        exact fk_iret hx hb hr hlocks hP hK hD hS (congrArg (fun z => fk_kW ad cI cT z ++ X) (by first | rfl | simp [kk_pass, kk_died, o_2, b_4])) (by first | rfl | simp [fk_oI, o_2, b_4]) dX2_passOn_67
    · have hu_7 : u3 < 8 := kk_lk_lt o_2
      refine W.eq (g2 := F0 m 16 ls [.ref (ad (3 + u3))]) (by first | rfl | (rw [o_2]; rfl)) ?_
      refine lv_astore (lv' := [(4, .ref (ad (3 + u3))), (3, .int 1073741824), (0, .ref (ad 0)), (1, .int a), (2, .int 1)]) hx hb dX2_passOn_16 hl (by decide) rfl (fun ls hl => ?_)
      refine lv_aload hx hb dX2_passOn_18 (lv_at hl 0 rfl) ?_
      refine lv_ifnull hx hb dX2_passOn_20 ?_
      refine lv_aload_n hx hb dX2_passOn_23 rfl (lv_at hl 2 rfl) ?_
      refine lv_aload hx hb dX2_passOn_24 (lv_at hl 0 rfl) ?_
      refine lv_iload_n hx hb dX2_passOn_26 rfl (lv_at hl 4 rfl) ?_
      refine lv_if_eq (tgt := 34) hx hb dX2_passOn_27 (by decide) (fun c => absurd c (by decide)) (fun _ => ?_)
      refine lv_iconst (v := 4) hx hb dX2_passOn_30 (by decide) ?_
      refine lv_goto (tgt := 35) hx hb dX2_passOn_31 (by decide) ?_
      refine fk_callV (As := [.ref (ad (3 + u3)), .int 4]) (rest := []) ⟨hx, hb, hml, hown, hts⟩ (kc_endWait l D ad cI cT cJ X S u3 4 hu_7) (cwV 2 hts gX2_passOn_X2_endWait rfl rfl rfl (by decide +kernel) ⟨Nat.le_of_ble_eq_true rfl, Nat.le_of_ble_eq_true rfl⟩) (fk_rvK hK hP) hK hP hD hS hA rfl hl.1 rfl (Nat.le_of_ble_eq_true rfl) dX2_passOn_35 ⟨Nat.le_of_ble_eq_true rfl, Nat.le_of_ble_eq_true rfl⟩ (fun H locs hP hD hS => ?_)
      refine W.eq (g2 := F0 m 38 ls []) rfl ?_
      refine lv_aload_n hx hb dX2_passOn_38 rfl (lv_at hl 2 rfl) ?_
      refine lv_aload hx hb dX2_passOn_39 (lv_at hl 0 rfl) ?_
      refine lv_iload_n hx hb dX2_passOn_41 rfl (lv_at hl 3 rfl) ?_
      refine lv_iload_n hx hb dX2_passOn_42 rfl (lv_at hl 1 rfl) ?_
      refine fk_callV (As := [.ref (ad (3 + u3)), .int a, .int 1073741824]) (rest := []) ⟨hx, hb, hml, hown, hts⟩ (kc_giveLock l D ad cI cT cJ X (kk_end S u3 4) u3 a 1073741824 hu_7 (fk_sz_of (kk_end_10 _ _ _) hsz)) (cwV 3 hts gX2_passOn_X2_giveLock rfl rfl rfl (by decide +kernel) ⟨Nat.le_of_ble_eq_true rfl, Nat.le_of_ble_eq_true rfl⟩) (fk_rvK hK hP) hK hP hD hS hA rfl hl.1 rfl (Nat.le_of_ble_eq_true rfl) dX2_passOn_43 ⟨Nat.le_of_ble_eq_true rfl, Nat.le_of_ble_eq_true rfl⟩ (fun H locs hP hD hS => ?_)
      refine W.eq (g2 := F0 m 46 ls []) rfl ?_
      refine lv_aload hx hb dX2_passOn_46 (lv_at hl 0 rfl) ?_
      refine fk_getT hx hb hts hiX1 hown hK hP hu_7 0 (by decide) (v := .int (nI u3)) rfl (List.mem_of_getElem? (i := 2) rfl) rfl dX2_passOn_48 ?_
      exact fk_iret hx hb hr hlocks hP hK hD hS (congrArg (fun z => fk_kW ad cI cT z ++ X) (by first | rfl | simp [kk_pass, kk_died, o_2])) (by first | rfl | simp [fk_oI, o_2]) dX2_passOn_51
  | false =>
    have hl : lv_has ls 5 [(0, .ref (ad 0)), (1, .int a), (2, .int 0)] := hl
    refine lv_iload_n hx hb dX2_passOn_0 rfl (lv_at hl 2 rfl) ?_
    refine lv_if_eq (tgt := 9) hx hb dX2_passOn_1 (by decide) (fun _ => ?_) (fun c => absurd c (by decide))
    refine lv_iconst (v := 0) hx hb dX2_passOn_9 (by decide) ?_
    refine lv_istore_n (lv' := [(3, .int 0), (0, .ref (ad 0)), (1, .int a), (2, .int 0)]) hx hb dX2_passOn_10 rfl hl (by decide) rfl (fun ls hl => ?_)
    refine lv_aload_n hx hb dX2_passOn_11 rfl (lv_at hl 1 rfl) ?_
    refine lv_iload_n hx hb dX2_passOn_12 rfl (lv_at hl 2 rfl) ?_
    refine fk_callV (As := [.int a]) (rest := []) ⟨hx, hb, hml, hown, hts⟩ (kc_firstLockingAt l D ad cI cT cJ X S a) (cwV 1 hts gX2_passOn_X2_firstLockingAt rfl rfl rfl (by decide +kernel) ⟨Nat.le_of_ble_eq_true rfl, Nat.le_of_ble_eq_true rfl⟩) (fk_rvK hK hP) hK hP hD hS hA rfl hl.1 rfl (Nat.le_of_ble_eq_true rfl) dX2_passOn_13 ⟨Nat.le_of_ble_eq_true rfl, Nat.le_of_ble_eq_true rfl⟩ (fun H locs hP hD hS => ?_)
    rcases o_10 : kk_lk S a with _ | u11
    · refine W.eq (g2 := F0 m 16 ls [.null]) (by first | rfl | (rw [o_10]; rfl)) ?_
      refine lv_astoreN (lv' := [(4, .null), (3, .int 0), (0, .ref (ad 0)), (1, .int a), (2, .int 0)]) hx hb dX2_passOn_16 hl (by decide) rfl (fun ls hl => ?_)
      refine lv_aloadN hx hb dX2_passOn_18 (lv_at hl 0 rfl) ?_
      refine lv_ifnullN (tgt := 52) hx hb dX2_passOn_20 (by decide) ?_
      refine lv_iload_n hx hb dX2_passOn_52 rfl (lv_at hl 3 rfl) ?_
      refine fk_callS (As := [.int a]) (rest := []) ⟨hx, hb, hml, hown, hts⟩ (kc_isAddress l D ad cI cT cJ X S a) (va_cwS 1 hts gX2_passOn_X2_isAddress rfl rfl rfl (by decide +kernel) ⟨Nat.le_of_ble_eq_true rfl, Nat.le_of_ble_eq_true rfl⟩) hK hP hD hS hA rfl hl.1 rfl (Nat.le_of_ble_eq_true rfl) dX2_passOn_53 ⟨Nat.le_of_ble_eq_true rfl, Nat.le_of_ble_eq_true rfl⟩ (fun H locs hP hD hS => ?_)
      cases b_12 : fk_isA a with
      | true =>
        refine W.eq (g2 := F0 m 56 ls [.int 1]) (by first | rfl | (rw [b_12]; rfl)) ?_
        refine lv_if_eq (tgt := 66) hx hb dX2_passOn_56 (by decide) (fun c => absurd c (by decide)) (fun _ => ?_)
        refine lv_aload_n hx hb dX2_passOn_59 rfl (lv_at hl 2 rfl) ?_
        refine fk_getK hx hb hts hiX2 hown hK hP 0 (by decide) (v := .ref (ad 1)) rfl (List.mem_of_getElem? (i := 3) rfl) rfl dX2_passOn_60 ?_
        refine lv_iload_n hx hb dX2_passOn_63 rfl (lv_at hl 3 rfl) ?_
        refine lv_iload_n hx hb dX2_passOn_64 rfl (lv_at hl 1 rfl) ?_
        refine fk_stW hx hb hK hP hD hS (fk_isA_in b_12) dX2_passOn_65 (fun H locs hP hD hS => ?_)
        refine lv_iconst (v := (-1)) hx hb dX2_passOn_66 (by decide) ?_
        exact fk_iret hx hb hr hlocks hP hK hD hS (congrArg (fun z => fk_kW ad cI cT z ++ X) (by first | rfl | simp [kk_pass, kk_died, o_10, b_12])) (by first | rfl | simp [fk_oI, o_10, b_12]) dX2_passOn_67
      | false =>
        refine W.eq (g2 := F0 m 56 ls [.int 0]) (by first | rfl | (rw [b_12]; rfl)) ?_
        refine lv_if_eq (tgt := 66) hx hb dX2_passOn_56 (by decide) (fun _ => ?_) (fun c => absurd c (by decide))
        refine lv_iconst (v := (-1)) hx hb dX2_passOn_66 (by decide) ?_
        exact fk_iret hx hb hr hlocks hP hK hD hS (congrArg (fun z => fk_kW ad cI cT z ++ X) (by first | rfl | simp [kk_pass, kk_died, o_10, b_12])) (by first | rfl | simp [fk_oI, o_10, b_12]) dX2_passOn_67
    · have hu_15 : u11 < 8 := kk_lk_lt o_10
      refine W.eq (g2 := F0 m 16 ls [.ref (ad (3 + u11))]) (by first | rfl | (rw [o_10]; rfl)) ?_
      refine lv_astore (lv' := [(4, .ref (ad (3 + u11))), (3, .int 0), (0, .ref (ad 0)), (1, .int a), (2, .int 0)]) hx hb dX2_passOn_16 hl (by decide) rfl (fun ls hl => ?_)
      refine lv_aload hx hb dX2_passOn_18 (lv_at hl 0 rfl) ?_
      refine lv_ifnull hx hb dX2_passOn_20 ?_
      refine lv_aload_n hx hb dX2_passOn_23 rfl (lv_at hl 2 rfl) ?_
      refine lv_aload hx hb dX2_passOn_24 (lv_at hl 0 rfl) ?_
      refine lv_iload_n hx hb dX2_passOn_26 rfl (lv_at hl 4 rfl) ?_
      refine lv_if_eq (tgt := 34) hx hb dX2_passOn_27 (by decide) (fun _ => ?_) (fun c => absurd c (by decide))
      refine lv_iconst (v := 3) hx hb dX2_passOn_34 (by decide) ?_
      refine fk_callV (As := [.ref (ad (3 + u11)), .int 3]) (rest := []) ⟨hx, hb, hml, hown, hts⟩ (kc_endWait l D ad cI cT cJ X S u11 3 hu_15) (cwV 2 hts gX2_passOn_X2_endWait rfl rfl rfl (by decide +kernel) ⟨Nat.le_of_ble_eq_true rfl, Nat.le_of_ble_eq_true rfl⟩) (fk_rvK hK hP) hK hP hD hS hA rfl hl.1 rfl (Nat.le_of_ble_eq_true rfl) dX2_passOn_35 ⟨Nat.le_of_ble_eq_true rfl, Nat.le_of_ble_eq_true rfl⟩ (fun H locs hP hD hS => ?_)
      refine W.eq (g2 := F0 m 38 ls []) rfl ?_
      refine lv_aload_n hx hb dX2_passOn_38 rfl (lv_at hl 2 rfl) ?_
      refine lv_aload hx hb dX2_passOn_39 (lv_at hl 0 rfl) ?_
      refine lv_iload_n hx hb dX2_passOn_41 rfl (lv_at hl 3 rfl) ?_
      refine lv_iload_n hx hb dX2_passOn_42 rfl (lv_at hl 1 rfl) ?_
      refine fk_callV (As := [.ref (ad (3 + u11)), .int a, .int 0]) (rest := []) ⟨hx, hb, hml, hown, hts⟩ (kc_giveLock l D ad cI cT cJ X (kk_end S u11 3) u11 a 0 hu_15 (fk_sz_of (kk_end_10 _ _ _) hsz)) (cwV 3 hts gX2_passOn_X2_giveLock rfl rfl rfl (by decide +kernel) ⟨Nat.le_of_ble_eq_true rfl, Nat.le_of_ble_eq_true rfl⟩) (fk_rvK hK hP) hK hP hD hS hA rfl hl.1 rfl (Nat.le_of_ble_eq_true rfl) dX2_passOn_43 ⟨Nat.le_of_ble_eq_true rfl, Nat.le_of_ble_eq_true rfl⟩ (fun H locs hP hD hS => ?_)
      refine W.eq (g2 := F0 m 46 ls []) rfl ?_
      refine lv_aload hx hb dX2_passOn_46 (lv_at hl 0 rfl) ?_
      refine fk_getT hx hb hts hiX1 hown hK hP hu_15 0 (by decide) (v := .int (nI u11)) rfl (List.mem_of_getElem? (i := 2) rfl) rfl dX2_passOn_48 ?_
      exact fk_iret hx hb hr hlocks hP hK hD hS (congrArg (fun z => fk_kW ad cI cT z ++ X) (by first | rfl | simp [kk_pass, kk_died, o_10])) (by first | rfl | simp [fk_oI, o_10]) dX2_passOn_51

abbrev rmX2_isHeldUpBy : Room := { frames := 2, cells := 0, slots := 0, locals := 42 }
set_option maxHeartbeats 4000000 in
set_option maxRecDepth 100000 in
theorem kc_isHeldUpBy (l : Launch) (D : va_G) (ad : Nat → Nat) (cI cT cJ : ClassId) (X : va_W) (S : fk_S) (t u : Nat) (ht : t < 8) (hu : u < 8) : fk_C l D (fk_ty cI cT cJ) yX2_isHeldUpBy wsX2_isHeldUpBy rmX2_isHeldUpBy [.ref (ad 0), .ref (ad (3 + t)), .ref (ad (3 + u))] (fk_kW ad cI cT S ++ X) (some (.int (fk_b (kk_held S u 8 (some t))))) (fk_kW ad cI cT S ++ X) := by
  refine fk_C_of (cc := cX2_isHeldUpBy) (maxL := 5) (ret := (some .boolean)) (own := RX2) (by decide) rfl rfl (Nat.le_of_ble_eq_true rfl) ?_
  intro p e s m below meth c A ls hx hb hr hlocks hml hts hown hA hP hK hD hl
  have hS : va_S A s.heap s.heap [] := va_S.rf
  have hl : lv_has ls 5 [(0, .ref (ad 0)), (1, .ref (ad (3 + t))), (2, .ref (ad (3 + u)))] := hl
  have hiX1 : ∀ w ∈ u_ws RX1 TX1 11, w ∈ wsX2_isHeldUpBy := by decide +kernel
  refine lv_aload_n hx hb dX2_isHeldUpBy_0 rfl (lv_at hl 1 rfl) ?_
  refine lv_astore_n (lv' := [(3, .ref (ad (3 + t))), (0, .ref (ad 0)), (1, .ref (ad (3 + t))), (2, .ref (ad (3 + u)))]) hx hb dX2_isHeldUpBy_1 rfl hl (by decide) rfl (fun ls hl => ?_)
  refine lv_iconst (v := 0) hx hb dX2_isHeldUpBy_2 (by decide) ?_
  refine lv_istore (lv' := [(4, .int 0), (3, .ref (ad (3 + t))), (0, .ref (ad 0)), (1, .ref (ad (3 + t))), (2, .ref (ad (3 + u)))]) hx hb dX2_isHeldUpBy_3 hl (by decide) rfl (fun ls hl => ?_)
  have loop : ∀ (n : Nat) (i : Nat) (x : Option Nat), i + n = 8 → (∀ u, x = some u → u < 8) → kk_held S u n x = kk_held S u 8 (some t) → ∀ (H : Heap) (locs : List Loc) (ls : Array Slot), va_P D vwCl (fk_kW ad cI cT S ++ X) H → va_D A (fk_kW ad cI cT S ++ X) → va_S A s.heap H locs → lv_has ls 5 [(4, .int (nI i)), (3, (match x with | none => Value.null | some t9 => Value.ref (ad (3 + t9)))), (0, .ref (ad 0)), (1, .ref (ad (3 + t))), (2, .ref (ad (3 + u)))] → W p l e rmX2_isHeldUpBy s m ([.ref (ad 0), .ref (ad (3 + t)), .ref (ad (3 + u))] : List Value).toArray below meth c H locs 0 0 (fk_Q below D (fk_ty cI cT cJ) [.ref (ad 0), .ref (ad (3 + t)), .ref (ad (3 + u))] s A (fk_kW ad cI cT S ++ X) (some (.int (fk_b (kk_held S u 8 (some t)))))) (F0 m 5 ls []) := by
    intro n
    induction n with
    | zero =>
      intro i x hi hx9 hR H locs ls hP hD hS hl
      rcases x with _ | w
      · have hl : lv_has ls 5 [(4, .int (nI i)), (3, .null), (0, .ref (ad 0)), (1, .ref (ad (3 + t))), (2, .ref (ad (3 + u)))] := hl
        refine lv_iload hx hb dX2_isHeldUpBy_5 (lv_at hl 0 rfl) ?_
        refine lv_bipush (v := 8) hx hb dX2_isHeldUpBy_7 (by decide) ?_
        refine lv_icmp_ge (tgt := 48) hx hb dX2_isHeldUpBy_9 (by decide) (fun c_1 => ?_) (fun c_1 => absurd (nI_le (a := 8) (b := i) (by omega) (by omega)) c_1)
        refine lv_iconst (v := 0) hx hb dX2_isHeldUpBy_48 (by decide) ?_
        exact fk_zret hx hb hr hlocks hP hK hD hS (congrArg (fun z => fk_kW ad cI cT z ++ X) (by first | rfl | simp [c_1])) rfl (by rw [← hR]; rfl) dX2_isHeldUpBy_49
      · have hl : lv_has ls 5 [(4, .int (nI i)), (3, .ref (ad (3 + w))), (0, .ref (ad 0)), (1, .ref (ad (3 + t))), (2, .ref (ad (3 + u)))] := hl
        have hw : w < 8 := hx9 w rfl
        refine lv_iload hx hb dX2_isHeldUpBy_5 (lv_at hl 0 rfl) ?_
        refine lv_bipush (v := 8) hx hb dX2_isHeldUpBy_7 (by decide) ?_
        refine lv_icmp_ge (tgt := 48) hx hb dX2_isHeldUpBy_9 (by decide) (fun c_2 => ?_) (fun c_2 => absurd (nI_le (a := 8) (b := i) (by omega) (by omega)) c_2)
        refine lv_iconst (v := 0) hx hb dX2_isHeldUpBy_48 (by decide) ?_
        exact fk_zret hx hb hr hlocks hP hK hD hS (congrArg (fun z => fk_kW ad cI cT z ++ X) (by first | rfl | simp [c_2])) rfl (by rw [← hR]; rfl) dX2_isHeldUpBy_49
    | succ n ih =>
      intro i x hi hx9 hR H locs ls hP hD hS hl
      rcases x with _ | w
      · have hl : lv_has ls 5 [(4, .int (nI i)), (3, .null), (0, .ref (ad 0)), (1, .ref (ad (3 + t))), (2, .ref (ad (3 + u)))] := hl
        refine lv_iload hx hb dX2_isHeldUpBy_5 (lv_at hl 0 rfl) ?_
        refine lv_bipush (v := 8) hx hb dX2_isHeldUpBy_7 (by decide) ?_
        refine lv_icmp_ge (tgt := 48) hx hb dX2_isHeldUpBy_9 (by decide) (fun c_3 => absurd c_3 (nI_ge (a := i) (b := 8) (by omega) (by omega))) (fun c_3 => ?_)
        refine lv_aload_nN hx hb dX2_isHeldUpBy_12 rfl (lv_at hl 1 rfl) ?_
        refine lv_ifnullN (tgt := 24) hx hb dX2_isHeldUpBy_13 (by decide) ?_
        refine lv_iconst (v := 0) hx hb dX2_isHeldUpBy_24 (by decide) ?_
        exact fk_zret hx hb hr hlocks hP hK hD hS (congrArg (fun z => fk_kW ad cI cT z ++ X) (by first | rfl | simp [c_3])) rfl (by rw [← hR]; simp [kk_held, fk_b, c_3]) dX2_isHeldUpBy_25
      · have hl : lv_has ls 5 [(4, .int (nI i)), (3, .ref (ad (3 + w))), (0, .ref (ad 0)), (1, .ref (ad (3 + t))), (2, .ref (ad (3 + u)))] := hl
        have hw : w < 8 := hx9 w rfl
        refine lv_iload hx hb dX2_isHeldUpBy_5 (lv_at hl 0 rfl) ?_
        refine lv_bipush (v := 8) hx hb dX2_isHeldUpBy_7 (by decide) ?_
        refine lv_icmp_ge (tgt := 48) hx hb dX2_isHeldUpBy_9 (by decide) (fun c_4 => absurd c_4 (nI_ge (a := i) (b := 8) (by omega) (by omega))) (fun c_4 => ?_)
        refine lv_aload_n hx hb dX2_isHeldUpBy_12 rfl (lv_at hl 1 rfl) ?_
        refine lv_ifnull hx hb dX2_isHeldUpBy_13 ?_
        refine lv_aload_n hx hb dX2_isHeldUpBy_16 rfl (lv_at hl 1 rfl) ?_
        refine fk_getT hx hb hts hiX1 hown hK hP hw 2 (by decide) (v := .int (S 1 w)) rfl (List.mem_of_getElem? (i := 1) rfl) rfl dX2_isHeldUpBy_17 ?_
        refine lv_iconst (v := 2) hx hb dX2_isHeldUpBy_20 (by decide) ?_
        refine lv_icmp_eq (tgt := 26) hx hb dX2_isHeldUpBy_21 (by decide) (fun c_5 => ?_) (fun c_5 => ?_)
        · refine lv_aload_n hx hb dX2_isHeldUpBy_26 rfl (lv_at hl 2 rfl) ?_
          refine lv_aload_n hx hb dX2_isHeldUpBy_27 rfl (lv_at hl 1 rfl) ?_
          refine fk_getT hx hb hts hiX1 hown hK hP hw 4 (by decide) (v := .int (S 3 w)) rfl (List.mem_of_getElem? (i := 2) rfl) rfl dX2_isHeldUpBy_28 ?_
          refine fk_callV (As := [.int (S 3 w)]) (rest := []) ⟨hx, hb, hml, hown, hts⟩ (kc_ownerAt l D ad cI cT cJ X S (S 3 w)) (cwV 1 hts gX2_isHeldUpBy_X2_ownerAt rfl rfl rfl (by decide +kernel) ⟨Nat.le_of_ble_eq_true rfl, Nat.le_of_ble_eq_true rfl⟩) (fk_rvK hK hP) hK hP hD hS hA rfl hl.1 rfl (Nat.le_of_ble_eq_true rfl) dX2_isHeldUpBy_31 ⟨Nat.le_of_ble_eq_true rfl, Nat.le_of_ble_eq_true rfl⟩ (fun H locs hP hD hS => ?_)
          rcases o_6 : kk_owner S (S 3 w) with _ | u7
          · refine W.eq (g2 := F0 m 34 ls [.null]) (by first | rfl | (rw [o_6]; rfl)) ?_
            refine lv_astore_nN (lv' := [(3, .null), (4, .int (nI i)), (0, .ref (ad 0)), (1, .ref (ad (3 + t))), (2, .ref (ad (3 + u)))]) hx hb dX2_isHeldUpBy_34 rfl hl (by decide) rfl (fun ls hl => ?_)
            refine lv_aload_nN hx hb dX2_isHeldUpBy_35 rfl (lv_at hl 0 rfl) ?_
            refine lv_aload_n hx hb dX2_isHeldUpBy_36 rfl (lv_at hl 4 rfl) ?_
            refine lv_acmp_ne (rx := none) (ry := (some (ad (3 + u)))) (tgt := 42) hx hb dX2_isHeldUpBy_37 (by decide) (fun _ => ?_) (fun c => absurd c (fun h => by cases h))
            refine lv_iinc (v := (nI (i + 1))) (lv' := [(4, .int (nI (i + 1))), (3, .null), (0, .ref (ad 0)), (1, .ref (ad (3 + t))), (2, .ref (ad (3 + u)))]) hx hb dX2_isHeldUpBy_42 hl (k := 1) rfl (nI_1 i) (by decide) rfl (fun ls hl => ?_)
            refine lv_goto (tgt := 5) hx hb dX2_isHeldUpBy_45 (by decide) ?_
            exact ih (i + 1) none (by omega) (by intro w hw; cases hw) (by rw [← hR]; simp [kk_held, c_4, c_5, o_6]) _ _ _ hP hD hS (lv_sub hl [0, 1, 2, 3, 4] rfl)
          · have hu_8 : u7 < 8 := kk_owner_lt o_6
            refine W.eq (g2 := F0 m 34 ls [.ref (ad (3 + u7))]) (by first | rfl | (rw [o_6]; rfl)) ?_
            refine lv_astore_n (lv' := [(3, .ref (ad (3 + u7))), (4, .int (nI i)), (0, .ref (ad 0)), (1, .ref (ad (3 + t))), (2, .ref (ad (3 + u)))]) hx hb dX2_isHeldUpBy_34 rfl hl (by decide) rfl (fun ls hl => ?_)
            refine lv_aload_n hx hb dX2_isHeldUpBy_35 rfl (lv_at hl 0 rfl) ?_
            refine lv_aload_n hx hb dX2_isHeldUpBy_36 rfl (lv_at hl 4 rfl) ?_
            refine lv_acmp_ne (rx := (some (ad (3 + u7)))) (ry := (some (ad (3 + u)))) (tgt := 42) hx hb dX2_isHeldUpBy_37 (by decide) (fun c_9 => ?_) (fun c_9 => ?_)
            · have f_10 : ¬ u7 = u := fun h9 => c_9 (by rw [h9])
              refine lv_iinc (v := (nI (i + 1))) (lv' := [(4, .int (nI (i + 1))), (3, .ref (ad (3 + u7))), (0, .ref (ad 0)), (1, .ref (ad (3 + t))), (2, .ref (ad (3 + u)))]) hx hb dX2_isHeldUpBy_42 hl (k := 1) rfl (nI_1 i) (by decide) rfl (fun ls hl => ?_)
              refine lv_goto (tgt := 5) hx hb dX2_isHeldUpBy_45 (by decide) ?_
              exact ih (i + 1) (some u7) (by omega) (by intro w hw; cases hw; omega) (by rw [← hR]; simp [kk_held, c_4, c_5, o_6, c_9, f_10]) _ _ _ hP hD hS (lv_sub hl [0, 1, 2, 3, 4] rfl)
            · have e_11 : u7 = u := fk_adT hD hu_8 hu c_9
              refine lv_iconst (v := 1) hx hb dX2_isHeldUpBy_40 (by decide) ?_
              exact fk_zret hx hb hr hlocks hP hK hD hS (congrArg (fun z => fk_kW ad cI cT z ++ X) (by first | rfl | simp [c_4, c_5, o_6, c_9, e_11])) rfl (by rw [← hR]; simp [kk_held, fk_b, c_4, c_5, o_6, c_9, e_11]) dX2_isHeldUpBy_41
        · refine lv_iconst (v := 0) hx hb dX2_isHeldUpBy_24 (by decide) ?_
          exact fk_zret hx hb hr hlocks hP hK hD hS (congrArg (fun z => fk_kW ad cI cT z ++ X) (by first | rfl | simp [c_4, c_5])) rfl (by rw [← hR]; simp [kk_held, fk_b, c_4, c_5]) dX2_isHeldUpBy_25
  exact loop 8 0 (some t) rfl (by intro w hw; cases hw; exact ht) rfl _ _ _ hP hD hS (lv_sub hl [0, 1, 2, 3, 4] rfl)

abbrev rmX2_blockedByOneOf : Room := { frames := 2, cells := 0, slots := 0, locals := 42 }
set_option maxHeartbeats 4000000 in
set_option maxRecDepth 100000 in
theorem kc_blockedByOneOf (l : Launch) (D : va_G) (ad : Nat → Nat) (cI cT cJ : ClassId) (X : va_W) (S : fk_S) (bl : Int32) : fk_C l D (fk_ty cI cT cJ) yX2_blockedByOneOf wsX2_blockedByOneOf rmX2_blockedByOneOf [.ref (ad 0), .int bl] (fk_kW ad cI cT S ++ X) (some (.int (kk_blk S bl))) (fk_kW ad cI cT S ++ X) := by
  refine fk_C_of (cc := cX2_blockedByOneOf) (maxL := 8) (ret := (some .int)) (own := RX2) (by decide) rfl rfl (Nat.le_of_ble_eq_true rfl) ?_
  intro p e s m below meth c A ls hx hb hr hlocks hml hts hown hA hP hK hD hl
  have hS : va_S A s.heap s.heap [] := va_S.rf
  have hl : lv_has ls 8 [(0, .ref (ad 0)), (1, .int bl)] := hl
  have hiX1 : ∀ w ∈ u_ws RX1 TX1 11, w ∈ wsX2_blockedByOneOf := by decide +kernel
  have hiX2 : ∀ w ∈ u_ws RX2 TX2 6, w ∈ wsX2_blockedByOneOf := by decide +kernel
  refine lv_iconst (v := 0) hx hb dX2_blockedByOneOf_0 (by decide) ?_
  refine lv_istore_n (lv' := [(2, .int 0), (0, .ref (ad 0)), (1, .int bl)]) hx hb dX2_blockedByOneOf_1 rfl hl (by decide) rfl (fun ls hl => ?_)
  refine lv_aload_n hx hb dX2_blockedByOneOf_2 rfl (lv_at hl 1 rfl) ?_
  refine fk_getK hx hb hts hiX2 hown hK hP 1 (by decide) (v := .ref (ad 2)) rfl (List.mem_of_getElem? (i := 1) rfl) rfl dX2_blockedByOneOf_3 ?_
  refine lv_astore_n (lv' := [(3, .ref (ad 2)), (2, .int 0), (0, .ref (ad 0)), (1, .int bl)]) hx hb dX2_blockedByOneOf_6 rfl hl (by decide) rfl (fun ls hl => ?_)
  refine lv_aload_n hx hb dX2_blockedByOneOf_7 rfl (lv_at hl 0 rfl) ?_
  refine fk_lenA hx hb hK hP dX2_blockedByOneOf_8 ?_
  refine lv_istore (lv' := [(4, .int 8), (3, .ref (ad 2)), (2, .int 0), (0, .ref (ad 0)), (1, .int bl)]) hx hb dX2_blockedByOneOf_9 hl (by decide) rfl (fun ls hl => ?_)
  refine lv_iconst (v := 0) hx hb dX2_blockedByOneOf_11 (by decide) ?_
  refine lv_istore (lv' := [(5, .int 0), (4, .int 8), (3, .ref (ad 2)), (2, .int 0), (0, .ref (ad 0)), (1, .int bl)]) hx hb dX2_blockedByOneOf_12 hl (by decide) rfl (fun ls hl => ?_)
  have loop : ∀ (n : Nat) (i : Nat) (x : Int32), i + n = 8 → fk_lp (kk_blk1 S bl) n i x = kk_blk S bl → ∀ (H : Heap) (locs : List Loc) (ls : Array Slot), va_P D vwCl (fk_kW ad cI cT S ++ X) H → va_D A (fk_kW ad cI cT S ++ X) → va_S A s.heap H locs → lv_has ls 8 [(2, .int x), (0, .ref (ad 0)), (1, .int bl), (3, .ref (ad 2)), (4, .int 8), (5, .int (nI i))] → W p l e rmX2_blockedByOneOf s m ([.ref (ad 0), .int bl] : List Value).toArray below meth c H locs 0 0 (fk_Q below D (fk_ty cI cT cJ) [.ref (ad 0), .int bl] s A (fk_kW ad cI cT S ++ X) (some (.int (kk_blk S bl)))) (F0 m 14 ls []) := by
    intro n
    induction n with
    | zero =>
      intro i x hi hR H locs ls hP hD hS hl
      refine lv_iload hx hb dX2_blockedByOneOf_14 (lv_at hl 5 rfl) ?_
      refine lv_iload hx hb dX2_blockedByOneOf_16 (lv_at hl 4 rfl) ?_
      refine lv_icmp_ge (tgt := 80) hx hb dX2_blockedByOneOf_18 (by decide) (fun c_1 => ?_) (fun c_1 => absurd (nI_le (a := 8) (b := i) (by omega) (by omega)) c_1)
      refine lv_iload_n hx hb dX2_blockedByOneOf_80 rfl (lv_at hl 0 rfl) ?_
      exact fk_iret hx hb hr hlocks hP hK hD hS (congrArg (fun z => fk_kW ad cI cT z ++ X) (by first | rfl | simp [c_1])) (by rw [← hR]; rfl) dX2_blockedByOneOf_81
    | succ n ih =>
      intro i x hi hR H locs ls hP hD hS hl
      refine lv_iload hx hb dX2_blockedByOneOf_14 (lv_at hl 5 rfl) ?_
      refine lv_iload hx hb dX2_blockedByOneOf_16 (lv_at hl 4 rfl) ?_
      refine lv_icmp_ge (tgt := 80) hx hb dX2_blockedByOneOf_18 (by decide) (fun c_2 => absurd c_2 (nI_ge (a := i) (b := 8) (by omega) (by omega))) (fun c_2 => ?_)
      refine lv_aload_n hx hb dX2_blockedByOneOf_21 rfl (lv_at hl 3 rfl) ?_
      refine lv_iload hx hb dX2_blockedByOneOf_22 (lv_at hl 5 rfl) ?_
      refine fk_ldA hx hb hK hP (vp_in_nI (show i < 8 from (by omega)) (by decide)) dX2_blockedByOneOf_24 ?_
      refine W.eq (g2 := F0 m 25 ls [.ref (ad (3 + i))]) (by rw [nI_clamp (by omega)]) ?_
      refine lv_astore (lv' := [(6, .ref (ad (3 + i))), (2, .int x), (0, .ref (ad 0)), (1, .int bl), (3, .ref (ad 2)), (4, .int 8), (5, .int (nI i))]) hx hb dX2_blockedByOneOf_25 hl (by decide) rfl (fun ls hl => ?_)
      refine lv_aload hx hb dX2_blockedByOneOf_27 (lv_at hl 0 rfl) ?_
      refine fk_getT hx hb hts hiX1 hown hK hP (by omega) 2 (by decide) (v := .int (S 1 i)) rfl (List.mem_of_getElem? (i := 2) rfl) rfl dX2_blockedByOneOf_29 ?_
      refine lv_iconst (v := 2) hx hb dX2_blockedByOneOf_32 (by decide) ?_
      refine lv_icmp_ne (tgt := 48) hx hb dX2_blockedByOneOf_33 (by decide) (fun c_3 => ?_) (fun c_3 => ?_)
      · refine lv_null hx hb dX2_blockedByOneOf_48 ?_
        refine lv_astoreN (lv' := [(7, .null), (6, .ref (ad (3 + i))), (2, .int x), (0, .ref (ad 0)), (1, .int bl), (3, .ref (ad 2)), (4, .int 8), (5, .int (nI i))]) hx hb dX2_blockedByOneOf_49 hl (by decide) rfl (fun ls hl => ?_)
        refine lv_aloadN hx hb dX2_blockedByOneOf_51 (lv_at hl 0 rfl) ?_
        refine lv_ifnullN (tgt := 74) hx hb dX2_blockedByOneOf_53 (by decide) ?_
        refine lv_iinc (v := (nI (i + 1))) (lv' := [(5, .int (nI (i + 1))), (7, .null), (6, .ref (ad (3 + i))), (2, .int x), (0, .ref (ad 0)), (1, .int bl), (3, .ref (ad 2)), (4, .int 8)]) hx hb dX2_blockedByOneOf_74 hl (k := 7) rfl (nI_1 i) (by decide) rfl (fun ls hl => ?_)
        refine lv_goto (tgt := 14) hx hb dX2_blockedByOneOf_77 (by decide) ?_
        exact ih (i + 1) x (by omega) ((congrArg (fk_lp _ n (i + 1)) (show x = kk_blk1 S bl i x from by simp [kk_blk1, c_3])).trans hR) _ _ _ hP hD hS (lv_sub hl [3, 4, 5, 6, 7, 0] rfl)
      · refine lv_aload_n hx hb dX2_blockedByOneOf_36 rfl (lv_at hl 2 rfl) ?_
        refine lv_aload hx hb dX2_blockedByOneOf_37 (lv_at hl 0 rfl) ?_
        refine fk_getT hx hb hts hiX1 hown hK hP (by omega) 4 (by decide) (v := .int (S 3 i)) rfl (List.mem_of_getElem? (i := 3) rfl) rfl dX2_blockedByOneOf_39 ?_
        refine fk_callV (As := [.int (S 3 i)]) (rest := []) ⟨hx, hb, hml, hown, hts⟩ (kc_ownerAt l D ad cI cT cJ X S (S 3 i)) (cwV 1 hts gX2_blockedByOneOf_X2_ownerAt rfl rfl rfl (by decide +kernel) ⟨Nat.le_of_ble_eq_true rfl, Nat.le_of_ble_eq_true rfl⟩) (fk_rvK hK hP) hK hP hD hS hA rfl hl.1 rfl (Nat.le_of_ble_eq_true rfl) dX2_blockedByOneOf_42 ⟨Nat.le_of_ble_eq_true rfl, Nat.le_of_ble_eq_true rfl⟩ (fun H locs hP hD hS => ?_)
        rcases o_4 : kk_owner S (S 3 i) with _ | u5
        · refine W.eq (g2 := F0 m 45 ls [.null]) (by first | rfl | (rw [o_4]; rfl)) ?_
          refine lv_goto (tgt := 49) hx hb dX2_blockedByOneOf_45 (by decide) ?_
          refine lv_astoreN (lv' := [(7, .null), (6, .ref (ad (3 + i))), (2, .int x), (0, .ref (ad 0)), (1, .int bl), (3, .ref (ad 2)), (4, .int 8), (5, .int (nI i))]) hx hb dX2_blockedByOneOf_49 hl (by decide) rfl (fun ls hl => ?_)
          refine lv_aloadN hx hb dX2_blockedByOneOf_51 (lv_at hl 0 rfl) ?_
          refine lv_ifnullN (tgt := 74) hx hb dX2_blockedByOneOf_53 (by decide) ?_
          refine lv_iinc (v := (nI (i + 1))) (lv' := [(5, .int (nI (i + 1))), (7, .null), (6, .ref (ad (3 + i))), (2, .int x), (0, .ref (ad 0)), (1, .int bl), (3, .ref (ad 2)), (4, .int 8)]) hx hb dX2_blockedByOneOf_74 hl (k := 7) rfl (nI_1 i) (by decide) rfl (fun ls hl => ?_)
          refine lv_goto (tgt := 14) hx hb dX2_blockedByOneOf_77 (by decide) ?_
          exact ih (i + 1) x (by omega) ((congrArg (fk_lp _ n (i + 1)) (show x = kk_blk1 S bl i x from by simp [kk_blk1, c_3, o_4])).trans hR) _ _ _ hP hD hS (lv_sub hl [3, 4, 5, 6, 7, 0] rfl)
        · have hu_6 : u5 < 8 := kk_owner_lt o_4
          refine W.eq (g2 := F0 m 45 ls [.ref (ad (3 + u5))]) (by first | rfl | (rw [o_4]; rfl)) ?_
          refine lv_goto (tgt := 49) hx hb dX2_blockedByOneOf_45 (by decide) ?_
          refine lv_astore (lv' := [(7, .ref (ad (3 + u5))), (6, .ref (ad (3 + i))), (2, .int x), (0, .ref (ad 0)), (1, .int bl), (3, .ref (ad 2)), (4, .int 8), (5, .int (nI i))]) hx hb dX2_blockedByOneOf_49 hl (by decide) rfl (fun ls hl => ?_)
          refine lv_aload hx hb dX2_blockedByOneOf_51 (lv_at hl 0 rfl) ?_
          refine lv_ifnull hx hb dX2_blockedByOneOf_53 ?_
          refine lv_aload hx hb dX2_blockedByOneOf_56 (lv_at hl 0 rfl) ?_
          refine fk_callV (As := []) (rest := []) ⟨hx, hb, hml, hown, hts⟩ (kc_bit l D ad cI cT cJ X S u5 hu_6) (cwV 0 hts gX2_blockedByOneOf_X1_bit rfl rfl rfl (by decide +kernel) ⟨Nat.le_of_ble_eq_true rfl, Nat.le_of_ble_eq_true rfl⟩) (fk_rvT hK hP hu_6) hK hP hD hS hA rfl hl.1 rfl (Nat.le_of_ble_eq_true rfl) dX2_blockedByOneOf_58 ⟨Nat.le_of_ble_eq_true rfl, Nat.le_of_ble_eq_true rfl⟩ (fun H locs hP hD hS => ?_)
          refine W.eq (g2 := F0 m 61 ls [.int (kk_bit u5)]) rfl ?_
          refine lv_iload_n hx hb dX2_blockedByOneOf_61 rfl (lv_at hl 4 rfl) ?_
          refine lv_iand hx hb dX2_blockedByOneOf_62 ?_
          refine lv_if_eq (tgt := 74) hx hb dX2_blockedByOneOf_63 (by decide) (fun c_7 => ?_) (fun c_7 => ?_)
          · refine lv_iinc (v := (nI (i + 1))) (lv' := [(5, .int (nI (i + 1))), (7, .ref (ad (3 + u5))), (6, .ref (ad (3 + i))), (2, .int x), (0, .ref (ad 0)), (1, .int bl), (3, .ref (ad 2)), (4, .int 8)]) hx hb dX2_blockedByOneOf_74 hl (k := 7) rfl (nI_1 i) (by decide) rfl (fun ls hl => ?_)
            refine lv_goto (tgt := 14) hx hb dX2_blockedByOneOf_77 (by decide) ?_
            exact ih (i + 1) x (by omega) ((congrArg (fk_lp _ n (i + 1)) (show x = kk_blk1 S bl i x from by simp [kk_blk1, c_3, o_4, c_7])).trans hR) _ _ _ hP hD hS (lv_sub hl [3, 4, 5, 6, 7, 0] rfl)
          · refine lv_iload_n hx hb dX2_blockedByOneOf_66 rfl (lv_at hl 2 rfl) ?_
            refine lv_aload hx hb dX2_blockedByOneOf_67 (lv_at hl 1 rfl) ?_
            refine fk_callV (As := []) (rest := [.int x]) ⟨hx, hb, hml, hown, hts⟩ (kc_bit l D ad cI cT cJ X S i (by omega)) (cwV 0 hts gX2_blockedByOneOf_X1_bit rfl rfl rfl (by decide +kernel) ⟨Nat.le_of_ble_eq_true rfl, Nat.le_of_ble_eq_true rfl⟩) (fk_rvT hK hP (by omega)) hK hP hD hS hA rfl hl.1 rfl (Nat.le_of_ble_eq_true rfl) dX2_blockedByOneOf_69 ⟨Nat.le_of_ble_eq_true rfl, Nat.le_of_ble_eq_true rfl⟩ (fun H locs hP hD hS => ?_)
            refine W.eq (g2 := F0 m 72 ls [.int (kk_bit i), .int x]) rfl ?_
            refine lv_ior hx hb dX2_blockedByOneOf_72 ?_
            refine lv_istore_n (lv' := [(2, .int (x ||| (kk_bit i))), (7, .ref (ad (3 + u5))), (6, .ref (ad (3 + i))), (0, .ref (ad 0)), (1, .int bl), (3, .ref (ad 2)), (4, .int 8), (5, .int (nI i))]) hx hb dX2_blockedByOneOf_73 rfl hl (by decide) rfl (fun ls hl => ?_)
            refine lv_iinc (v := (nI (i + 1))) (lv' := [(5, .int (nI (i + 1))), (2, .int (x ||| (kk_bit i))), (7, .ref (ad (3 + u5))), (6, .ref (ad (3 + i))), (0, .ref (ad 0)), (1, .int bl), (3, .ref (ad 2)), (4, .int 8)]) hx hb dX2_blockedByOneOf_74 hl (k := 7) rfl (nI_1 i) (by decide) rfl (fun ls hl => ?_)
            refine lv_goto (tgt := 14) hx hb dX2_blockedByOneOf_77 (by decide) ?_
            exact ih (i + 1) (x ||| (kk_bit i)) (by omega) ((congrArg (fk_lp _ n (i + 1)) (show (x ||| (kk_bit i)) = kk_blk1 S bl i x from by simp [kk_blk1, c_3, o_4, c_7])).trans hR) _ _ _ hP hD hS (lv_sub hl [1, 4, 5, 6, 7, 0] rfl)
  exact loop 8 0 0 rfl rfl _ _ _ hP hD hS (lv_sub hl [3, 4, 5, 2, 1, 0] rfl)
