abbrev rmX3_wakes : Room := { frames := 5, cells := 0, slots := 0, locals := 113 }
set_option maxHeartbeats 4000000 in
set_option maxRecDepth 100000 in
theorem mc_wakes (l : Launch) (D : va_G) (bd : Nat → Nat) (cI cT cJ : ClassId) (X : va_W) (S : fk_S) (a mk : Int32) (k : Nat) (hk : k ≤ 8) : fk_C l D (fk_ty cI cT cJ) yX3_wakes wsX3_wakes rmX3_wakes [.ref (bd 0), .int a, .int (nI k), .int mk] (fk_mW bd cI S ++ X) (some (.int (nI (mm_wake a mk k S).1))) (fk_mW bd cI (mm_wake a mk k S).2 ++ X) := by
  refine fk_C_of (cc := cX3_wakes) (maxL := 6) (ret := (some .int)) (own := RX3) (by decide) rfl rfl (Nat.le_of_ble_eq_true rfl) ?_
  intro p e s m below meth c A ls hx hb hr hlocks hml hts hown hA hP hK hD hl
  have hS : va_S A s.heap s.heap [] := va_S.rf
  have hl : lv_has ls 6 [(0, .ref (bd 0)), (1, .int a), (2, .int (nI k)), (3, .int mk)] := hl
  refine lv_iconst (v := 0) hx hb dX3_wakes_0 (by decide) ?_
  refine lv_istore (lv' := [(4, .int 0), (0, .ref (bd 0)), (1, .int a), (2, .int (nI k)), (3, .int mk)]) hx hb dX3_wakes_1 hl (by decide) rfl (fun ls hl => ?_)
  refine lv_aload_n hx hb dX3_wakes_3 rfl (lv_at hl 1 rfl) ?_
  refine lv_iload_n hx hb dX3_wakes_4 rfl (lv_at hl 2 rfl) ?_
  refine lv_iconst (v := 1) hx hb dX3_wakes_5 (by decide) ?_
  refine lv_iload_n hx hb dX3_wakes_6 rfl (lv_at hl 4 rfl) ?_
  refine fk_callV (As := [.int a, .int 1, .int mk]) (rest := []) ⟨hx, hb, hml, hown, hts⟩ (mc_first l D bd cI cT cJ X S a 1 mk) (cwV 3 hts gX3_wakes_X3_first rfl rfl rfl (by decide +kernel) ⟨Nat.le_of_ble_eq_true rfl, Nat.le_of_ble_eq_true rfl⟩) (fk_rvM hK hP) hK hP hD hS hA rfl hl.1 rfl (Nat.le_of_ble_eq_true rfl) dX3_wakes_7 ⟨Nat.le_of_ble_eq_true rfl, Nat.le_of_ble_eq_true rfl⟩ (fun H locs hP hD hS => ?_)
  refine W.eq (g2 := F0 m 10 ls [.int (fk_oI (mm_first S a 1 mk))]) rfl ?_
  refine lv_istore (lv' := [(5, .int (fk_oI (mm_first S a 1 mk))), (4, .int 0), (0, .ref (bd 0)), (1, .int a), (2, .int (nI k)), (3, .int mk)]) hx hb dX3_wakes_10 hl (by decide) rfl (fun ls hl => ?_)
  have loop : ∀ (n : Nat) (i : Nat) (S1 : fk_S), i + n = k → (mm_wake a mk n S1).2 = (mm_wake a mk k S).2 → i + (mm_wake a mk n S1).1 = (mm_wake a mk k S).1 → ∀ (H : Heap) (locs : List Loc) (ls : Array Slot), va_P D vwCl (fk_mW bd cI S1 ++ X) H → va_D A (fk_mW bd cI S1 ++ X) → va_S A s.heap H locs → lv_has ls 6 [(5, .int (fk_oI (mm_first S1 a 1 mk))), (4, .int (nI i)), (0, .ref (bd 0)), (1, .int a), (2, .int (nI k)), (3, .int mk)] → W p l e rmX3_wakes s m ([.ref (bd 0), .int a, .int (nI k), .int mk] : List Value).toArray below meth c H locs 0 0 (fk_Q below D (fk_ty cI cT cJ) [.ref (bd 0), .int a, .int (nI k), .int mk] s A (fk_mW bd cI (mm_wake a mk k S).2 ++ X) (some (.int (nI (mm_wake a mk k S).1)))) (F0 m 12 ls []) := by
    intro n
    induction n with
    | zero =>
      intro i S1 hi h2 h1 H locs ls hP hD hS hl
      refine lv_iload hx hb dX3_wakes_12 (lv_at hl 1 rfl) ?_
      refine lv_iload_n hx hb dX3_wakes_14 rfl (lv_at hl 4 rfl) ?_
      refine lv_icmp_ge (tgt := 46) hx hb dX3_wakes_15 (by decide) (fun c_1 => ?_) (fun c_1 => absurd (nI_le (a := k) (b := i) (by omega) (by omega)) c_1)
      refine lv_iload hx hb dX3_wakes_46 (lv_at hl 1 rfl) ?_
      exact fk_iret hx hb hr hlocks hP hK hD hS (congrArg (fun z => fk_mW bd cI z ++ X) (by rw [← h2]; rfl)) (by rw [← h1]; rfl) dX3_wakes_48
    | succ n ih =>
      intro i S1 hi h2 h1 H locs ls hP hD hS hl
      rcases o_9 : mm_first S1 a 1 mk with _ | u
      · rw [o_9] at hl
        have hl : lv_has ls 6 [(5, .int (-1)), (4, .int (nI i)), (0, .ref (bd 0)), (1, .int a), (2, .int (nI k)), (3, .int mk)] := hl
        refine lv_iload hx hb dX3_wakes_12 (lv_at hl 1 rfl) ?_
        refine lv_iload_n hx hb dX3_wakes_14 rfl (lv_at hl 4 rfl) ?_
        refine lv_icmp_ge (tgt := 46) hx hb dX3_wakes_15 (by decide) (fun c_2 => absurd c_2 (nI_ge (a := i) (b := k) (by omega) (by omega))) (fun c_2 => ?_)
        refine lv_iload hx hb dX3_wakes_18 (lv_at hl 0 rfl) ?_
        refine lv_iconst (v := (-1)) hx hb dX3_wakes_20 (by decide) ?_
        refine lv_icmp_eq (tgt := 46) hx hb dX3_wakes_21 (by decide) (fun _ => ?_) (fun c => absurd c (by decide))
        refine lv_iload hx hb dX3_wakes_46 (lv_at hl 1 rfl) ?_
        exact fk_iret hx hb hr hlocks hP hK hD hS (congrArg (fun z => fk_mW bd cI z ++ X) (by rw [← h2]; simp only [mm_wake, o_9])) (by rw [← h1]; simp only [mm_wake, o_9]; rfl) dX3_wakes_48
      · rw [o_9] at hl
        have hl : lv_has ls 6 [(5, .int (nI u)), (4, .int (nI i)), (0, .ref (bd 0)), (1, .int a), (2, .int (nI k)), (3, .int mk)] := hl
        have hu : u < 8 := mm_first_lt o_9
        refine lv_iload hx hb dX3_wakes_12 (lv_at hl 1 rfl) ?_
        refine lv_iload_n hx hb dX3_wakes_14 rfl (lv_at hl 4 rfl) ?_
        refine lv_icmp_ge (tgt := 46) hx hb dX3_wakes_15 (by decide) (fun c_4 => absurd c_4 (nI_ge (a := i) (b := k) (by omega) (by omega))) (fun c_4 => ?_)
        refine lv_iload hx hb dX3_wakes_18 (lv_at hl 0 rfl) ?_
        refine lv_iconst (v := (-1)) hx hb dX3_wakes_20 (by decide) ?_
        refine lv_icmp_eq (tgt := 46) hx hb dX3_wakes_21 (by decide) (fun c => absurd c (fk_nI_m1 (by omega))) (fun _ => ?_)
        refine lv_aload_n hx hb dX3_wakes_24 rfl (lv_at hl 2 rfl) ?_
        refine lv_iload hx hb dX3_wakes_25 (lv_at hl 0 rfl) ?_
        refine lv_iconst (v := 0) hx hb dX3_wakes_27 (by decide) ?_
        refine fk_callV (As := [.int (nI u), .int 0]) (rest := []) ⟨hx, hb, hml, hown, hts⟩ (mc_ends l D bd cI cT cJ X S1 u 0 hu (fun h9 => absurd ((mm_first_spec o_9).1.symm.trans h9) (by decide))) (cwV 2 hts gX3_wakes_X3_ends rfl rfl rfl (by decide +kernel) ⟨Nat.le_of_ble_eq_true rfl, Nat.le_of_ble_eq_true rfl⟩) (fk_rvM hK hP) hK hP hD hS hA rfl hl.1 rfl (Nat.le_of_ble_eq_true rfl) dX3_wakes_28 ⟨Nat.le_of_ble_eq_true rfl, Nat.le_of_ble_eq_true rfl⟩ (fun H locs hP hD hS => ?_)
        refine W.eq (g2 := F0 m 31 ls []) rfl ?_
        refine lv_iinc (v := (nI (i + 1))) (lv' := [(4, .int (nI (i + 1))), (5, .int (nI u)), (0, .ref (bd 0)), (1, .int a), (2, .int (nI k)), (3, .int mk)]) hx hb dX3_wakes_31 hl (k := 1) rfl (nI_1 i) (by decide) rfl (fun ls hl => ?_)
        refine lv_aload_n hx hb dX3_wakes_34 rfl (lv_at hl 2 rfl) ?_
        refine lv_iload_n hx hb dX3_wakes_35 rfl (lv_at hl 3 rfl) ?_
        refine lv_iconst (v := 1) hx hb dX3_wakes_36 (by decide) ?_
        refine lv_iload_n hx hb dX3_wakes_37 rfl (lv_at hl 5 rfl) ?_
        refine fk_callV (As := [.int a, .int 1, .int mk]) (rest := []) ⟨hx, hb, hml, hown, hts⟩ (mc_first l D bd cI cT cJ X (mm_end S1 u 0) a 1 mk) (cwV 3 hts gX3_wakes_X3_first rfl rfl rfl (by decide +kernel) ⟨Nat.le_of_ble_eq_true rfl, Nat.le_of_ble_eq_true rfl⟩) (fk_rvM hK hP) hK hP hD hS hA rfl hl.1 rfl (Nat.le_of_ble_eq_true rfl) dX3_wakes_38 ⟨Nat.le_of_ble_eq_true rfl, Nat.le_of_ble_eq_true rfl⟩ (fun H locs hP hD hS => ?_)
        refine W.eq (g2 := F0 m 41 ls [.int (fk_oI (mm_first (mm_end S1 u 0) a 1 mk))]) rfl ?_
        refine lv_istore (lv' := [(5, .int (fk_oI (mm_first (mm_end S1 u 0) a 1 mk))), (4, .int (nI (i + 1))), (0, .ref (bd 0)), (1, .int a), (2, .int (nI k)), (3, .int mk)]) hx hb dX3_wakes_41 hl (by decide) rfl (fun ls hl => ?_)
        refine lv_goto (tgt := 12) hx hb dX3_wakes_43 (by decide) ?_
        exact ih (i + 1) (mm_end S1 u 0) (by omega) (by rw [← h2]; simp only [mm_wake, o_9]) (by rw [← h1]; simp only [mm_wake, o_9]; omega) _ _ _ hP hD hS (lv_sub hl [0, 1, 2, 3, 4, 5] rfl)
  exact loop k 0 S (by omega) rfl (by omega) _ _ _ hP hD hS (lv_sub hl [0, 1, 2, 3, 4, 5] rfl)

abbrev rmX3_isDeadlock : Room := { frames := 1, cells := 0, slots := 0, locals := 20 }
set_option maxHeartbeats 4000000 in
set_option maxRecDepth 100000 in
theorem mc_isDeadlock (l : Launch) (D : va_G) (bd : Nat → Nat) (cI cT cJ : ClassId) (X : va_W) (S : fk_S) (t : Nat) (ow : Int32) (ht : t < 8) (hat : ∀ u, u < 8 → S 1 u = 2 → vp_in (S 3 u) 16) : fk_C l D (fk_ty cI cT cJ) yX3_isDeadlock wsX3_isDeadlock rmX3_isDeadlock [.ref (bd 0), .int (nI t), .int ow] (fk_mW bd cI S ++ X) (some (.int (fk_b (mm_dead S t 8 ow false)))) (fk_mW bd cI S ++ X) := by
  refine fk_C_of (cc := cX3_isDeadlock) (maxL := 6) (ret := (some .boolean)) (own := RX3) (by decide) rfl rfl (Nat.le_of_ble_eq_true rfl) ?_
  intro p e s m below meth c A ls hx hb hr hlocks hml hts hown hA hP hK hD hl
  have hS : va_S A s.heap s.heap [] := va_S.rf
  have hl : lv_has ls 6 [(0, .ref (bd 0)), (1, .int (nI t)), (2, .int ow)] := hl
  have hiX3 : ∀ w ∈ u_ws RX3 TX3 17, w ∈ wsX3_isDeadlock := by decide +kernel
  refine lv_iload_n hx hb dX3_isDeadlock_0 rfl (lv_at hl 2 rfl) ?_
  refine lv_istore_n (lv' := [(3, .int ow), (0, .ref (bd 0)), (1, .int (nI t)), (2, .int ow)]) hx hb dX3_isDeadlock_1 rfl hl (by decide) rfl (fun ls hl => ?_)
  refine lv_iconst (v := 0) hx hb dX3_isDeadlock_2 (by decide) ?_
  refine lv_istore (lv' := [(4, .int 0), (3, .int ow), (0, .ref (bd 0)), (1, .int (nI t)), (2, .int ow)]) hx hb dX3_isDeadlock_3 hl (by decide) rfl (fun ls hl => ?_)
  refine lv_iconst (v := 0) hx hb dX3_isDeadlock_5 (by decide) ?_
  refine lv_istore (lv' := [(5, .int 0), (4, .int 0), (3, .int ow), (0, .ref (bd 0)), (1, .int (nI t)), (2, .int ow)]) hx hb dX3_isDeadlock_6 hl (by decide) rfl (fun ls hl => ?_)
  have loop : ∀ (n : Nat) (i : Nat) (w : Int32) (b : Bool), i + n = 8 → mm_dead S t n w b = mm_dead S t 8 ow false → ∀ (H : Heap) (locs : List Loc) (ls : Array Slot), va_P D vwCl (fk_mW bd cI S ++ X) H → va_D A (fk_mW bd cI S ++ X) → va_S A s.heap H locs → lv_has ls 6 [(5, .int (nI i)), (4, .int (fk_b b)), (3, .int w), (0, .ref (bd 0)), (1, .int (nI t)), (2, .int ow)] → W p l e rmX3_isDeadlock s m ([.ref (bd 0), .int (nI t), .int ow] : List Value).toArray below meth c H locs 0 0 (fk_Q below D (fk_ty cI cT cJ) [.ref (bd 0), .int (nI t), .int ow] s A (fk_mW bd cI S ++ X) (some (.int (fk_b (mm_dead S t 8 ow false))))) (F0 m 8 ls []) := by
    intro n
    induction n with
    | zero =>
      intro i w b hi hR H locs ls hP hD hS hl
      refine lv_iload hx hb dX3_isDeadlock_8 (lv_at hl 0 rfl) ?_
      refine lv_bipush (v := 8) hx hb dX3_isDeadlock_10 (by decide) ?_
      refine lv_icmp_ge (tgt := 70) hx hb dX3_isDeadlock_12 (by decide) (fun c_1 => ?_) (fun c_1 => absurd (nI_le (a := 8) (b := i) (by omega) (by omega)) c_1)
      refine lv_iload hx hb dX3_isDeadlock_70 (lv_at hl 1 rfl) ?_
      exact fk_zret hx hb hr hlocks hP hK hD hS (congrArg (fun z => fk_mW bd cI z ++ X) (by first | rfl | simp [c_1])) (by exact fk_b_n _) (by rw [← hR]; rfl) dX3_isDeadlock_72
    | succ n ih =>
      intro i w b hi hR H locs ls hP hD hS hl
      cases b with
      | true =>
        have hl : lv_has ls 6 [(5, .int (nI i)), (4, .int 1), (3, .int w), (0, .ref (bd 0)), (1, .int (nI t)), (2, .int ow)] := hl
        refine lv_iload hx hb dX3_isDeadlock_8 (lv_at hl 0 rfl) ?_
        refine lv_bipush (v := 8) hx hb dX3_isDeadlock_10 (by decide) ?_
        refine lv_icmp_ge (tgt := 70) hx hb dX3_isDeadlock_12 (by decide) (fun c_2 => absurd c_2 (nI_ge (a := i) (b := 8) (by omega) (by omega))) (fun c_2 => ?_)
        refine lv_iload hx hb dX3_isDeadlock_15 (lv_at hl 1 rfl) ?_
        refine lv_if_ne (tgt := 70) hx hb dX3_isDeadlock_17 (by decide) (fun _ => ?_) (fun c => absurd c (by decide))
        refine lv_iload hx hb dX3_isDeadlock_70 (lv_at hl 1 rfl) ?_
        exact fk_zret hx hb hr hlocks hP hK hD hS (congrArg (fun z => fk_mW bd cI z ++ X) (by first | rfl | simp [c_2])) rfl (by rw [← hR]; simp [mm_dead, fk_b]) dX3_isDeadlock_72
      | false =>
        have hl : lv_has ls 6 [(5, .int (nI i)), (4, .int 0), (3, .int w), (0, .ref (bd 0)), (1, .int (nI t)), (2, .int ow)] := hl
        refine lv_iload hx hb dX3_isDeadlock_8 (lv_at hl 0 rfl) ?_
        refine lv_bipush (v := 8) hx hb dX3_isDeadlock_10 (by decide) ?_
        refine lv_icmp_ge (tgt := 70) hx hb dX3_isDeadlock_12 (by decide) (fun c_4 => absurd c_4 (nI_ge (a := i) (b := 8) (by omega) (by omega))) (fun c_4 => ?_)
        refine lv_iload hx hb dX3_isDeadlock_15 (lv_at hl 1 rfl) ?_
        refine lv_if_ne (tgt := 70) hx hb dX3_isDeadlock_17 (by decide) (fun c => absurd c (by decide)) (fun _ => ?_)
        refine lv_iload_n hx hb dX3_isDeadlock_20 rfl (lv_at hl 2 rfl) ?_
        refine fk_callS (As := [.int w]) (rest := []) ⟨hx, hb, hml, hown, hts⟩ (mc_isThread l D bd cI cT cJ X S w) (va_cwS 1 hts gX3_isDeadlock_X3_isThread rfl rfl rfl (by decide +kernel) ⟨Nat.le_of_ble_eq_true rfl, Nat.le_of_ble_eq_true rfl⟩) hK hP hD hS hA rfl hl.1 rfl (Nat.le_of_ble_eq_true rfl) dX3_isDeadlock_21 ⟨Nat.le_of_ble_eq_true rfl, Nat.le_of_ble_eq_true rfl⟩ (fun H locs hP hD hS => ?_)
        cases b_6 : fk_isT w with
        | true =>
          refine W.eq (g2 := F0 m 24 ls [.int 1]) (by first | rfl | (rw [b_6]; rfl)) ?_
          refine lv_if_eq (tgt := 70) hx hb dX3_isDeadlock_24 (by decide) (fun c => absurd c (by decide)) (fun _ => ?_)
          refine lv_aload_n hx hb dX3_isDeadlock_27 rfl (lv_at hl 3 rfl) ?_
          refine fk_getM hx hb hts hiX3 hown hK hP 1 (by decide) (v := .ref (bd 2)) rfl (List.mem_of_getElem? (i := 1) rfl) rfl dX3_isDeadlock_28 ?_
          refine lv_iload_n hx hb dX3_isDeadlock_31 rfl (lv_at hl 2 rfl) ?_
          refine fk_ldN hx hb hK hP 1 1 8 rfl (by decide) rfl rfl (fk_isT_in b_6) dX3_isDeadlock_32 ?_
          refine lv_iconst (v := 2) hx hb dX3_isDeadlock_33 (by decide) ?_
          refine lv_icmp_ne (tgt := 70) hx hb dX3_isDeadlock_34 (by decide) (fun c_8 => ?_) (fun c_8 => ?_)
          · refine lv_iload hx hb dX3_isDeadlock_70 (lv_at hl 1 rfl) ?_
            exact fk_zret hx hb hr hlocks hP hK hD hS (congrArg (fun z => fk_mW bd cI z ++ X) (by first | rfl | simp [c_4, b_6, c_8])) rfl (by rw [← hR]; simp [mm_dead, fk_b, b_6, c_8]) dX3_isDeadlock_72
          · refine lv_aload_n hx hb dX3_isDeadlock_37 rfl (lv_at hl 3 rfl) ?_
            refine fk_getM hx hb hts hiX3 hown hK hP 0 (by decide) (v := .ref (bd 1)) rfl (List.mem_of_getElem? (i := 2) rfl) rfl dX3_isDeadlock_38 ?_
            refine lv_aload_n hx hb dX3_isDeadlock_41 rfl (lv_at hl 3 rfl) ?_
            refine fk_getM hx hb hts hiX3 hown hK hP 5 (by decide) (v := .ref (bd 6)) rfl (List.mem_of_getElem? (i := 3) rfl) rfl dX3_isDeadlock_42 ?_
            refine lv_iload_n hx hb dX3_isDeadlock_45 rfl (lv_at hl 2 rfl) ?_
            refine fk_ldN hx hb hK hP 5 3 8 rfl (by decide) rfl rfl (fk_isT_in b_6) dX3_isDeadlock_46 ?_
            refine fk_ldN hx hb hK hP 0 0 16 rfl (by decide) rfl rfl (hat _ (Nat.not_le.mp fun q => (fk_isT_in b_6) (Or.inr q)) c_8) dX3_isDeadlock_47 ?_
            refine fk_callS (As := [.int (S 0 ((S 3 w.toNatClampNeg).toNatClampNeg))]) (rest := []) ⟨hx, hb, hml, hown, hts⟩ (mc_ownerOf l D bd cI cT cJ X S (S 0 ((S 3 w.toNatClampNeg).toNatClampNeg))) (va_cwS 1 hts gX3_isDeadlock_X3_ownerOf rfl rfl rfl (by decide +kernel) ⟨Nat.le_of_ble_eq_true rfl, Nat.le_of_ble_eq_true rfl⟩) hK hP hD hS hA rfl hl.1 rfl (Nat.le_of_ble_eq_true rfl) dX3_isDeadlock_48 ⟨Nat.le_of_ble_eq_true rfl, Nat.le_of_ble_eq_true rfl⟩ (fun H locs hP hD hS => ?_)
            refine W.eq (g2 := F0 m 51 ls [.int (mm_own (S 0 ((S 3 w.toNatClampNeg).toNatClampNeg)))]) rfl ?_
            refine lv_istore_n (lv' := [(3, .int (mm_own (S 0 ((S 3 w.toNatClampNeg).toNatClampNeg)))), (5, .int (nI i)), (4, .int 0), (0, .ref (bd 0)), (1, .int (nI t)), (2, .int ow)]) hx hb dX3_isDeadlock_51 rfl hl (by decide) rfl (fun ls hl => ?_)
            refine lv_iload_n hx hb dX3_isDeadlock_52 rfl (lv_at hl 0 rfl) ?_
            refine lv_iload_n hx hb dX3_isDeadlock_53 rfl (lv_at hl 4 rfl) ?_
            refine lv_icmp_ne (tgt := 61) hx hb dX3_isDeadlock_54 (by decide) (fun c_9 => ?_) (fun c_9 => ?_)
            · refine lv_iconst (v := 0) hx hb dX3_isDeadlock_61 (by decide) ?_
              refine lv_istore (lv' := [(4, .int 0), (3, .int (mm_own (S 0 ((S 3 w.toNatClampNeg).toNatClampNeg)))), (5, .int (nI i)), (0, .ref (bd 0)), (1, .int (nI t)), (2, .int ow)]) hx hb dX3_isDeadlock_62 hl (by decide) rfl (fun ls hl => ?_)
              refine lv_iinc (v := (nI (i + 1))) (lv' := [(5, .int (nI (i + 1))), (4, .int 0), (3, .int (mm_own (S 0 ((S 3 w.toNatClampNeg).toNatClampNeg)))), (0, .ref (bd 0)), (1, .int (nI t)), (2, .int ow)]) hx hb dX3_isDeadlock_64 hl (k := 2) rfl (nI_1 i) (by decide) rfl (fun ls hl => ?_)
              refine lv_goto (tgt := 8) hx hb dX3_isDeadlock_67 (by decide) ?_
              exact ih (i + 1) (mm_own (S 0 ((S 3 w.toNatClampNeg).toNatClampNeg))) false (by omega) (by rw [← hR]; simp [mm_dead, b_6, c_8, c_9]) _ _ _ hP hD hS (lv_sub hl [0, 1, 2, 3, 4, 5] rfl)
            · refine lv_iconst (v := 1) hx hb dX3_isDeadlock_57 (by decide) ?_
              refine lv_goto (tgt := 62) hx hb dX3_isDeadlock_58 (by decide) ?_
              refine lv_istore (lv' := [(4, .int 1), (3, .int (mm_own (S 0 ((S 3 w.toNatClampNeg).toNatClampNeg)))), (5, .int (nI i)), (0, .ref (bd 0)), (1, .int (nI t)), (2, .int ow)]) hx hb dX3_isDeadlock_62 hl (by decide) rfl (fun ls hl => ?_)
              refine lv_iinc (v := (nI (i + 1))) (lv' := [(5, .int (nI (i + 1))), (4, .int 1), (3, .int (mm_own (S 0 ((S 3 w.toNatClampNeg).toNatClampNeg)))), (0, .ref (bd 0)), (1, .int (nI t)), (2, .int ow)]) hx hb dX3_isDeadlock_64 hl (k := 2) rfl (nI_1 i) (by decide) rfl (fun ls hl => ?_)
              refine lv_goto (tgt := 8) hx hb dX3_isDeadlock_67 (by decide) ?_
              exact ih (i + 1) (mm_own (S 0 ((S 3 w.toNatClampNeg).toNatClampNeg))) true (by omega) (by rw [← hR]; simp [mm_dead, b_6, c_8, c_9]) _ _ _ hP hD hS (lv_sub hl [0, 1, 2, 3, 4, 5] rfl)
        | false =>
          refine W.eq (g2 := F0 m 24 ls [.int 0]) (by first | rfl | (rw [b_6]; rfl)) ?_
          refine lv_if_eq (tgt := 70) hx hb dX3_isDeadlock_24 (by decide) (fun _ => ?_) (fun c => absurd c (by decide))
          refine lv_iload hx hb dX3_isDeadlock_70 (lv_at hl 1 rfl) ?_
          exact fk_zret hx hb hr hlocks hP hK hD hS (congrArg (fun z => fk_mW bd cI z ++ X) (by first | rfl | simp [c_4, b_6])) rfl (by rw [← hR]; simp [mm_dead, fk_b, b_6]) dX3_isDeadlock_72
  exact loop 8 0 ow false rfl rfl _ _ _ hP hD hS (lv_sub hl [0, 1, 2, 3, 4, 5] rfl)

abbrev rmX3_due : Room := { frames := 1, cells := 0, slots := 0, locals := 21 }
set_option maxHeartbeats 4000000 in
set_option maxRecDepth 100000 in
theorem mc_due (l : Launch) (D : va_G) (bd : Nat → Nat) (cI cT cJ : ClassId) (X : va_W) (S : fk_S)  : fk_C l D (fk_ty cI cT cJ) yX3_due wsX3_due rmX3_due [.ref (bd 0)] (fk_mW bd cI S ++ X) (some (.int (fk_oI (mm_due S)))) (fk_mW bd cI S ++ X) := by
  refine fk_C_of (cc := cX3_due) (maxL := 3) (ret := (some .int)) (own := RX3) (by decide) rfl rfl (Nat.le_of_ble_eq_true rfl) ?_
  intro p e s m below meth c A ls hx hb hr hlocks hml hts hown hA hP hK hD hl
  have hS : va_S A s.heap s.heap [] := va_S.rf
  have hl : lv_has ls 3 [(0, .ref (bd 0))] := hl
  have hiX3 : ∀ w ∈ u_ws RX3 TX3 17, w ∈ wsX3_due := by decide +kernel
  refine lv_iconst (v := (-1)) hx hb dX3_due_0 (by decide) ?_
  refine lv_istore_n (lv' := [(1, .int (-1)), (0, .ref (bd 0))]) hx hb dX3_due_1 rfl hl (by decide) rfl (fun ls hl => ?_)
  refine lv_iconst (v := 0) hx hb dX3_due_2 (by decide) ?_
  refine lv_istore_n (lv' := [(2, .int 0), (1, .int (-1)), (0, .ref (bd 0))]) hx hb dX3_due_3 rfl hl (by decide) rfl (fun ls hl => ?_)
  have loop : ∀ (n : Nat) (i : Nat) (x : Option Nat), i + n = 8 → (∀ u, x = some u → u < 8) → fk_lp (fk_bb (fun t => mm_q S t && decide (S 5 t = S 12 0)) (fun t u => decide (S 6 t < S 6 u))) n i x = mm_due S → ∀ (H : Heap) (locs : List Loc) (ls : Array Slot), va_P D vwCl (fk_mW bd cI S ++ X) H → va_D A (fk_mW bd cI S ++ X) → va_S A s.heap H locs → lv_has ls 3 [(1, .int (fk_oI x)), (2, .int (nI i)), (0, .ref (bd 0))] → W p l e rmX3_due s m ([.ref (bd 0)] : List Value).toArray below meth c H locs 0 0 (fk_Q below D (fk_ty cI cT cJ) [.ref (bd 0)] s A (fk_mW bd cI S ++ X) (some (.int (fk_oI (mm_due S))))) (F0 m 4 ls []) := by
    intro n
    induction n with
    | zero =>
      intro i x hi hx9 hR H locs ls hP hD hS hl
      rcases x with _ | u
      · have hl : lv_has ls 3 [(1, .int (-1)), (2, .int (nI i)), (0, .ref (bd 0))] := hl
        refine lv_iload_n hx hb dX3_due_4 rfl (lv_at hl 1 rfl) ?_
        refine lv_bipush (v := 8) hx hb dX3_due_5 (by decide) ?_
        refine lv_icmp_ge (tgt := 63) hx hb dX3_due_7 (by decide) (fun c_1 => ?_) (fun c_1 => absurd (nI_le (a := 8) (b := i) (by omega) (by omega)) c_1)
        refine lv_iload_n hx hb dX3_due_63 rfl (lv_at hl 0 rfl) ?_
        exact fk_iret hx hb hr hlocks hP hK hD hS (congrArg (fun z => fk_mW bd cI z ++ X) (by first | rfl | simp [c_1])) (by rw [← hR]; rfl) dX3_due_64
      · have hl : lv_has ls 3 [(1, .int (nI u)), (2, .int (nI i)), (0, .ref (bd 0))] := hl
        have hu : u < 8 := hx9 u rfl
        refine lv_iload_n hx hb dX3_due_4 rfl (lv_at hl 1 rfl) ?_
        refine lv_bipush (v := 8) hx hb dX3_due_5 (by decide) ?_
        refine lv_icmp_ge (tgt := 63) hx hb dX3_due_7 (by decide) (fun c_2 => ?_) (fun c_2 => absurd (nI_le (a := 8) (b := i) (by omega) (by omega)) c_2)
        refine lv_iload_n hx hb dX3_due_63 rfl (lv_at hl 0 rfl) ?_
        exact fk_iret hx hb hr hlocks hP hK hD hS (congrArg (fun z => fk_mW bd cI z ++ X) (by first | rfl | simp [c_2])) (by rw [← hR]; rfl) dX3_due_64
    | succ n ih =>
      intro i x hi hx9 hR H locs ls hP hD hS hl
      rcases x with _ | u
      · have hl : lv_has ls 3 [(1, .int (-1)), (2, .int (nI i)), (0, .ref (bd 0))] := hl
        refine lv_iload_n hx hb dX3_due_4 rfl (lv_at hl 1 rfl) ?_
        refine lv_bipush (v := 8) hx hb dX3_due_5 (by decide) ?_
        refine lv_icmp_ge (tgt := 63) hx hb dX3_due_7 (by decide) (fun c_3 => absurd c_3 (nI_ge (a := i) (b := 8) (by omega) (by omega))) (fun c_3 => ?_)
        refine lv_aload_n hx hb dX3_due_10 rfl (lv_at hl 2 rfl) ?_
        refine lv_iload_n hx hb dX3_due_11 rfl (lv_at hl 1 rfl) ?_
        refine fk_callV (As := [.int (nI i)]) (rest := []) ⟨hx, hb, hml, hown, hts⟩ (mc_isQueued l D bd cI cT cJ X S i (by omega)) (cwV 1 hts gX3_due_X3_isQueued rfl rfl rfl (by decide +kernel) ⟨Nat.le_of_ble_eq_true rfl, Nat.le_of_ble_eq_true rfl⟩) (fk_rvM hK hP) hK hP hD hS hA rfl hl.1 rfl (Nat.le_of_ble_eq_true rfl) dX3_due_12 ⟨Nat.le_of_ble_eq_true rfl, Nat.le_of_ble_eq_true rfl⟩ (fun H locs hP hD hS => ?_)
        cases b_4 : mm_q S i with
        | true =>
          refine W.eq (g2 := F0 m 15 ls [.int 1]) (by first | rfl | (rw [b_4]; rfl)) ?_
          refine lv_if_eq (tgt := 55) hx hb dX3_due_15 (by decide) (fun c => absurd c (by decide)) (fun _ => ?_)
          refine lv_aload_n hx hb dX3_due_18 rfl (lv_at hl 2 rfl) ?_
          refine fk_getM hx hb hts hiX3 hown hK hP 7 (by decide) (v := .ref (bd 8)) rfl (List.mem_of_getElem? (i := 1) rfl) rfl dX3_due_19 ?_
          refine lv_iload_n hx hb dX3_due_22 rfl (lv_at hl 1 rfl) ?_
          refine fk_ldN hx hb hK hP 7 5 8 rfl (by decide) rfl rfl (vp_in_nI (show i < 8 from (by omega)) (by decide)) dX3_due_23 ?_
          refine W.eq (g2 := F0 m 24 ls [.int (S 5 i)]) (by rw [nI_clamp (by omega)]) ?_
          refine lv_aload_n hx hb dX3_due_24 rfl (lv_at hl 2 rfl) ?_
          refine fk_getM hx hb hts hiX3 hown hK hP 12 (by decide) (v := .int (S 12 0)) rfl (List.mem_of_getElem? (i := 2) rfl) rfl dX3_due_25 ?_
          refine lv_icmp_ne (tgt := 55) hx hb dX3_due_28 (by decide) (fun c_6 => ?_) (fun c_6 => ?_)
          · refine lv_iload_n hx hb dX3_due_55 rfl (lv_at hl 0 rfl) ?_
            refine lv_istore_n (lv' := [(1, .int (-1)), (2, .int (nI i)), (0, .ref (bd 0))]) hx hb dX3_due_56 rfl hl (by decide) rfl (fun ls hl => ?_)
            refine lv_iinc (v := (nI (i + 1))) (lv' := [(2, .int (nI (i + 1))), (1, .int (-1)), (0, .ref (bd 0))]) hx hb dX3_due_57 hl (k := 1) rfl (nI_1 i) (by decide) rfl (fun ls hl => ?_)
            refine lv_goto (tgt := 4) hx hb dX3_due_60 (by decide) ?_
            exact ih (i + 1) none (by omega) (by intro w hw; cases hw) ((congrArg (fk_lp _ n (i + 1)) (show none = fk_bb (fun t => mm_q S t && decide (S 5 t = S 12 0)) (fun t u => decide (S 6 t < S 6 u)) i none from by simp [fk_bb, b_4, c_6])).trans hR) _ _ _ hP hD hS (lv_sub hl [1, 0, 2] rfl)
          · refine lv_iload_n hx hb dX3_due_31 rfl (lv_at hl 0 rfl) ?_
            refine lv_iconst (v := (-1)) hx hb dX3_due_32 (by decide) ?_
            refine lv_icmp_eq (tgt := 51) hx hb dX3_due_33 (by decide) (fun _ => ?_) (fun c => absurd c (by decide))
            refine lv_iload_n hx hb dX3_due_51 rfl (lv_at hl 1 rfl) ?_
            refine lv_goto (tgt := 56) hx hb dX3_due_52 (by decide) ?_
            refine lv_istore_n (lv' := [(1, .int (nI i)), (2, .int (nI i)), (0, .ref (bd 0))]) hx hb dX3_due_56 rfl hl (by decide) rfl (fun ls hl => ?_)
            refine lv_iinc (v := (nI (i + 1))) (lv' := [(2, .int (nI (i + 1))), (1, .int (nI i)), (0, .ref (bd 0))]) hx hb dX3_due_57 hl (k := 1) rfl (nI_1 i) (by decide) rfl (fun ls hl => ?_)
            refine lv_goto (tgt := 4) hx hb dX3_due_60 (by decide) ?_
            exact ih (i + 1) (some i) (by omega) (by intro w hw; cases hw; omega) ((congrArg (fk_lp _ n (i + 1)) (show (some i) = fk_bb (fun t => mm_q S t && decide (S 5 t = S 12 0)) (fun t u => decide (S 6 t < S 6 u)) i none from by simp [fk_bb, b_4, c_6])).trans hR) _ _ _ hP hD hS (lv_sub hl [1, 0, 2] rfl)
        | false =>
          refine W.eq (g2 := F0 m 15 ls [.int 0]) (by first | rfl | (rw [b_4]; rfl)) ?_
          refine lv_if_eq (tgt := 55) hx hb dX3_due_15 (by decide) (fun _ => ?_) (fun c => absurd c (by decide))
          refine lv_iload_n hx hb dX3_due_55 rfl (lv_at hl 0 rfl) ?_
          refine lv_istore_n (lv' := [(1, .int (-1)), (2, .int (nI i)), (0, .ref (bd 0))]) hx hb dX3_due_56 rfl hl (by decide) rfl (fun ls hl => ?_)
          refine lv_iinc (v := (nI (i + 1))) (lv' := [(2, .int (nI (i + 1))), (1, .int (-1)), (0, .ref (bd 0))]) hx hb dX3_due_57 hl (k := 1) rfl (nI_1 i) (by decide) rfl (fun ls hl => ?_)
          refine lv_goto (tgt := 4) hx hb dX3_due_60 (by decide) ?_
          exact ih (i + 1) none (by omega) (by intro w hw; cases hw) ((congrArg (fk_lp _ n (i + 1)) (show none = fk_bb (fun t => mm_q S t && decide (S 5 t = S 12 0)) (fun t u => decide (S 6 t < S 6 u)) i none from by simp [fk_bb, b_4])).trans hR) _ _ _ hP hD hS (lv_sub hl [1, 0, 2] rfl)
      · have hl : lv_has ls 3 [(1, .int (nI u)), (2, .int (nI i)), (0, .ref (bd 0))] := hl
        have hu : u < 8 := hx9 u rfl
        refine lv_iload_n hx hb dX3_due_4 rfl (lv_at hl 1 rfl) ?_
        refine lv_bipush (v := 8) hx hb dX3_due_5 (by decide) ?_
        refine lv_icmp_ge (tgt := 63) hx hb dX3_due_7 (by decide) (fun c_9 => absurd c_9 (nI_ge (a := i) (b := 8) (by omega) (by omega))) (fun c_9 => ?_)
        refine lv_aload_n hx hb dX3_due_10 rfl (lv_at hl 2 rfl) ?_
        refine lv_iload_n hx hb dX3_due_11 rfl (lv_at hl 1 rfl) ?_
        refine fk_callV (As := [.int (nI i)]) (rest := []) ⟨hx, hb, hml, hown, hts⟩ (mc_isQueued l D bd cI cT cJ X S i (by omega)) (cwV 1 hts gX3_due_X3_isQueued rfl rfl rfl (by decide +kernel) ⟨Nat.le_of_ble_eq_true rfl, Nat.le_of_ble_eq_true rfl⟩) (fk_rvM hK hP) hK hP hD hS hA rfl hl.1 rfl (Nat.le_of_ble_eq_true rfl) dX3_due_12 ⟨Nat.le_of_ble_eq_true rfl, Nat.le_of_ble_eq_true rfl⟩ (fun H locs hP hD hS => ?_)
        cases b_10 : mm_q S i with
        | true =>
          refine W.eq (g2 := F0 m 15 ls [.int 1]) (by first | rfl | (rw [b_10]; rfl)) ?_
          refine lv_if_eq (tgt := 55) hx hb dX3_due_15 (by decide) (fun c => absurd c (by decide)) (fun _ => ?_)
          refine lv_aload_n hx hb dX3_due_18 rfl (lv_at hl 2 rfl) ?_
          refine fk_getM hx hb hts hiX3 hown hK hP 7 (by decide) (v := .ref (bd 8)) rfl (List.mem_of_getElem? (i := 1) rfl) rfl dX3_due_19 ?_
          refine lv_iload_n hx hb dX3_due_22 rfl (lv_at hl 1 rfl) ?_
          refine fk_ldN hx hb hK hP 7 5 8 rfl (by decide) rfl rfl (vp_in_nI (show i < 8 from (by omega)) (by decide)) dX3_due_23 ?_
          refine W.eq (g2 := F0 m 24 ls [.int (S 5 i)]) (by rw [nI_clamp (by omega)]) ?_
          refine lv_aload_n hx hb dX3_due_24 rfl (lv_at hl 2 rfl) ?_
          refine fk_getM hx hb hts hiX3 hown hK hP 12 (by decide) (v := .int (S 12 0)) rfl (List.mem_of_getElem? (i := 2) rfl) rfl dX3_due_25 ?_
          refine lv_icmp_ne (tgt := 55) hx hb dX3_due_28 (by decide) (fun c_12 => ?_) (fun c_12 => ?_)
          · refine lv_iload_n hx hb dX3_due_55 rfl (lv_at hl 0 rfl) ?_
            refine lv_istore_n (lv' := [(1, .int (nI u)), (2, .int (nI i)), (0, .ref (bd 0))]) hx hb dX3_due_56 rfl hl (by decide) rfl (fun ls hl => ?_)
            refine lv_iinc (v := (nI (i + 1))) (lv' := [(2, .int (nI (i + 1))), (1, .int (nI u)), (0, .ref (bd 0))]) hx hb dX3_due_57 hl (k := 1) rfl (nI_1 i) (by decide) rfl (fun ls hl => ?_)
            refine lv_goto (tgt := 4) hx hb dX3_due_60 (by decide) ?_
            exact ih (i + 1) (some u) (by omega) (by intro w hw; cases hw; omega) ((congrArg (fk_lp _ n (i + 1)) (show (some u) = fk_bb (fun t => mm_q S t && decide (S 5 t = S 12 0)) (fun t u => decide (S 6 t < S 6 u)) i (some u) from by simp [fk_bb, b_10, c_12])).trans hR) _ _ _ hP hD hS (lv_sub hl [1, 0, 2] rfl)
          · refine lv_iload_n hx hb dX3_due_31 rfl (lv_at hl 0 rfl) ?_
            refine lv_iconst (v := (-1)) hx hb dX3_due_32 (by decide) ?_
            refine lv_icmp_eq (tgt := 51) hx hb dX3_due_33 (by decide) (fun c => absurd c (fk_nI_m1 (by omega))) (fun _ => ?_)
            refine lv_aload_n hx hb dX3_due_36 rfl (lv_at hl 2 rfl) ?_
            refine fk_getM hx hb hts hiX3 hown hK hP 8 (by decide) (v := .ref (bd 9)) rfl (List.mem_of_getElem? (i := 3) rfl) rfl dX3_due_37 ?_
            refine lv_iload_n hx hb dX3_due_40 rfl (lv_at hl 1 rfl) ?_
            refine fk_ldN hx hb hK hP 8 6 8 rfl (by decide) rfl rfl (vp_in_nI (show i < 8 from (by omega)) (by decide)) dX3_due_41 ?_
            refine W.eq (g2 := F0 m 42 ls [.int (S 6 i)]) (by rw [nI_clamp (by omega)]) ?_
            refine lv_aload_n hx hb dX3_due_42 rfl (lv_at hl 2 rfl) ?_
            refine fk_getM hx hb hts hiX3 hown hK hP 8 (by decide) (v := .ref (bd 9)) rfl (List.mem_of_getElem? (i := 3) rfl) rfl dX3_due_43 ?_
            refine lv_iload_n hx hb dX3_due_46 rfl (lv_at hl 0 rfl) ?_
            refine fk_ldN hx hb hK hP 8 6 8 rfl (by decide) rfl rfl (vp_in_nI (show u < 8 from (by omega)) (by decide)) dX3_due_47 ?_
            refine W.eq (g2 := F0 m 48 ls [.int (S 6 u), .int (S 6 i)]) (by rw [nI_clamp (by omega)]) ?_
            refine lv_icmp_ge (tgt := 55) hx hb dX3_due_48 (by decide) (fun c_13 => ?_) (fun c_13 => ?_)
            · refine lv_iload_n hx hb dX3_due_55 rfl (lv_at hl 0 rfl) ?_
              refine lv_istore_n (lv' := [(1, .int (nI u)), (2, .int (nI i)), (0, .ref (bd 0))]) hx hb dX3_due_56 rfl hl (by decide) rfl (fun ls hl => ?_)
              refine lv_iinc (v := (nI (i + 1))) (lv' := [(2, .int (nI (i + 1))), (1, .int (nI u)), (0, .ref (bd 0))]) hx hb dX3_due_57 hl (k := 1) rfl (nI_1 i) (by decide) rfl (fun ls hl => ?_)
              refine lv_goto (tgt := 4) hx hb dX3_due_60 (by decide) ?_
              exact ih (i + 1) (some u) (by omega) (by intro w hw; cases hw; omega) ((congrArg (fk_lp _ n (i + 1)) (show (some u) = fk_bb (fun t => mm_q S t && decide (S 5 t = S 12 0)) (fun t u => decide (S 6 t < S 6 u)) i (some u) from by simp [fk_bb, b_10, c_12, c_13, Int32.not_lt.mpr c_13])).trans hR) _ _ _ hP hD hS (lv_sub hl [1, 0, 2] rfl)
            · refine lv_iload_n hx hb dX3_due_51 rfl (lv_at hl 1 rfl) ?_
              refine lv_goto (tgt := 56) hx hb dX3_due_52 (by decide) ?_
              refine lv_istore_n (lv' := [(1, .int (nI i)), (2, .int (nI i)), (0, .ref (bd 0))]) hx hb dX3_due_56 rfl hl (by decide) rfl (fun ls hl => ?_)
              refine lv_iinc (v := (nI (i + 1))) (lv' := [(2, .int (nI (i + 1))), (1, .int (nI i)), (0, .ref (bd 0))]) hx hb dX3_due_57 hl (k := 1) rfl (nI_1 i) (by decide) rfl (fun ls hl => ?_)
              refine lv_goto (tgt := 4) hx hb dX3_due_60 (by decide) ?_
              exact ih (i + 1) (some i) (by omega) (by intro w hw; cases hw; omega) ((congrArg (fk_lp _ n (i + 1)) (show (some i) = fk_bb (fun t => mm_q S t && decide (S 5 t = S 12 0)) (fun t u => decide (S 6 t < S 6 u)) i (some u) from by simp [fk_bb, b_10, c_12, c_13, Int32.not_le.mp c_13])).trans hR) _ _ _ hP hD hS (lv_sub hl [1, 0, 2] rfl)
        | false =>
          refine W.eq (g2 := F0 m 15 ls [.int 0]) (by first | rfl | (rw [b_10]; rfl)) ?_
          refine lv_if_eq (tgt := 55) hx hb dX3_due_15 (by decide) (fun _ => ?_) (fun c => absurd c (by decide))
          refine lv_iload_n hx hb dX3_due_55 rfl (lv_at hl 0 rfl) ?_
          refine lv_istore_n (lv' := [(1, .int (nI u)), (2, .int (nI i)), (0, .ref (bd 0))]) hx hb dX3_due_56 rfl hl (by decide) rfl (fun ls hl => ?_)
          refine lv_iinc (v := (nI (i + 1))) (lv' := [(2, .int (nI (i + 1))), (1, .int (nI u)), (0, .ref (bd 0))]) hx hb dX3_due_57 hl (k := 1) rfl (nI_1 i) (by decide) rfl (fun ls hl => ?_)
          refine lv_goto (tgt := 4) hx hb dX3_due_60 (by decide) ?_
          exact ih (i + 1) (some u) (by omega) (by intro w hw; cases hw; omega) ((congrArg (fk_lp _ n (i + 1)) (show (some u) = fk_bb (fun t => mm_q S t && decide (S 5 t = S 12 0)) (fun t u => decide (S 6 t < S 6 u)) i (some u) from by simp [fk_bb, b_10])).trans hR) _ _ _ hP hD hS (lv_sub hl [1, 0, 2] rfl)
  exact loop 8 0 none rfl (by intro w hw; cases hw) rfl _ _ _ hP hD hS (lv_sub hl [1, 0, 2] rfl)

abbrev rmX3_countAt : Room := { frames := 1, cells := 0, slots := 0, locals := 21 }
set_option maxHeartbeats 4000000 in
set_option maxRecDepth 100000 in
theorem mc_countAt (l : Launch) (D : va_G) (bd : Nat → Nat) (cI cT cJ : ClassId) (X : va_W) (S : fk_S) (a : Int32) : fk_C l D (fk_ty cI cT cJ) yX3_countAt wsX3_countAt rmX3_countAt [.ref (bd 0), .int a] (fk_mW bd cI S ++ X) (some (.int (mm_cntA S a))) (fk_mW bd cI S ++ X) := by
  refine fk_C_of (cc := cX3_countAt) (maxL := 4) (ret := (some .int)) (own := RX3) (by decide) rfl rfl (Nat.le_of_ble_eq_true rfl) ?_
  intro p e s m below meth c A ls hx hb hr hlocks hml hts hown hA hP hK hD hl
  have hS : va_S A s.heap s.heap [] := va_S.rf
  have hl : lv_has ls 4 [(0, .ref (bd 0)), (1, .int a)] := hl
  have hiX3 : ∀ w ∈ u_ws RX3 TX3 17, w ∈ wsX3_countAt := by decide +kernel
  refine lv_iconst (v := 0) hx hb dX3_countAt_0 (by decide) ?_
  refine lv_istore_n (lv' := [(2, .int 0), (0, .ref (bd 0)), (1, .int a)]) hx hb dX3_countAt_1 rfl hl (by decide) rfl (fun ls hl => ?_)
  refine lv_iconst (v := 0) hx hb dX3_countAt_2 (by decide) ?_
  refine lv_istore_n (lv' := [(3, .int 0), (2, .int 0), (0, .ref (bd 0)), (1, .int a)]) hx hb dX3_countAt_3 rfl hl (by decide) rfl (fun ls hl => ?_)
  have loop : ∀ (n : Nat) (i : Nat) (x : Int32), i + n = 8 → fk_lp (mm_cnt1 (fun u => mm_q S u && decide (S 3 u = a))) n i x = mm_cntA S a → ∀ (H : Heap) (locs : List Loc) (ls : Array Slot), va_P D vwCl (fk_mW bd cI S ++ X) H → va_D A (fk_mW bd cI S ++ X) → va_S A s.heap H locs → lv_has ls 4 [(3, .int (nI i)), (2, .int x), (0, .ref (bd 0)), (1, .int a)] → W p l e rmX3_countAt s m ([.ref (bd 0), .int a] : List Value).toArray below meth c H locs 0 0 (fk_Q below D (fk_ty cI cT cJ) [.ref (bd 0), .int a] s A (fk_mW bd cI S ++ X) (some (.int (mm_cntA S a)))) (F0 m 4 ls []) := by
    intro n
    induction n with
    | zero =>
      intro i x hi hR H locs ls hP hD hS hl
      refine lv_iload_n hx hb dX3_countAt_4 rfl (lv_at hl 0 rfl) ?_
      refine lv_bipush (v := 8) hx hb dX3_countAt_5 (by decide) ?_
      refine lv_icmp_ge (tgt := 42) hx hb dX3_countAt_7 (by decide) (fun c_1 => ?_) (fun c_1 => absurd (nI_le (a := 8) (b := i) (by omega) (by omega)) c_1)
      refine lv_iload_n hx hb dX3_countAt_42 rfl (lv_at hl 1 rfl) ?_
      exact fk_iret hx hb hr hlocks hP hK hD hS (congrArg (fun z => fk_mW bd cI z ++ X) (by first | rfl | simp [c_1])) (by rw [← hR]; rfl) dX3_countAt_43
    | succ n ih =>
      intro i x hi hR H locs ls hP hD hS hl
      refine lv_iload_n hx hb dX3_countAt_4 rfl (lv_at hl 0 rfl) ?_
      refine lv_bipush (v := 8) hx hb dX3_countAt_5 (by decide) ?_
      refine lv_icmp_ge (tgt := 42) hx hb dX3_countAt_7 (by decide) (fun c_2 => absurd c_2 (nI_ge (a := i) (b := 8) (by omega) (by omega))) (fun c_2 => ?_)
      refine lv_iload_n hx hb dX3_countAt_10 rfl (lv_at hl 1 rfl) ?_
      refine lv_aload_n hx hb dX3_countAt_11 rfl (lv_at hl 2 rfl) ?_
      refine lv_iload_n hx hb dX3_countAt_12 rfl (lv_at hl 0 rfl) ?_
      refine fk_callV (As := [.int (nI i)]) (rest := [.int x]) ⟨hx, hb, hml, hown, hts⟩ (mc_isQueued l D bd cI cT cJ X S i (by omega)) (cwV 1 hts gX3_countAt_X3_isQueued rfl rfl rfl (by decide +kernel) ⟨Nat.le_of_ble_eq_true rfl, Nat.le_of_ble_eq_true rfl⟩) (fk_rvM hK hP) hK hP hD hS hA rfl hl.1 rfl (Nat.le_of_ble_eq_true rfl) dX3_countAt_13 ⟨Nat.le_of_ble_eq_true rfl, Nat.le_of_ble_eq_true rfl⟩ (fun H locs hP hD hS => ?_)
      cases b_3 : mm_q S i with
      | true =>
        refine W.eq (g2 := F0 m 16 ls [.int 1, .int x]) (by first | rfl | (rw [b_3]; rfl)) ?_
        refine lv_if_eq (tgt := 33) hx hb dX3_countAt_16 (by decide) (fun c => absurd c (by decide)) (fun _ => ?_)
        refine lv_aload_n hx hb dX3_countAt_19 rfl (lv_at hl 2 rfl) ?_
        refine fk_getM hx hb hts hiX3 hown hK hP 5 (by decide) (v := .ref (bd 6)) rfl (List.mem_of_getElem? (i := 1) rfl) rfl dX3_countAt_20 ?_
        refine lv_iload_n hx hb dX3_countAt_23 rfl (lv_at hl 0 rfl) ?_
        refine fk_ldN hx hb hK hP 5 3 8 rfl (by decide) rfl rfl (vp_in_nI (show i < 8 from (by omega)) (by decide)) dX3_countAt_24 ?_
        refine W.eq (g2 := F0 m 25 ls [.int (S 3 i), .int x]) (by rw [nI_clamp (by omega)]) ?_
        refine lv_iload_n hx hb dX3_countAt_25 rfl (lv_at hl 3 rfl) ?_
        refine lv_icmp_ne (tgt := 33) hx hb dX3_countAt_26 (by decide) (fun c_5 => ?_) (fun c_5 => ?_)
        · refine lv_iconst (v := 0) hx hb dX3_countAt_33 (by decide) ?_
          refine lv_iadd hx hb dX3_countAt_34 ?_
          refine lv_istore_n (lv' := [(2, .int (x + 0)), (3, .int (nI i)), (0, .ref (bd 0)), (1, .int a)]) hx hb dX3_countAt_35 rfl hl (by decide) rfl (fun ls hl => ?_)
          refine lv_iinc (v := (nI (i + 1))) (lv' := [(3, .int (nI (i + 1))), (2, .int (x + 0)), (0, .ref (bd 0)), (1, .int a)]) hx hb dX3_countAt_36 hl (k := 1) rfl (nI_1 i) (by decide) rfl (fun ls hl => ?_)
          refine lv_goto (tgt := 4) hx hb dX3_countAt_39 (by decide) ?_
          exact ih (i + 1) (x + 0) (by omega) ((congrArg (fk_lp _ n (i + 1)) (show (x + 0) = mm_cnt1 (fun u => mm_q S u && decide (S 3 u = a)) i x from by simp [mm_cnt1, b_3, c_5])).trans hR) _ _ _ hP hD hS (lv_sub hl [0, 1, 2, 3] rfl)
        · refine lv_iconst (v := 1) hx hb dX3_countAt_29 (by decide) ?_
          refine lv_goto (tgt := 34) hx hb dX3_countAt_30 (by decide) ?_
          refine lv_iadd hx hb dX3_countAt_34 ?_
          refine lv_istore_n (lv' := [(2, .int (x + 1)), (3, .int (nI i)), (0, .ref (bd 0)), (1, .int a)]) hx hb dX3_countAt_35 rfl hl (by decide) rfl (fun ls hl => ?_)
          refine lv_iinc (v := (nI (i + 1))) (lv' := [(3, .int (nI (i + 1))), (2, .int (x + 1)), (0, .ref (bd 0)), (1, .int a)]) hx hb dX3_countAt_36 hl (k := 1) rfl (nI_1 i) (by decide) rfl (fun ls hl => ?_)
          refine lv_goto (tgt := 4) hx hb dX3_countAt_39 (by decide) ?_
          exact ih (i + 1) (x + 1) (by omega) ((congrArg (fk_lp _ n (i + 1)) (show (x + 1) = mm_cnt1 (fun u => mm_q S u && decide (S 3 u = a)) i x from by simp [mm_cnt1, b_3, c_5])).trans hR) _ _ _ hP hD hS (lv_sub hl [0, 1, 2, 3] rfl)
      | false =>
        refine W.eq (g2 := F0 m 16 ls [.int 0, .int x]) (by first | rfl | (rw [b_3]; rfl)) ?_
        refine lv_if_eq (tgt := 33) hx hb dX3_countAt_16 (by decide) (fun _ => ?_) (fun c => absurd c (by decide))
        refine lv_iconst (v := 0) hx hb dX3_countAt_33 (by decide) ?_
        refine lv_iadd hx hb dX3_countAt_34 ?_
        refine lv_istore_n (lv' := [(2, .int (x + 0)), (3, .int (nI i)), (0, .ref (bd 0)), (1, .int a)]) hx hb dX3_countAt_35 rfl hl (by decide) rfl (fun ls hl => ?_)
        refine lv_iinc (v := (nI (i + 1))) (lv' := [(3, .int (nI (i + 1))), (2, .int (x + 0)), (0, .ref (bd 0)), (1, .int a)]) hx hb dX3_countAt_36 hl (k := 1) rfl (nI_1 i) (by decide) rfl (fun ls hl => ?_)
        refine lv_goto (tgt := 4) hx hb dX3_countAt_39 (by decide) ?_
        exact ih (i + 1) (x + 0) (by omega) ((congrArg (fk_lp _ n (i + 1)) (show (x + 0) = mm_cnt1 (fun u => mm_q S u && decide (S 3 u = a)) i x from by simp [mm_cnt1, b_3])).trans hR) _ _ _ hP hD hS (lv_sub hl [0, 1, 2, 3] rfl)
  exact loop 8 0 0 rfl rfl _ _ _ hP hD hS (lv_sub hl [0, 1, 2, 3] rfl)

abbrev rmX3_isIn : Room := { frames := 1, cells := 0, slots := 0, locals := 21 }
set_option maxHeartbeats 4000000 in
set_option maxRecDepth 100000 in
theorem mc_isIn (l : Launch) (D : va_G) (bd : Nat → Nat) (cI cT cJ : ClassId) (X : va_W) (S : fk_S) (t : Nat) (b a : Int32) (ht : t < 8) : fk_C l D (fk_ty cI cT cJ) yX3_isIn wsX3_isIn rmX3_isIn [.ref (bd 0), .int (nI t), .int b, .int a] (fk_mW bd cI S ++ X) (some (.int (fk_b (mm_in S t b a)))) (fk_mW bd cI S ++ X) := by
  refine fk_C_of (cc := cX3_isIn) (maxL := 4) (ret := (some .boolean)) (own := RX3) (by decide) rfl rfl (Nat.le_of_ble_eq_true rfl) ?_
  intro p e s m below meth c A ls hx hb hr hlocks hml hts hown hA hP hK hD hl
  have hS : va_S A s.heap s.heap [] := va_S.rf
  have hl : lv_has ls 4 [(0, .ref (bd 0)), (1, .int (nI t)), (2, .int b), (3, .int a)] := hl
  have hiX3 : ∀ w ∈ u_ws RX3 TX3 17, w ∈ wsX3_isIn := by decide +kernel
  refine lv_aload_n hx hb dX3_isIn_0 rfl (lv_at hl 0 rfl) ?_
  refine lv_iload_n hx hb dX3_isIn_1 rfl (lv_at hl 1 rfl) ?_
  refine fk_callV (As := [.int (nI t)]) (rest := []) ⟨hx, hb, hml, hown, hts⟩ (mc_isQueued l D bd cI cT cJ X S t ht) (cwV 1 hts gX3_isIn_X3_isQueued rfl rfl rfl (by decide +kernel) ⟨Nat.le_of_ble_eq_true rfl, Nat.le_of_ble_eq_true rfl⟩) (fk_rvM hK hP) hK hP hD hS hA rfl hl.1 rfl (Nat.le_of_ble_eq_true rfl) dX3_isIn_2 ⟨Nat.le_of_ble_eq_true rfl, Nat.le_of_ble_eq_true rfl⟩ (fun H locs hP hD hS => ?_)
  cases b_1 : mm_q S t with
  | true =>
    refine W.eq (g2 := F0 m 5 ls [.int 1]) (by first | rfl | (rw [b_1]; rfl)) ?_
    refine lv_if_eq (tgt := 40) hx hb dX3_isIn_5 (by decide) (fun c => absurd c (by decide)) (fun _ => ?_)
    refine lv_aload_n hx hb dX3_isIn_8 rfl (lv_at hl 0 rfl) ?_
    refine fk_getM hx hb hts hiX3 hown hK hP 5 (by decide) (v := .ref (bd 6)) rfl (List.mem_of_getElem? (i := 1) rfl) rfl dX3_isIn_9 ?_
    refine lv_iload_n hx hb dX3_isIn_12 rfl (lv_at hl 1 rfl) ?_
    refine fk_ldN hx hb hK hP 5 3 8 rfl (by decide) rfl rfl (vp_in_nI (show t < 8 from (by omega)) (by decide)) dX3_isIn_13 ?_
    refine W.eq (g2 := F0 m 14 ls [.int (S 3 t)]) (by rw [nI_clamp (by omega)]) ?_
    refine fk_callS (As := [.int (S 3 t)]) (rest := []) ⟨hx, hb, hml, hown, hts⟩ (mc_bucketOf l D bd cI cT cJ X S (S 3 t)) (va_cwS 1 hts gX3_isIn_X3_bucketOf rfl rfl rfl (by decide +kernel) ⟨Nat.le_of_ble_eq_true rfl, Nat.le_of_ble_eq_true rfl⟩) hK hP hD hS hA rfl hl.1 rfl (Nat.le_of_ble_eq_true rfl) dX3_isIn_14 ⟨Nat.le_of_ble_eq_true rfl, Nat.le_of_ble_eq_true rfl⟩ (fun H locs hP hD hS => ?_)
    refine W.eq (g2 := F0 m 17 ls [.int (fk_bkt (S 3 t))]) rfl ?_
    refine lv_iload_n hx hb dX3_isIn_17 rfl (lv_at hl 2 rfl) ?_
    refine lv_icmp_ne (tgt := 40) hx hb dX3_isIn_18 (by decide) (fun c_3 => ?_) (fun c_3 => ?_)
    · refine lv_iconst (v := 0) hx hb dX3_isIn_40 (by decide) ?_
      exact fk_zret hx hb hr hlocks hP hK hD hS (congrArg (fun z => fk_mW bd cI z ++ X) (by first | rfl | simp [b_1, c_3])) rfl (by first | rfl | (simp [fk_b, mm_in, b_1, c_3]; done) | (clear hts hP hD hS hl hK hown hA; simp_all [fk_b, mm_in])) dX3_isIn_41
    · refine lv_iload_n hx hb dX3_isIn_21 rfl (lv_at hl 3 rfl) ?_
      refine lv_iconst (v := (-1)) hx hb dX3_isIn_22 (by decide) ?_
      refine lv_icmp_eq (tgt := 36) hx hb dX3_isIn_23 (by decide) (fun c_4 => ?_) (fun c_4 => ?_)
      · refine lv_iconst (v := 1) hx hb dX3_isIn_36 (by decide) ?_
        refine lv_goto (tgt := 41) hx hb dX3_isIn_37 (by decide) ?_
        exact fk_zret hx hb hr hlocks hP hK hD hS (congrArg (fun z => fk_mW bd cI z ++ X) (by first | rfl | simp [b_1, c_3, c_4])) rfl (by first | rfl | (simp [fk_b, mm_in, b_1, c_3, c_4]; done) | (clear hts hP hD hS hl hK hown hA; simp_all [fk_b, mm_in])) dX3_isIn_41
      · refine lv_aload_n hx hb dX3_isIn_26 rfl (lv_at hl 0 rfl) ?_
        refine fk_getM hx hb hts hiX3 hown hK hP 5 (by decide) (v := .ref (bd 6)) rfl (List.mem_of_getElem? (i := 1) rfl) rfl dX3_isIn_27 ?_
        refine lv_iload_n hx hb dX3_isIn_30 rfl (lv_at hl 1 rfl) ?_
        refine fk_ldN hx hb hK hP 5 3 8 rfl (by decide) rfl rfl (vp_in_nI (show t < 8 from (by omega)) (by decide)) dX3_isIn_31 ?_
        refine W.eq (g2 := F0 m 32 ls [.int (S 3 t)]) (by rw [nI_clamp (by omega)]) ?_
        refine lv_iload_n hx hb dX3_isIn_32 rfl (lv_at hl 3 rfl) ?_
        refine lv_icmp_ne (tgt := 40) hx hb dX3_isIn_33 (by decide) (fun c_5 => ?_) (fun c_5 => ?_)
        · refine lv_iconst (v := 0) hx hb dX3_isIn_40 (by decide) ?_
          exact fk_zret hx hb hr hlocks hP hK hD hS (congrArg (fun z => fk_mW bd cI z ++ X) (by first | rfl | simp [b_1, c_3, c_4, c_5])) rfl (by first | rfl | (simp [fk_b, mm_in, b_1, c_3, c_4, c_5]; done) | (clear hts hP hD hS hl hK hown hA; simp_all [fk_b, mm_in])) dX3_isIn_41
        · refine lv_iconst (v := 1) hx hb dX3_isIn_36 (by decide) ?_
          refine lv_goto (tgt := 41) hx hb dX3_isIn_37 (by decide) ?_
          exact fk_zret hx hb hr hlocks hP hK hD hS (congrArg (fun z => fk_mW bd cI z ++ X) (by first | rfl | simp [b_1, c_3, c_4, c_5])) rfl (by first | rfl | (simp [fk_b, mm_in, b_1, c_3, c_4, c_5]; done) | (clear hts hP hD hS hl hK hown hA; simp_all [fk_b, mm_in])) dX3_isIn_41
  | false =>
    refine W.eq (g2 := F0 m 5 ls [.int 0]) (by first | rfl | (rw [b_1]; rfl)) ?_
    refine lv_if_eq (tgt := 40) hx hb dX3_isIn_5 (by decide) (fun _ => ?_) (fun c => absurd c (by decide))
    refine lv_iconst (v := 0) hx hb dX3_isIn_40 (by decide) ?_
    exact fk_zret hx hb hr hlocks hP hK hD hS (congrArg (fun z => fk_mW bd cI z ++ X) (by first | rfl | simp [b_1])) rfl (by first | rfl | (simp [fk_b, mm_in, b_1]; done) | (clear hts hP hD hS hl hK hown hA; simp_all [fk_b, mm_in])) dX3_isIn_41

abbrev rmX3_thread : Room := { frames := 2, cells := 0, slots := 0, locals := 44 }
set_option maxHeartbeats 4000000 in
set_option maxRecDepth 100000 in
theorem mc_thread (l : Launch) (D : va_G) (bd : Nat → Nat) (cI cT cJ : ClassId) (X : va_W) (S : fk_S) (b a q : Int32) : fk_C l D (fk_ty cI cT cJ) yX3_thread wsX3_thread rmX3_thread [.ref (bd 0), .int b, .int a, .int q] (fk_mW bd cI S ++ X) (some (.int (fk_oI (mm_th S b a q)))) (fk_mW bd cI S ++ X) := by
  refine fk_C_of (cc := cX3_thread) (maxL := 8) (ret := (some .int)) (own := RX3) (by decide) rfl rfl (Nat.le_of_ble_eq_true rfl) ?_
  intro p e s m below meth c A ls hx hb hr hlocks hml hts hown hA hP hK hD hl
  have hS : va_S A s.heap s.heap [] := va_S.rf
  have hl : lv_has ls 8 [(0, .ref (bd 0)), (1, .int b), (2, .int a), (3, .int q)] := hl
  refine lv_iconst (v := (-1)) hx hb dX3_thread_0 (by decide) ?_
  refine lv_istore (lv' := [(4, .int (-1)), (0, .ref (bd 0)), (1, .int b), (2, .int a), (3, .int q)]) hx hb dX3_thread_1 hl (by decide) rfl (fun ls hl => ?_)
  refine lv_iconst (v := 0) hx hb dX3_thread_3 (by decide) ?_
  refine lv_istore (lv' := [(5, .int 0), (4, .int (-1)), (0, .ref (bd 0)), (1, .int b), (2, .int a), (3, .int q)]) hx hb dX3_thread_4 hl (by decide) rfl (fun ls hl => ?_)
  have loop : ∀ (n : Nat) (i : Nat) (y : Option Nat), i + n = 8 → fk_lp (mm_th1 S b a q) n i y = mm_th S b a q → ∀ (H : Heap) (locs : List Loc) (ls : Array Slot), va_P D vwCl (fk_mW bd cI S ++ X) H → va_D A (fk_mW bd cI S ++ X) → va_S A s.heap H locs → lv_has ls 8 [(5, .int (nI i)), (4, .int (fk_oI y)), (0, .ref (bd 0)), (1, .int b), (2, .int a), (3, .int q)] → W p l e rmX3_thread s m ([.ref (bd 0), .int b, .int a, .int q] : List Value).toArray below meth c H locs 0 0 (fk_Q below D (fk_ty cI cT cJ) [.ref (bd 0), .int b, .int a, .int q] s A (fk_mW bd cI S ++ X) (some (.int (fk_oI (mm_th S b a q))))) (F0 m 6 ls []) := by
    intro n
    induction n with
    | zero =>
      intro i y hi hR H locs ls hP hD hS hl
      refine lv_iload hx hb dX3_thread_6 (lv_at hl 0 rfl) ?_
      refine lv_bipush (v := 8) hx hb dX3_thread_8 (by decide) ?_
      refine lv_icmp_ge (tgt := 101) hx hb dX3_thread_10 (by decide) (fun c_1 => ?_) (fun c_1 => absurd (nI_le (a := 8) (b := i) (by omega) (by omega)) c_1)
      refine lv_iload hx hb dX3_thread_101 (lv_at hl 1 rfl) ?_
      exact fk_iret hx hb hr hlocks hP hK hD hS (congrArg (fun z => fk_mW bd cI z ++ X) (by first | rfl | simp [c_1])) (by rw [← hR]; rfl) dX3_thread_103
    | succ n ih =>
      intro i y hi hR H locs ls hP hD hS hl
      refine lv_iload hx hb dX3_thread_6 (lv_at hl 0 rfl) ?_
      refine lv_bipush (v := 8) hx hb dX3_thread_8 (by decide) ?_
      refine lv_icmp_ge (tgt := 101) hx hb dX3_thread_10 (by decide) (fun c_2 => absurd c_2 (nI_ge (a := i) (b := 8) (by omega) (by omega))) (fun c_2 => ?_)
      refine lv_iconst (v := 0) hx hb dX3_thread_13 (by decide) ?_
      refine lv_istore (lv' := [(6, .int 0), (5, .int (nI i)), (4, .int (fk_oI y)), (0, .ref (bd 0)), (1, .int b), (2, .int a), (3, .int q)]) hx hb dX3_thread_14 hl (by decide) rfl (fun ls hl => ?_)
      refine lv_iconst (v := 0) hx hb dX3_thread_16 (by decide) ?_
      refine lv_istore (lv' := [(7, .int 0), (6, .int 0), (5, .int (nI i)), (4, .int (fk_oI y)), (0, .ref (bd 0)), (1, .int b), (2, .int a), (3, .int q)]) hx hb dX3_thread_17 hl (by decide) rfl (fun ls hl => ?_)
      have inner : ∀ (n2 : Nat) (j : Nat) (x : Int32), j + n2 = 8 → fk_lp (mm_cnt1 (fun u => mm_in S u b a && mm_lt S u i)) n2 j x = mm_rank S b a i → ∀ (H : Heap) (locs : List Loc) (ls : Array Slot), va_P D vwCl (fk_mW bd cI S ++ X) H → va_D A (fk_mW bd cI S ++ X) → va_S A s.heap H locs → lv_has ls 8 [(7, .int (nI j)), (6, .int x), (5, .int (nI i)), (4, .int (fk_oI y)), (0, .ref (bd 0)), (1, .int b), (2, .int a), (3, .int q)] → W p l e rmX3_thread s m ([.ref (bd 0), .int b, .int a, .int q] : List Value).toArray below meth c H locs 0 0 (fk_Q below D (fk_ty cI cT cJ) [.ref (bd 0), .int b, .int a, .int q] s A (fk_mW bd cI S ++ X) (some (.int (fk_oI (mm_th S b a q))))) (F0 m 19 ls []) := by
        intro n2
        induction n2 with
        | zero =>
          intro j x hj hR2 H locs ls hP hD hS hl
          have hx9 : mm_rank S b a i = x := hR2.symm
          refine lv_iload hx hb dX3_thread_19 (lv_at hl 0 rfl) ?_
          refine lv_bipush (v := 8) hx hb dX3_thread_21 (by decide) ?_
          refine lv_icmp_ge (tgt := 69) hx hb dX3_thread_23 (by decide) (fun c_3 => ?_) (fun c_3 => absurd (nI_le (a := 8) (b := j) (by omega) (by omega)) c_3)
          refine lv_aload_n hx hb dX3_thread_69 rfl (lv_at hl 4 rfl) ?_
          refine lv_iload hx hb dX3_thread_70 (lv_at hl 2 rfl) ?_
          refine lv_iload_n hx hb dX3_thread_72 rfl (lv_at hl 5 rfl) ?_
          refine lv_iload_n hx hb dX3_thread_73 rfl (lv_at hl 6 rfl) ?_
          refine fk_callV (As := [.int (nI i), .int b, .int a]) (rest := []) ⟨hx, hb, hml, hown, hts⟩ (mc_isIn l D bd cI cT cJ X S i b a (by omega)) (cwV 3 hts gX3_thread_X3_isIn rfl rfl rfl (by decide +kernel) ⟨Nat.le_of_ble_eq_true rfl, Nat.le_of_ble_eq_true rfl⟩) (fk_rvM hK hP) hK hP hD hS hA rfl hl.1 rfl (Nat.le_of_ble_eq_true rfl) dX3_thread_74 ⟨Nat.le_of_ble_eq_true rfl, Nat.le_of_ble_eq_true rfl⟩ (fun H locs hP hD hS => ?_)
          cases b_4 : mm_in S i b a with
          | true =>
            refine W.eq (g2 := F0 m 77 ls [.int 1]) (by first | rfl | (rw [b_4]; rfl)) ?_
            refine lv_if_eq (tgt := 91) hx hb dX3_thread_77 (by decide) (fun c => absurd c (by decide)) (fun _ => ?_)
            refine lv_iload hx hb dX3_thread_80 (lv_at hl 1 rfl) ?_
            refine lv_iload_n hx hb dX3_thread_82 rfl (lv_at hl 7 rfl) ?_
            refine lv_icmp_ne (tgt := 91) hx hb dX3_thread_83 (by decide) (fun c_6 => ?_) (fun c_6 => ?_)
            · refine lv_iload hx hb dX3_thread_91 (lv_at hl 3 rfl) ?_
              refine lv_istore (lv' := [(4, .int (fk_oI y)), (7, .int (nI j)), (6, .int x), (5, .int (nI i)), (0, .ref (bd 0)), (1, .int b), (2, .int a), (3, .int q)]) hx hb dX3_thread_93 hl (by decide) rfl (fun ls hl => ?_)
              refine lv_iinc (v := (nI (i + 1))) (lv' := [(5, .int (nI (i + 1))), (4, .int (fk_oI y)), (7, .int (nI j)), (6, .int x), (0, .ref (bd 0)), (1, .int b), (2, .int a), (3, .int q)]) hx hb dX3_thread_95 hl (k := 3) rfl (nI_1 i) (by decide) rfl (fun ls hl => ?_)
              refine lv_goto (tgt := 6) hx hb dX3_thread_98 (by decide) ?_
              exact ih (i + 1) y (by omega) ((congrArg (fk_lp _ n (i + 1)) (show y = mm_th1 S b a q i y from by simp [mm_th1, hx9, b_4, c_6])).trans hR) _ _ _ hP hD hS (lv_sub hl [0, 1, 4, 5, 6, 7] rfl)
            · refine lv_iload hx hb dX3_thread_86 (lv_at hl 2 rfl) ?_
              refine lv_goto (tgt := 93) hx hb dX3_thread_88 (by decide) ?_
              refine lv_istore (lv' := [(4, .int (nI i)), (7, .int (nI j)), (6, .int x), (5, .int (nI i)), (0, .ref (bd 0)), (1, .int b), (2, .int a), (3, .int q)]) hx hb dX3_thread_93 hl (by decide) rfl (fun ls hl => ?_)
              refine lv_iinc (v := (nI (i + 1))) (lv' := [(5, .int (nI (i + 1))), (4, .int (nI i)), (7, .int (nI j)), (6, .int x), (0, .ref (bd 0)), (1, .int b), (2, .int a), (3, .int q)]) hx hb dX3_thread_95 hl (k := 3) rfl (nI_1 i) (by decide) rfl (fun ls hl => ?_)
              refine lv_goto (tgt := 6) hx hb dX3_thread_98 (by decide) ?_
              exact ih (i + 1) (some i) (by omega) ((congrArg (fk_lp _ n (i + 1)) (show (some i) = mm_th1 S b a q i y from by simp [mm_th1, hx9, b_4, c_6])).trans hR) _ _ _ hP hD hS (lv_sub hl [0, 1, 4, 5, 6, 7] rfl)
          | false =>
            refine W.eq (g2 := F0 m 77 ls [.int 0]) (by first | rfl | (rw [b_4]; rfl)) ?_
            refine lv_if_eq (tgt := 91) hx hb dX3_thread_77 (by decide) (fun _ => ?_) (fun c => absurd c (by decide))
            refine lv_iload hx hb dX3_thread_91 (lv_at hl 3 rfl) ?_
            refine lv_istore (lv' := [(4, .int (fk_oI y)), (7, .int (nI j)), (6, .int x), (5, .int (nI i)), (0, .ref (bd 0)), (1, .int b), (2, .int a), (3, .int q)]) hx hb dX3_thread_93 hl (by decide) rfl (fun ls hl => ?_)
            refine lv_iinc (v := (nI (i + 1))) (lv' := [(5, .int (nI (i + 1))), (4, .int (fk_oI y)), (7, .int (nI j)), (6, .int x), (0, .ref (bd 0)), (1, .int b), (2, .int a), (3, .int q)]) hx hb dX3_thread_95 hl (k := 3) rfl (nI_1 i) (by decide) rfl (fun ls hl => ?_)
            refine lv_goto (tgt := 6) hx hb dX3_thread_98 (by decide) ?_
            exact ih (i + 1) y (by omega) ((congrArg (fk_lp _ n (i + 1)) (show y = mm_th1 S b a q i y from by simp [mm_th1, hx9, b_4])).trans hR) _ _ _ hP hD hS (lv_sub hl [0, 1, 4, 5, 6, 7] rfl)
        | succ n2 ih2 =>
          intro j x hj hR2 H locs ls hP hD hS hl
          refine lv_iload hx hb dX3_thread_19 (lv_at hl 0 rfl) ?_
          refine lv_bipush (v := 8) hx hb dX3_thread_21 (by decide) ?_
          refine lv_icmp_ge (tgt := 69) hx hb dX3_thread_23 (by decide) (fun c_8 => absurd c_8 (nI_ge (a := j) (b := 8) (by omega) (by omega))) (fun c_8 => ?_)
          refine lv_iload hx hb dX3_thread_26 (lv_at hl 1 rfl) ?_
          refine lv_aload_n hx hb dX3_thread_28 rfl (lv_at hl 4 rfl) ?_
          refine lv_iload hx hb dX3_thread_29 (lv_at hl 0 rfl) ?_
          refine lv_iload_n hx hb dX3_thread_31 rfl (lv_at hl 5 rfl) ?_
          refine lv_iload_n hx hb dX3_thread_32 rfl (lv_at hl 6 rfl) ?_
          refine fk_callV (As := [.int (nI j), .int b, .int a]) (rest := [.int x]) ⟨hx, hb, hml, hown, hts⟩ (mc_isIn l D bd cI cT cJ X S j b a (by omega)) (cwV 3 hts gX3_thread_X3_isIn rfl rfl rfl (by decide +kernel) ⟨Nat.le_of_ble_eq_true rfl, Nat.le_of_ble_eq_true rfl⟩) (fk_rvM hK hP) hK hP hD hS hA rfl hl.1 rfl (Nat.le_of_ble_eq_true rfl) dX3_thread_33 ⟨Nat.le_of_ble_eq_true rfl, Nat.le_of_ble_eq_true rfl⟩ (fun H locs hP hD hS => ?_)
          cases b_9 : mm_in S j b a with
          | true =>
            refine W.eq (g2 := F0 m 36 ls [.int 1, .int x]) (by first | rfl | (rw [b_9]; rfl)) ?_
            refine lv_if_eq (tgt := 59) hx hb dX3_thread_36 (by decide) (fun c => absurd c (by decide)) (fun _ => ?_)
            refine lv_aload_n hx hb dX3_thread_39 rfl (lv_at hl 4 rfl) ?_
            refine lv_iload hx hb dX3_thread_40 (lv_at hl 0 rfl) ?_
            refine fk_callV (As := [.int (nI j)]) (rest := [.int x]) ⟨hx, hb, hml, hown, hts⟩ (mc_key l D bd cI cT cJ X S j (by omega)) (cwV 1 hts gX3_thread_X3_key rfl rfl rfl (by decide +kernel) ⟨Nat.le_of_ble_eq_true rfl, Nat.le_of_ble_eq_true rfl⟩) (fk_rvM hK hP) hK hP hD hS hA rfl hl.1 rfl (Nat.le_of_ble_eq_true rfl) dX3_thread_42 ⟨Nat.le_of_ble_eq_true rfl, Nat.le_of_ble_eq_true rfl⟩ (fun H locs hP hD hS => ?_)
            refine W.eq (g2 := F0 m 45 ls [.long (mm_key S j), .int x]) rfl ?_
            refine lv_aload_n hx hb dX3_thread_45 rfl (lv_at hl 4 rfl) ?_
            refine lv_iload hx hb dX3_thread_46 (lv_at hl 2 rfl) ?_
            refine fk_callV (As := [.int (nI i)]) (rest := [.long (mm_key S j), .int x]) ⟨hx, hb, hml, hown, hts⟩ (mc_key l D bd cI cT cJ X S i (by omega)) (cwV 1 hts gX3_thread_X3_key rfl rfl rfl (by decide +kernel) ⟨Nat.le_of_ble_eq_true rfl, Nat.le_of_ble_eq_true rfl⟩) (fk_rvM hK hP) hK hP hD hS hA rfl hl.1 rfl (Nat.le_of_ble_eq_true rfl) dX3_thread_48 ⟨Nat.le_of_ble_eq_true rfl, Nat.le_of_ble_eq_true rfl⟩ (fun H locs hP hD hS => ?_)
            refine W.eq (g2 := F0 m 51 ls [.long (mm_key S i), .long (mm_key S j), .int x]) rfl ?_
            refine W.lcmp hx hb dX3_thread_51 ?_
            refine lv_if_ge (tgt := 59) hx hb dX3_thread_52 (by decide) (fun c_11 => ?_) (fun c_11 => ?_)
            · refine lv_iconst (v := 0) hx hb dX3_thread_59 (by decide) ?_
              refine lv_iadd hx hb dX3_thread_60 ?_
              refine lv_istore (lv' := [(6, .int (x + 0)), (7, .int (nI j)), (5, .int (nI i)), (4, .int (fk_oI y)), (0, .ref (bd 0)), (1, .int b), (2, .int a), (3, .int q)]) hx hb dX3_thread_61 hl (by decide) rfl (fun ls hl => ?_)
              refine lv_iinc (v := (nI (j + 1))) (lv' := [(7, .int (nI (j + 1))), (6, .int (x + 0)), (5, .int (nI i)), (4, .int (fk_oI y)), (0, .ref (bd 0)), (1, .int b), (2, .int a), (3, .int q)]) hx hb dX3_thread_63 hl (k := 1) rfl (nI_1 j) (by decide) rfl (fun ls hl => ?_)
              refine lv_goto (tgt := 19) hx hb dX3_thread_66 (by decide) ?_
              exact ih2 (j + 1) (x + 0) (by omega) ((congrArg (fk_lp _ n2 (j + 1)) (show (x + 0) = mm_cnt1 (fun u => mm_in S u b a && mm_lt S u i) j x from by simp [mm_cnt1, mm_lt, b_9, c_11, fk_lcmp_ge.mp c_11])).trans hR2) _ _ _ hP hD hS (lv_sub hl [0, 1, 2, 3, 4, 5, 6, 7] rfl)
            · refine lv_iconst (v := 1) hx hb dX3_thread_55 (by decide) ?_
              refine lv_goto (tgt := 60) hx hb dX3_thread_56 (by decide) ?_
              refine lv_iadd hx hb dX3_thread_60 ?_
              refine lv_istore (lv' := [(6, .int (x + 1)), (7, .int (nI j)), (5, .int (nI i)), (4, .int (fk_oI y)), (0, .ref (bd 0)), (1, .int b), (2, .int a), (3, .int q)]) hx hb dX3_thread_61 hl (by decide) rfl (fun ls hl => ?_)
              refine lv_iinc (v := (nI (j + 1))) (lv' := [(7, .int (nI (j + 1))), (6, .int (x + 1)), (5, .int (nI i)), (4, .int (fk_oI y)), (0, .ref (bd 0)), (1, .int b), (2, .int a), (3, .int q)]) hx hb dX3_thread_63 hl (k := 1) rfl (nI_1 j) (by decide) rfl (fun ls hl => ?_)
              refine lv_goto (tgt := 19) hx hb dX3_thread_66 (by decide) ?_
              exact ih2 (j + 1) (x + 1) (by omega) ((congrArg (fk_lp _ n2 (j + 1)) (show (x + 1) = mm_cnt1 (fun u => mm_in S u b a && mm_lt S u i) j x from by simp [mm_cnt1, mm_lt, b_9, c_11, fk_lcmp_lt c_11])).trans hR2) _ _ _ hP hD hS (lv_sub hl [0, 1, 2, 3, 4, 5, 6, 7] rfl)
          | false =>
            refine W.eq (g2 := F0 m 36 ls [.int 0, .int x]) (by first | rfl | (rw [b_9]; rfl)) ?_
            refine lv_if_eq (tgt := 59) hx hb dX3_thread_36 (by decide) (fun _ => ?_) (fun c => absurd c (by decide))
            refine lv_iconst (v := 0) hx hb dX3_thread_59 (by decide) ?_
            refine lv_iadd hx hb dX3_thread_60 ?_
            refine lv_istore (lv' := [(6, .int (x + 0)), (7, .int (nI j)), (5, .int (nI i)), (4, .int (fk_oI y)), (0, .ref (bd 0)), (1, .int b), (2, .int a), (3, .int q)]) hx hb dX3_thread_61 hl (by decide) rfl (fun ls hl => ?_)
            refine lv_iinc (v := (nI (j + 1))) (lv' := [(7, .int (nI (j + 1))), (6, .int (x + 0)), (5, .int (nI i)), (4, .int (fk_oI y)), (0, .ref (bd 0)), (1, .int b), (2, .int a), (3, .int q)]) hx hb dX3_thread_63 hl (k := 1) rfl (nI_1 j) (by decide) rfl (fun ls hl => ?_)
            refine lv_goto (tgt := 19) hx hb dX3_thread_66 (by decide) ?_
            exact ih2 (j + 1) (x + 0) (by omega) ((congrArg (fk_lp _ n2 (j + 1)) (show (x + 0) = mm_cnt1 (fun u => mm_in S u b a && mm_lt S u i) j x from by simp [mm_cnt1, mm_lt, b_9])).trans hR2) _ _ _ hP hD hS (lv_sub hl [0, 1, 2, 3, 4, 5, 6, 7] rfl)
      exact inner 8 0 0 rfl rfl _ _ _ hP hD hS (lv_sub hl [0, 1, 2, 3, 4, 5, 6, 7] rfl)
  exact loop 8 0 none rfl rfl _ _ _ hP hD hS (lv_sub hl [0, 1, 2, 3, 4, 5] rfl)
