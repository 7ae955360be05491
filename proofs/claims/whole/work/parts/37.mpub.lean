def mm_requeueR (S : fk_S) (a b : Nat) (x : Int32) (k j : Nat) : Int32 := if S 0 a = x then nI ((mm_wake (nI a) 255 k (fk_up S 12 4 0)).1 + (mm_move (nI a) (nI b) j (mm_wake (nI a) 255 k (fk_up S 12 4 0)).2).1) else -1
def mm_requeue (S : fk_S) (a b : Nat) (x : Int32) (k j : Nat) : fk_S := if S 0 a = x then (mm_move (nI a) (nI b) j (mm_wake (nI a) 255 k (fk_up S 12 4 0)).2).2 else fk_up S 12 4 0

abbrev rmX3_requeue : Room := { frames := 6, cells := 0, slots := 0, locals := 138 }
set_option maxHeartbeats 4000000 in
set_option maxRecDepth 100000 in
theorem mc_requeue (l : Launch) (D : va_G) (bd : Nat → Nat) (cI cT cJ : ClassId) (X : va_W) (S : fk_S) (t : Nat) (ht : t < 8) (a : Nat) (ha : a < 16) (b : Nat) (hb9 : b < 16) (hab : ¬ a = b) (k j : Nat) (hk : k ≤ 8) (hj : j ≤ 8) (x : Int32) (hr0 : S 1 t = 0) : fk_C l D (fk_ty cI cT cJ) yX3_requeue wsX3_requeue rmX3_requeue [.ref (bd 0), .int (nI t), .int (nI a), .int x, .int (nI k), .int (nI b), .int (nI j)] (fk_mW bd cI S ++ X) (some (.int (mm_requeueR S a b x k j))) (fk_mW bd cI (mm_requeue S a b x k j) ++ X) := by
  refine fk_C_of (cc := cX3_requeue) (maxL := 10) (ret := (some .int)) (own := RX3) (by decide) rfl rfl (Nat.le_of_ble_eq_true rfl) ?_
  intro p e s m below meth c A ls hx hb hr hlocks hml hts hown hA hP hK hD hl
  have hS : va_S A s.heap s.heap [] := va_S.rf
  have hl : lv_has ls 10 [(0, .ref (bd 0)), (1, .int (nI t)), (2, .int (nI a)), (3, .int x), (4, .int (nI k)), (5, .int (nI b)), (6, .int (nI j))] := hl
  have hiX3 : ∀ w ∈ u_ws RX3 TX3 17, w ∈ wsX3_requeue := by decide +kernel
  refine lv_aload_n hx hb dX3_requeue_0 rfl (lv_at hl 0 rfl) ?_
  refine lv_iload_n hx hb dX3_requeue_1 rfl (lv_at hl 1 rfl) ?_
  refine fk_callS (As := [.int (nI t)]) (rest := [.ref (bd 0)]) ⟨hx, hb, hml, hown, hts⟩ (by have h9 := (mc_isThread l D bd cI cT cJ X S (nI t)); rw [fk_isT_nI (by omega)] at h9; exact h9) (va_cwS 1 hts gX3_requeue_X3_isThread rfl rfl rfl (by decide +kernel) ⟨Nat.le_of_ble_eq_true rfl, Nat.le_of_ble_eq_true rfl⟩) hK hP hD hS hA rfl hl.1 rfl (Nat.le_of_ble_eq_true rfl) dX3_requeue_2 ⟨Nat.le_of_ble_eq_true rfl, Nat.le_of_ble_eq_true rfl⟩ (fun H locs hP hD hS => ?_)
  refine W.eq (g2 := F0 m 5 ls [.int 1, .ref (bd 0)]) rfl ?_
  refine lv_if_eq (tgt := 27) hx hb dX3_requeue_5 (by decide) (fun c => absurd c (by decide)) (fun _ => ?_)
  refine lv_iload_n hx hb dX3_requeue_8 rfl (lv_at hl 2 rfl) ?_
  refine fk_callS (As := [.int (nI a)]) (rest := [.ref (bd 0)]) ⟨hx, hb, hml, hown, hts⟩ (by have h9 := (mc_isAddress l D bd cI cT cJ X S (nI a)); rw [fk_isA_nI (by omega)] at h9; exact h9) (va_cwS 1 hts gX3_requeue_X3_isAddress rfl rfl rfl (by decide +kernel) ⟨Nat.le_of_ble_eq_true rfl, Nat.le_of_ble_eq_true rfl⟩) hK hP hD hS hA rfl hl.1 rfl (Nat.le_of_ble_eq_true rfl) dX3_requeue_9 ⟨Nat.le_of_ble_eq_true rfl, Nat.le_of_ble_eq_true rfl⟩ (fun H locs hP hD hS => ?_)
  refine W.eq (g2 := F0 m 12 ls [.int 1, .ref (bd 0)]) rfl ?_
  refine lv_if_eq (tgt := 27) hx hb dX3_requeue_12 (by decide) (fun c => absurd c (by decide)) (fun _ => ?_)
  refine lv_iload hx hb dX3_requeue_15 (lv_at hl 5 rfl) ?_
  refine fk_callS (As := [.int (nI b)]) (rest := [.ref (bd 0)]) ⟨hx, hb, hml, hown, hts⟩ (by have h9 := (mc_isAddress l D bd cI cT cJ X S (nI b)); rw [fk_isA_nI (by omega)] at h9; exact h9) (va_cwS 1 hts gX3_requeue_X3_isAddress rfl rfl rfl (by decide +kernel) ⟨Nat.le_of_ble_eq_true rfl, Nat.le_of_ble_eq_true rfl⟩) hK hP hD hS hA rfl hl.1 rfl (Nat.le_of_ble_eq_true rfl) dX3_requeue_17 ⟨Nat.le_of_ble_eq_true rfl, Nat.le_of_ble_eq_true rfl⟩ (fun H locs hP hD hS => ?_)
  refine W.eq (g2 := F0 m 20 ls [.int 1, .ref (bd 0)]) rfl ?_
  refine lv_if_eq (tgt := 27) hx hb dX3_requeue_20 (by decide) (fun c => absurd c (by decide)) (fun _ => ?_)
  refine lv_iconst (v := 1) hx hb dX3_requeue_23 (by decide) ?_
  refine lv_goto (tgt := 28) hx hb dX3_requeue_24 (by decide) ?_
  refine fk_callV (As := [.int 1]) (rest := []) ⟨hx, hb, hml, hown, hts⟩ (mc_asks_t l D bd cI cT cJ X S) (cwV 1 hts gX3_requeue_X3_asks rfl rfl rfl (by decide +kernel) ⟨Nat.le_of_ble_eq_true rfl, Nat.le_of_ble_eq_true rfl⟩) (fk_rvM hK hP) hK hP hD hS hA rfl hl.1 rfl (Nat.le_of_ble_eq_true rfl) dX3_requeue_28 ⟨Nat.le_of_ble_eq_true rfl, Nat.le_of_ble_eq_true rfl⟩ (fun H locs hP hD hS => ?_)
  refine W.eq (g2 := F0 m 31 ls [.int 1]) rfl ?_
  refine lv_if_ne (tgt := 36) hx hb dX3_requeue_31 (by decide) (fun _ => ?_) (fun c => absurd c (by decide))
  refine lv_iload_n hx hb dX3_requeue_36 rfl (lv_at hl 2 rfl) ?_
  refine lv_iload hx hb dX3_requeue_37 (lv_at hl 5 rfl) ?_
  refine lv_icmp_eq (tgt := 66) hx hb dX3_requeue_39 (by decide) (fun c => absurd ((nI_eq (by omega) (by omega)).mp c) hab) (fun c_5 => ?_)
  refine lv_iload hx hb dX3_requeue_42 (lv_at hl 4 rfl) ?_
  refine lv_if_lt (tgt := 66) hx hb dX3_requeue_44 (by decide) (fun c_6 => absurd c_6 (nI_pos (by omega))) (fun c_6 => ?_)
  refine lv_iload hx hb dX3_requeue_47 (lv_at hl 4 rfl) ?_
  refine lv_bipush (v := 8) hx hb dX3_requeue_49 (by decide) ?_
  refine lv_icmp_gt (tgt := 66) hx hb dX3_requeue_51 (by decide) (fun c_7 => absurd c_7 (fun h9 => absurd h9 (Int32.not_lt.mpr (nI_le (b := 8) hk (by decide))))) (fun c_7 => ?_)
  refine lv_iload hx hb dX3_requeue_54 (lv_at hl 6 rfl) ?_
  refine lv_if_lt (tgt := 66) hx hb dX3_requeue_56 (by decide) (fun c_8 => absurd c_8 (nI_pos (by omega))) (fun c_8 => ?_)
  refine lv_iload hx hb dX3_requeue_59 (lv_at hl 6 rfl) ?_
  refine lv_bipush (v := 8) hx hb dX3_requeue_61 (by decide) ?_
  refine lv_icmp_le (tgt := 72) hx hb dX3_requeue_63 (by decide) (fun c_9 => ?_) (fun c_9 => absurd (nI_le (b := 8) hj (by decide)) c_9)
  refine lv_aload_n hx hb dX3_requeue_72 rfl (lv_at hl 0 rfl) ?_
  refine fk_getM hx hb hts hiX3 hown hK hP 1 (by decide) (v := .ref (bd 2)) rfl (List.mem_of_getElem? (i := 1) rfl) rfl dX3_requeue_73 ?_
  refine lv_iload_n hx hb dX3_requeue_76 rfl (lv_at hl 1 rfl) ?_
  refine fk_ldN hx hb hK hP 1 1 8 rfl (by decide) rfl rfl (vp_in_nI (show t < 8 from (by omega)) (by decide)) dX3_requeue_77 ?_
  refine W.eq (g2 := F0 m 78 ls [.int (S 1 t)]) (by simp [fk_up, mm_set, nI_clamp (n := t) (by omega)]) ?_
  refine lv_if_eq (tgt := 87) hx hb dX3_requeue_78 (by decide) (fun c_10 => ?_) (fun c_10 => absurd hr0 c_10)
  refine lv_aload_n hx hb dX3_requeue_87 rfl (lv_at hl 0 rfl) ?_
  refine fk_getM hx hb hts hiX3 hown hK hP 0 (by decide) (v := .ref (bd 1)) rfl (List.mem_of_getElem? (i := 2) rfl) rfl dX3_requeue_88 ?_
  refine lv_iload_n hx hb dX3_requeue_91 rfl (lv_at hl 2 rfl) ?_
  refine fk_ldN hx hb hK hP 0 0 16 rfl (by decide) rfl rfl (vp_in_nI (show a < 16 from ha) (by decide)) dX3_requeue_92 ?_
  refine W.eq (g2 := F0 m 93 ls [.int (S 0 a)]) (by simp [fk_up, mm_set, nI_clamp (n := a) (by omega)]) ?_
  refine lv_iload_n hx hb dX3_requeue_93 rfl (lv_at hl 3 rfl) ?_
  refine lv_icmp_eq (tgt := 99) hx hb dX3_requeue_94 (by decide) (fun c_11 => ?_) (fun c_11 => ?_)
  · refine lv_aload_n hx hb dX3_requeue_99 rfl (lv_at hl 0 rfl) ?_
    refine lv_iload_n hx hb dX3_requeue_100 rfl (lv_at hl 2 rfl) ?_
    refine lv_iload hx hb dX3_requeue_101 (lv_at hl 4 rfl) ?_
    refine lv_sipush (v := 255) hx hb dX3_requeue_103 (by decide) ?_
    refine fk_callV (As := [.int (nI a), .int (nI k), .int 255]) (rest := []) ⟨hx, hb, hml, hown, hts⟩ (mc_wakes l D bd cI cT cJ X (fk_up S 12 4 0) (nI a) 255 k (by omega)) (cwV 3 hts gX3_requeue_X3_wakes rfl rfl rfl (by decide +kernel) ⟨Nat.le_of_ble_eq_true rfl, Nat.le_of_ble_eq_true rfl⟩) (fk_rvM hK hP) hK hP hD hS hA rfl hl.1 rfl (Nat.le_of_ble_eq_true rfl) dX3_requeue_106 ⟨Nat.le_of_ble_eq_true rfl, Nat.le_of_ble_eq_true rfl⟩ (fun H locs hP hD hS => ?_)
    refine W.eq (g2 := F0 m 109 ls [.int (nI ((mm_wake (nI a) 255 k (fk_up S 12 4 0)).1))]) rfl ?_
    refine lv_istore (lv' := [(7, .int (nI ((mm_wake (nI a) 255 k (fk_up S 12 4 0)).1))), (0, .ref (bd 0)), (1, .int (nI t)), (2, .int (nI a)), (3, .int x), (4, .int (nI k)), (5, .int (nI b)), (6, .int (nI j))]) hx hb dX3_requeue_109 hl (by decide) rfl (fun ls hl => ?_)
    refine lv_iconst (v := 0) hx hb dX3_requeue_111 (by decide) ?_
    refine lv_istore (lv' := [(8, .int 0), (7, .int (nI ((mm_wake (nI a) 255 k (fk_up S 12 4 0)).1))), (0, .ref (bd 0)), (1, .int (nI t)), (2, .int (nI a)), (3, .int x), (4, .int (nI k)), (5, .int (nI b)), (6, .int (nI j))]) hx hb dX3_requeue_112 hl (by decide) rfl (fun ls hl => ?_)
    refine lv_aload_n hx hb dX3_requeue_114 rfl (lv_at hl 2 rfl) ?_
    refine lv_iload_n hx hb dX3_requeue_115 rfl (lv_at hl 4 rfl) ?_
    refine lv_iconst (v := 1) hx hb dX3_requeue_116 (by decide) ?_
    refine lv_sipush (v := 255) hx hb dX3_requeue_117 (by decide) ?_
    refine fk_callV (As := [.int (nI a), .int 1, .int 255]) (rest := []) ⟨hx, hb, hml, hown, hts⟩ (mc_first l D bd cI cT cJ X ((mm_wake (nI a) 255 k (fk_up S 12 4 0)).2) (nI a) 1 255) (cwV 3 hts gX3_requeue_X3_first rfl rfl rfl (by decide +kernel) ⟨Nat.le_of_ble_eq_true rfl, Nat.le_of_ble_eq_true rfl⟩) (fk_rvM hK hP) hK hP hD hS hA rfl hl.1 rfl (Nat.le_of_ble_eq_true rfl) dX3_requeue_120 ⟨Nat.le_of_ble_eq_true rfl, Nat.le_of_ble_eq_true rfl⟩ (fun H locs hP hD hS => ?_)
    refine W.eq (g2 := F0 m 123 ls [.int (fk_oI (mm_first ((mm_wake (nI a) 255 k (fk_up S 12 4 0)).2) (nI a) 1 255))]) rfl ?_
    refine lv_istore (lv' := [(9, .int (fk_oI (mm_first ((mm_wake (nI a) 255 k (fk_up S 12 4 0)).2) (nI a) 1 255))), (8, .int 0), (7, .int (nI ((mm_wake (nI a) 255 k (fk_up S 12 4 0)).1))), (0, .ref (bd 0)), (1, .int (nI t)), (2, .int (nI a)), (3, .int x), (4, .int (nI k)), (5, .int (nI b)), (6, .int (nI j))]) hx hb dX3_requeue_123 hl (by decide) rfl (fun ls hl => ?_)
    obtain ⟨w, hw9⟩ : ∃ w, w = (mm_wake (nI a) 255 k (fk_up S 12 4 0)).1 := ⟨_, rfl⟩
    rw [← hw9] at hl
    have loop : ∀ (n : Nat) (i : Nat) (S1 : fk_S), i + n = j → (mm_move (nI a) (nI b) n S1).2 = (mm_move (nI a) (nI b) j (mm_wake (nI a) 255 k (fk_up S 12 4 0)).2).2 → i + (mm_move (nI a) (nI b) n S1).1 = (mm_move (nI a) (nI b) j (mm_wake (nI a) 255 k (fk_up S 12 4 0)).2).1 → ∀ (H : Heap) (locs : List Loc) (ls : Array Slot), va_P D vwCl (fk_mW bd cI S1 ++ X) H → va_D A (fk_mW bd cI S1 ++ X) → va_S A s.heap H locs → lv_has ls 10 [(9, .int (fk_oI (mm_first S1 (nI a) 1 255))), (8, .int (nI i)), (7, .int (nI w)), (0, .ref (bd 0)), (1, .int (nI t)), (2, .int (nI a)), (3, .int x), (4, .int (nI k)), (5, .int (nI b)), (6, .int (nI j))] → W p l e rmX3_requeue s m ([.ref (bd 0), .int (nI t), .int (nI a), .int x, .int (nI k), .int (nI b), .int (nI j)] : List Value).toArray below meth c H locs 0 0 (fk_Q below D (fk_ty cI cT cJ) [.ref (bd 0), .int (nI t), .int (nI a), .int x, .int (nI k), .int (nI b), .int (nI j)] s A (fk_mW bd cI (mm_requeue S a b x k j) ++ X) (some (.int (mm_requeueR S a b x k j)))) (F0 m 125 ls []) := by
      intro n
      induction n with
      | zero =>
        intro i S1 hi h2 h1 H locs ls hP hD hS hl
        refine lv_iload hx hb dX3_requeue_125 (lv_at hl 1 rfl) ?_
        refine lv_iload hx hb dX3_requeue_127 (lv_at hl 9 rfl) ?_
        refine lv_icmp_ge (tgt := 163) hx hb dX3_requeue_129 (by decide) (fun c_12 => ?_) (fun c_12 => absurd (nI_le (a := j) (b := i) (by omega) (by omega)) c_12)
        refine lv_iload hx hb dX3_requeue_163 (lv_at hl 2 rfl) ?_
        refine lv_iload hx hb dX3_requeue_165 (lv_at hl 1 rfl) ?_
        refine lv_iadd hx hb dX3_requeue_167 ?_
        refine W.eq (g2 := F0 m 168 ls [.int (nI (w + i))]) (by rw [nI_add]) ?_
        exact fk_iret hx hb hr hlocks hP hK hD hS (congrArg (fun z => fk_mW bd cI z ++ X) (by have h9 : S 0 a = x := c_11; simp only [mm_requeue, if_pos h9]; rw [← h2]; rfl)) (by have h9 : S 0 a = x := c_11; simp only [mm_requeueR, if_pos h9]; rw [← hw9, ← h1]; rfl) dX3_requeue_168
      | succ n ih =>
        intro i S1 hi h2 h1 H locs ls hP hD hS hl
        rcases o_9 : mm_first S1 (nI a) 1 255 with _ | u
        · rw [o_9] at hl
          have hl : lv_has ls 10 [(9, .int (-1)), (8, .int (nI i)), (7, .int (nI w)), (0, .ref (bd 0)), (1, .int (nI t)), (2, .int (nI a)), (3, .int x), (4, .int (nI k)), (5, .int (nI b)), (6, .int (nI j))] := hl
          refine lv_iload hx hb dX3_requeue_125 (lv_at hl 1 rfl) ?_
          refine lv_iload hx hb dX3_requeue_127 (lv_at hl 9 rfl) ?_
          refine lv_icmp_ge (tgt := 163) hx hb dX3_requeue_129 (by decide) (fun c_13 => absurd c_13 (nI_ge (a := i) (b := j) (by omega) (by omega))) (fun c_13 => ?_)
          refine lv_iload hx hb dX3_requeue_132 (lv_at hl 0 rfl) ?_
          refine lv_iconst (v := (-1)) hx hb dX3_requeue_134 (by decide) ?_
          refine lv_icmp_eq (tgt := 163) hx hb dX3_requeue_135 (by decide) (fun _ => ?_) (fun c => absurd c (by decide))
          refine lv_iload hx hb dX3_requeue_163 (lv_at hl 2 rfl) ?_
          refine lv_iload hx hb dX3_requeue_165 (lv_at hl 1 rfl) ?_
          refine lv_iadd hx hb dX3_requeue_167 ?_
          refine W.eq (g2 := F0 m 168 ls [.int (nI (w + i))]) (by rw [nI_add]) ?_
          exact fk_iret hx hb hr hlocks hP hK hD hS (congrArg (fun z => fk_mW bd cI z ++ X) (by have h9 : S 0 a = x := c_11; simp only [mm_requeue, if_pos h9]; rw [← h2]; simp only [mm_move, o_9])) (by have h9 : S 0 a = x := c_11; simp only [mm_requeueR, if_pos h9]; rw [← hw9, ← h1]; simp only [mm_move, o_9]; rfl) dX3_requeue_168
        · rw [o_9] at hl
          have hl : lv_has ls 10 [(9, .int (nI u)), (8, .int (nI i)), (7, .int (nI w)), (0, .ref (bd 0)), (1, .int (nI t)), (2, .int (nI a)), (3, .int x), (4, .int (nI k)), (5, .int (nI b)), (6, .int (nI j))] := hl
          have hu : u < 8 := mm_first_lt o_9
          refine lv_iload hx hb dX3_requeue_125 (lv_at hl 1 rfl) ?_
          refine lv_iload hx hb dX3_requeue_127 (lv_at hl 9 rfl) ?_
          refine lv_icmp_ge (tgt := 163) hx hb dX3_requeue_129 (by decide) (fun c_15 => absurd c_15 (nI_ge (a := i) (b := j) (by omega) (by omega))) (fun c_15 => ?_)
          refine lv_iload hx hb dX3_requeue_132 (lv_at hl 0 rfl) ?_
          refine lv_iconst (v := (-1)) hx hb dX3_requeue_134 (by decide) ?_
          refine lv_icmp_eq (tgt := 163) hx hb dX3_requeue_135 (by decide) (fun c => absurd c (fk_nI_m1 (by omega))) (fun _ => ?_)
          refine lv_aload_n hx hb dX3_requeue_138 rfl (lv_at hl 3 rfl) ?_
          refine lv_iload hx hb dX3_requeue_139 (lv_at hl 0 rfl) ?_
          refine lv_iload hx hb dX3_requeue_141 (lv_at hl 8 rfl) ?_
          refine fk_callV (As := [.int (nI u), .int (nI b)]) (rest := []) ⟨hx, hb, hml, hown, hts⟩ (mc_joins l D bd cI cT cJ X S1 u (nI b) hu) (cwV 2 hts gX3_requeue_X3_joins rfl rfl rfl (by decide +kernel) ⟨Nat.le_of_ble_eq_true rfl, Nat.le_of_ble_eq_true rfl⟩) (fk_rvM hK hP) hK hP hD hS hA rfl hl.1 rfl (Nat.le_of_ble_eq_true rfl) dX3_requeue_143 ⟨Nat.le_of_ble_eq_true rfl, Nat.le_of_ble_eq_true rfl⟩ (fun H locs hP hD hS => ?_)
          refine W.eq (g2 := F0 m 146 ls []) rfl ?_
          refine lv_iinc (v := (nI (i + 1))) (lv' := [(8, .int (nI (i + 1))), (9, .int (nI u)), (7, .int (nI w)), (0, .ref (bd 0)), (1, .int (nI t)), (2, .int (nI a)), (3, .int x), (4, .int (nI k)), (5, .int (nI b)), (6, .int (nI j))]) hx hb dX3_requeue_146 hl (k := 1) rfl (nI_1 i) (by decide) rfl (fun ls hl => ?_)
          refine lv_aload_n hx hb dX3_requeue_149 rfl (lv_at hl 3 rfl) ?_
          refine lv_iload_n hx hb dX3_requeue_150 rfl (lv_at hl 5 rfl) ?_
          refine lv_iconst (v := 1) hx hb dX3_requeue_151 (by decide) ?_
          refine lv_sipush (v := 255) hx hb dX3_requeue_152 (by decide) ?_
          refine fk_callV (As := [.int (nI a), .int 1, .int 255]) (rest := []) ⟨hx, hb, hml, hown, hts⟩ (mc_first l D bd cI cT cJ X (kk_join S1 u (nI b)) (nI a) 1 255) (cwV 3 hts gX3_requeue_X3_first rfl rfl rfl (by decide +kernel) ⟨Nat.le_of_ble_eq_true rfl, Nat.le_of_ble_eq_true rfl⟩) (fk_rvM hK hP) hK hP hD hS hA rfl hl.1 rfl (Nat.le_of_ble_eq_true rfl) dX3_requeue_155 ⟨Nat.le_of_ble_eq_true rfl, Nat.le_of_ble_eq_true rfl⟩ (fun H locs hP hD hS => ?_)
          refine W.eq (g2 := F0 m 158 ls [.int (fk_oI (mm_first (kk_join S1 u (nI b)) (nI a) 1 255))]) rfl ?_
          refine lv_istore (lv' := [(9, .int (fk_oI (mm_first (kk_join S1 u (nI b)) (nI a) 1 255))), (8, .int (nI (i + 1))), (7, .int (nI w)), (0, .ref (bd 0)), (1, .int (nI t)), (2, .int (nI a)), (3, .int x), (4, .int (nI k)), (5, .int (nI b)), (6, .int (nI j))]) hx hb dX3_requeue_158 hl (by decide) rfl (fun ls hl => ?_)
          refine lv_goto (tgt := 125) hx hb dX3_requeue_160 (by decide) ?_
          exact ih (i + 1) (kk_join S1 u (nI b)) (by omega) (by rw [← h2]; simp only [mm_move, o_9]) (by rw [← h1]; simp only [mm_move, o_9]; omega) _ _ _ hP hD hS (lv_sub hl [0, 1, 2, 3, 4, 5, 6, 7, 8, 9] rfl)
    exact loop j 0 (mm_wake (nI a) 255 k (fk_up S 12 4 0)).2 (by omega) rfl (by omega) _ _ _ hP hD hS (lv_sub hl [0, 1, 2, 3, 4, 5, 6, 7, 8, 9] rfl)
  · refine lv_iconst (v := (-1)) hx hb dX3_requeue_97 (by decide) ?_
    exact fk_iret hx hb hr hlocks hP hK hD hS (congrArg (fun z => fk_mW bd cI z ++ X) (by have h9 : ¬ S 0 a = x := c_11; simp only [mm_requeue, if_neg h9])) (by have h9 : ¬ S 0 a = x := c_11; simp only [mm_requeueR, if_neg h9]) dX3_requeue_98

set_option maxHeartbeats 4000000 in
set_option maxRecDepth 100000 in
theorem mn_requeue_1 (l : Launch) (D : va_G) (bd : Nat → Nat) (cI cT cJ : ClassId) (X : va_W) (S : fk_S) (th av x wk bv mv : Int32) (h : (fk_isT th && fk_isA av && fk_isA bv) = false) : fk_C l D (fk_ty cI cT cJ) yX3_requeue wsX3_requeue rmX3_requeue [.ref (bd 0), .int th, .int av, .int x, .int wk, .int bv, .int mv] (fk_mW bd cI S ++ X) (some (.int 0)) (fk_mW bd cI (fk_up S 12 4 1) ++ X) := by
  refine fk_C_of (cc := cX3_requeue) (maxL := 10) (ret := (some .int)) (own := RX3) (by decide) rfl rfl (Nat.le_of_ble_eq_true rfl) ?_
  intro p e s m below meth c A ls hx hb hr hlocks hml hts hown hA hP hK hD hl
  have hS : va_S A s.heap s.heap [] := va_S.rf
  have hl : lv_has ls 10 [(0, .ref (bd 0)), (1, .int th), (2, .int av), (3, .int x), (4, .int wk), (5, .int bv), (6, .int mv)] := hl
  refine lv_aload_n hx hb dX3_requeue_0 rfl (lv_at hl 0 rfl) ?_
  refine lv_iload_n hx hb dX3_requeue_1 rfl (lv_at hl 1 rfl) ?_
  refine fk_callS (As := [.int th]) (rest := [.ref (bd 0)]) ⟨hx, hb, hml, hown, hts⟩ (mc_isThread l D bd cI cT cJ X S th) (va_cwS 1 hts gX3_requeue_X3_isThread rfl rfl rfl (by decide +kernel) ⟨Nat.le_of_ble_eq_true rfl, Nat.le_of_ble_eq_true rfl⟩) hK hP hD hS hA rfl hl.1 rfl (Nat.le_of_ble_eq_true rfl) dX3_requeue_2 ⟨Nat.le_of_ble_eq_true rfl, Nat.le_of_ble_eq_true rfl⟩ (fun H locs hP hD hS => ?_)
  cases b_1 : fk_isT th with
  | true =>
    refine W.eq (g2 := F0 m 5 ls [.int 1, .ref (bd 0)]) (by first | rfl | (rw [b_1]; rfl)) ?_
    refine lv_if_eq (tgt := 27) hx hb dX3_requeue_5 (by decide) (fun c => absurd c (by decide)) (fun _ => ?_)
    refine lv_iload_n hx hb dX3_requeue_8 rfl (lv_at hl 2 rfl) ?_
    refine fk_callS (As := [.int av]) (rest := [.ref (bd 0)]) ⟨hx, hb, hml, hown, hts⟩ (mc_isAddress l D bd cI cT cJ X S av) (va_cwS 1 hts gX3_requeue_X3_isAddress rfl rfl rfl (by decide +kernel) ⟨Nat.le_of_ble_eq_true rfl, Nat.le_of_ble_eq_true rfl⟩) hK hP hD hS hA rfl hl.1 rfl (Nat.le_of_ble_eq_true rfl) dX3_requeue_9 ⟨Nat.le_of_ble_eq_true rfl, Nat.le_of_ble_eq_true rfl⟩ (fun H locs hP hD hS => ?_)
    cases b_3 : fk_isA av with
    | true =>
      refine W.eq (g2 := F0 m 12 ls [.int 1, .ref (bd 0)]) (by first | rfl | (rw [b_3]; rfl)) ?_
      refine lv_if_eq (tgt := 27) hx hb dX3_requeue_12 (by decide) (fun c => absurd c (by decide)) (fun _ => ?_)
      refine lv_iload hx hb dX3_requeue_15 (lv_at hl 5 rfl) ?_
      refine fk_callS (As := [.int bv]) (rest := [.ref (bd 0)]) ⟨hx, hb, hml, hown, hts⟩ (mc_isAddress l D bd cI cT cJ X S bv) (va_cwS 1 hts gX3_requeue_X3_isAddress rfl rfl rfl (by decide +kernel) ⟨Nat.le_of_ble_eq_true rfl, Nat.le_of_ble_eq_true rfl⟩) hK hP hD hS hA rfl hl.1 rfl (Nat.le_of_ble_eq_true rfl) dX3_requeue_17 ⟨Nat.le_of_ble_eq_true rfl, Nat.le_of_ble_eq_true rfl⟩ (fun H locs hP hD hS => ?_)
      cases b_5 : fk_isA bv with
      | true =>
        refine W.eq (g2 := F0 m 20 ls [.int 1, .ref (bd 0)]) (by first | rfl | (rw [b_5]; rfl)) ?_
        refine lv_if_eq (tgt := 27) hx hb dX3_requeue_20 (by decide) (fun c => absurd c (by decide)) (fun _ => ?_)
        refine lv_iconst (v := 1) hx hb dX3_requeue_23 (by decide) ?_
        refine lv_goto (tgt := 28) hx hb dX3_requeue_24 (by decide) ?_
        refine fk_callV (As := [.int 1]) (rest := []) ⟨hx, hb, hml, hown, hts⟩ (mc_asks_t l D bd cI cT cJ X S) (cwV 1 hts gX3_requeue_X3_asks rfl rfl rfl (by decide +kernel) ⟨Nat.le_of_ble_eq_true rfl, Nat.le_of_ble_eq_true rfl⟩) (fk_rvM hK hP) hK hP hD hS hA rfl hl.1 rfl (Nat.le_of_ble_eq_true rfl) dX3_requeue_28 ⟨Nat.le_of_ble_eq_true rfl, Nat.le_of_ble_eq_true rfl⟩ (fun H locs hP hD hS => ?_)
        refine W.eq (g2 := F0 m 31 ls [.int 1]) rfl ?_
        exact absurd h (by simp [b_1, b_3, b_5])
      | false =>
        refine W.eq (g2 := F0 m 20 ls [.int 0, .ref (bd 0)]) (by first | rfl | (rw [b_5]; rfl)) ?_
        refine lv_if_eq (tgt := 27) hx hb dX3_requeue_20 (by decide) (fun _ => ?_) (fun c => absurd c (by decide))
        refine lv_iconst (v := 0) hx hb dX3_requeue_27 (by decide) ?_
        refine fk_callV (As := [.int 0]) (rest := []) ⟨hx, hb, hml, hown, hts⟩ (mc_asks_f l D bd cI cT cJ X S) (cwV 1 hts gX3_requeue_X3_asks rfl rfl rfl (by decide +kernel) ⟨Nat.le_of_ble_eq_true rfl, Nat.le_of_ble_eq_true rfl⟩) (fk_rvM hK hP) hK hP hD hS hA rfl hl.1 rfl (Nat.le_of_ble_eq_true rfl) dX3_requeue_28 ⟨Nat.le_of_ble_eq_true rfl, Nat.le_of_ble_eq_true rfl⟩ (fun H locs hP hD hS => ?_)
        refine W.eq (g2 := F0 m 31 ls [.int 0]) rfl ?_
        refine lv_if_ne (tgt := 36) hx hb dX3_requeue_31 (by decide) (fun c => absurd c (by decide)) (fun _ => ?_)
        refine lv_iconst (v := 0) hx hb dX3_requeue_34 (by decide) ?_
        exact fk_iret hx hb hr hlocks hP hK hD hS (congrArg (fun z => fk_mW bd cI z ++ X) (by rfl)) (by rfl) dX3_requeue_35
    | false =>
      refine W.eq (g2 := F0 m 12 ls [.int 0, .ref (bd 0)]) (by first | rfl | (rw [b_3]; rfl)) ?_
      refine lv_if_eq (tgt := 27) hx hb dX3_requeue_12 (by decide) (fun _ => ?_) (fun c => absurd c (by decide))
      refine lv_iconst (v := 0) hx hb dX3_requeue_27 (by decide) ?_
      refine fk_callV (As := [.int 0]) (rest := []) ⟨hx, hb, hml, hown, hts⟩ (mc_asks_f l D bd cI cT cJ X S) (cwV 1 hts gX3_requeue_X3_asks rfl rfl rfl (by decide +kernel) ⟨Nat.le_of_ble_eq_true rfl, Nat.le_of_ble_eq_true rfl⟩) (fk_rvM hK hP) hK hP hD hS hA rfl hl.1 rfl (Nat.le_of_ble_eq_true rfl) dX3_requeue_28 ⟨Nat.le_of_ble_eq_true rfl, Nat.le_of_ble_eq_true rfl⟩ (fun H locs hP hD hS => ?_)
      refine W.eq (g2 := F0 m 31 ls [.int 0]) rfl ?_
      refine lv_if_ne (tgt := 36) hx hb dX3_requeue_31 (by decide) (fun c => absurd c (by decide)) (fun _ => ?_)
      refine lv_iconst (v := 0) hx hb dX3_requeue_34 (by decide) ?_
      exact fk_iret hx hb hr hlocks hP hK hD hS (congrArg (fun z => fk_mW bd cI z ++ X) (by rfl)) (by rfl) dX3_requeue_35
  | false =>
    refine W.eq (g2 := F0 m 5 ls [.int 0, .ref (bd 0)]) (by first | rfl | (rw [b_1]; rfl)) ?_
    refine lv_if_eq (tgt := 27) hx hb dX3_requeue_5 (by decide) (fun _ => ?_) (fun c => absurd c (by decide))
    refine lv_iconst (v := 0) hx hb dX3_requeue_27 (by decide) ?_
    refine fk_callV (As := [.int 0]) (rest := []) ⟨hx, hb, hml, hown, hts⟩ (mc_asks_f l D bd cI cT cJ X S) (cwV 1 hts gX3_requeue_X3_asks rfl rfl rfl (by decide +kernel) ⟨Nat.le_of_ble_eq_true rfl, Nat.le_of_ble_eq_true rfl⟩) (fk_rvM hK hP) hK hP hD hS hA rfl hl.1 rfl (Nat.le_of_ble_eq_true rfl) dX3_requeue_28 ⟨Nat.le_of_ble_eq_true rfl, Nat.le_of_ble_eq_true rfl⟩ (fun H locs hP hD hS => ?_)
    refine W.eq (g2 := F0 m 31 ls [.int 0]) rfl ?_
    refine lv_if_ne (tgt := 36) hx hb dX3_requeue_31 (by decide) (fun c => absurd c (by decide)) (fun _ => ?_)
    refine lv_iconst (v := 0) hx hb dX3_requeue_34 (by decide) ?_
    exact fk_iret hx hb hr hlocks hP hK hD hS (congrArg (fun z => fk_mW bd cI z ++ X) (by rfl)) (by rfl) dX3_requeue_35

set_option maxHeartbeats 4000000 in
set_option maxRecDepth 100000 in
theorem mn_requeue_2 (l : Launch) (D : va_G) (bd : Nat → Nat) (cI cT cJ : ClassId) (X : va_W) (S : fk_S) (t : Nat) (ht : t < 8) (a : Nat) (ha : a < 16) (b : Nat) (hb9 : b < 16) (x wk mv : Int32) (h : (decide (a = b) || !fk_btw wk 0 8 || !fk_btw mv 0 8) = true) : fk_C l D (fk_ty cI cT cJ) yX3_requeue wsX3_requeue rmX3_requeue [.ref (bd 0), .int (nI t), .int (nI a), .int x, .int wk, .int (nI b), .int mv] (fk_mW bd cI S ++ X) (some (.int 0)) (fk_mW bd cI (fk_up S 12 4 2) ++ X) := by
  refine fk_C_of (cc := cX3_requeue) (maxL := 10) (ret := (some .int)) (own := RX3) (by decide) rfl rfl (Nat.le_of_ble_eq_true rfl) ?_
  intro p e s m below meth c A ls hx hb hr hlocks hml hts hown hA hP hK hD hl
  have hS : va_S A s.heap s.heap [] := va_S.rf
  have hl : lv_has ls 10 [(0, .ref (bd 0)), (1, .int (nI t)), (2, .int (nI a)), (3, .int x), (4, .int wk), (5, .int (nI b)), (6, .int mv)] := hl
  refine lv_aload_n hx hb dX3_requeue_0 rfl (lv_at hl 0 rfl) ?_
  refine lv_iload_n hx hb dX3_requeue_1 rfl (lv_at hl 1 rfl) ?_
  refine fk_callS (As := [.int (nI t)]) (rest := [.ref (bd 0)]) ⟨hx, hb, hml, hown, hts⟩ (by have h9 := (mc_isThread l D bd cI cT cJ X S (nI t)); rw [fk_isT_nI (by omega)] at h9; exact h9) (va_cwS 1 hts gX3_requeue_X3_isThread rfl rfl rfl (by decide +kernel) ⟨Nat.le_of_ble_eq_true rfl, Nat.le_of_ble_eq_true rfl⟩) hK hP hD hS hA rfl hl.1 rfl (Nat.le_of_ble_eq_true rfl) dX3_requeue_2 ⟨Nat.le_of_ble_eq_true rfl, Nat.le_of_ble_eq_true rfl⟩ (fun H locs hP hD hS => ?_)
  refine W.eq (g2 := F0 m 5 ls [.int 1, .ref (bd 0)]) rfl ?_
  refine lv_if_eq (tgt := 27) hx hb dX3_requeue_5 (by decide) (fun c => absurd c (by decide)) (fun _ => ?_)
  refine lv_iload_n hx hb dX3_requeue_8 rfl (lv_at hl 2 rfl) ?_
  refine fk_callS (As := [.int (nI a)]) (rest := [.ref (bd 0)]) ⟨hx, hb, hml, hown, hts⟩ (by have h9 := (mc_isAddress l D bd cI cT cJ X S (nI a)); rw [fk_isA_nI (by omega)] at h9; exact h9) (va_cwS 1 hts gX3_requeue_X3_isAddress rfl rfl rfl (by decide +kernel) ⟨Nat.le_of_ble_eq_true rfl, Nat.le_of_ble_eq_true rfl⟩) hK hP hD hS hA rfl hl.1 rfl (Nat.le_of_ble_eq_true rfl) dX3_requeue_9 ⟨Nat.le_of_ble_eq_true rfl, Nat.le_of_ble_eq_true rfl⟩ (fun H locs hP hD hS => ?_)
  refine W.eq (g2 := F0 m 12 ls [.int 1, .ref (bd 0)]) rfl ?_
  refine lv_if_eq (tgt := 27) hx hb dX3_requeue_12 (by decide) (fun c => absurd c (by decide)) (fun _ => ?_)
  refine lv_iload hx hb dX3_requeue_15 (lv_at hl 5 rfl) ?_
  refine fk_callS (As := [.int (nI b)]) (rest := [.ref (bd 0)]) ⟨hx, hb, hml, hown, hts⟩ (by have h9 := (mc_isAddress l D bd cI cT cJ X S (nI b)); rw [fk_isA_nI (by omega)] at h9; exact h9) (va_cwS 1 hts gX3_requeue_X3_isAddress rfl rfl rfl (by decide +kernel) ⟨Nat.le_of_ble_eq_true rfl, Nat.le_of_ble_eq_true rfl⟩) hK hP hD hS hA rfl hl.1 rfl (Nat.le_of_ble_eq_true rfl) dX3_requeue_17 ⟨Nat.le_of_ble_eq_true rfl, Nat.le_of_ble_eq_true rfl⟩ (fun H locs hP hD hS => ?_)
  refine W.eq (g2 := F0 m 20 ls [.int 1, .ref (bd 0)]) rfl ?_
  refine lv_if_eq (tgt := 27) hx hb dX3_requeue_20 (by decide) (fun c => absurd c (by decide)) (fun _ => ?_)
  refine lv_iconst (v := 1) hx hb dX3_requeue_23 (by decide) ?_
  refine lv_goto (tgt := 28) hx hb dX3_requeue_24 (by decide) ?_
  refine fk_callV (As := [.int 1]) (rest := []) ⟨hx, hb, hml, hown, hts⟩ (mc_asks_t l D bd cI cT cJ X S) (cwV 1 hts gX3_requeue_X3_asks rfl rfl rfl (by decide +kernel) ⟨Nat.le_of_ble_eq_true rfl, Nat.le_of_ble_eq_true rfl⟩) (fk_rvM hK hP) hK hP hD hS hA rfl hl.1 rfl (Nat.le_of_ble_eq_true rfl) dX3_requeue_28 ⟨Nat.le_of_ble_eq_true rfl, Nat.le_of_ble_eq_true rfl⟩ (fun H locs hP hD hS => ?_)
  refine W.eq (g2 := F0 m 31 ls [.int 1]) rfl ?_
  refine lv_if_ne (tgt := 36) hx hb dX3_requeue_31 (by decide) (fun _ => ?_) (fun c => absurd c (by decide))
  refine lv_iload_n hx hb dX3_requeue_36 rfl (lv_at hl 2 rfl) ?_
  refine lv_iload hx hb dX3_requeue_37 (lv_at hl 5 rfl) ?_
  refine lv_icmp_eq (tgt := 66) hx hb dX3_requeue_39 (by decide) (fun c_5 => ?_) (fun c_5 => ?_)
  · refine lv_aload_n hx hb dX3_requeue_66 rfl (lv_at hl 0 rfl) ?_
    refine lv_iconst (v := 2) hx hb dX3_requeue_67 (by decide) ?_
    refine fk_callV (As := [.int 2]) (rest := []) ⟨hx, hb, hml, hown, hts⟩ (mc_fails l D bd cI cT cJ X (fk_up S 12 4 0) 2) (cwV 1 hts gX3_requeue_X3_fails rfl rfl rfl (by decide +kernel) ⟨Nat.le_of_ble_eq_true rfl, Nat.le_of_ble_eq_true rfl⟩) (fk_rvM hK hP) hK hP hD hS hA rfl hl.1 rfl (Nat.le_of_ble_eq_true rfl) dX3_requeue_68 ⟨Nat.le_of_ble_eq_true rfl, Nat.le_of_ble_eq_true rfl⟩ (fun H locs hP hD hS => ?_)
    refine W.eq (g2 := F0 m 71 ls [.int 0]) rfl ?_
    exact fk_iret hx hb hr hlocks hP hK hD hS (congrArg (fun z => fk_mW bd cI z ++ X) (by exact fk_up_up S 12 4 0 2)) (by rfl) dX3_requeue_71
  · refine lv_iload hx hb dX3_requeue_42 (lv_at hl 4 rfl) ?_
    refine lv_if_lt (tgt := 66) hx hb dX3_requeue_44 (by decide) (fun c_6 => ?_) (fun c_6 => ?_)
    · refine lv_aload_n hx hb dX3_requeue_66 rfl (lv_at hl 0 rfl) ?_
      refine lv_iconst (v := 2) hx hb dX3_requeue_67 (by decide) ?_
      refine fk_callV (As := [.int 2]) (rest := []) ⟨hx, hb, hml, hown, hts⟩ (mc_fails l D bd cI cT cJ X (fk_up S 12 4 0) 2) (cwV 1 hts gX3_requeue_X3_fails rfl rfl rfl (by decide +kernel) ⟨Nat.le_of_ble_eq_true rfl, Nat.le_of_ble_eq_true rfl⟩) (fk_rvM hK hP) hK hP hD hS hA rfl hl.1 rfl (Nat.le_of_ble_eq_true rfl) dX3_requeue_68 ⟨Nat.le_of_ble_eq_true rfl, Nat.le_of_ble_eq_true rfl⟩ (fun H locs hP hD hS => ?_)
      refine W.eq (g2 := F0 m 71 ls [.int 0]) rfl ?_
      exact fk_iret hx hb hr hlocks hP hK hD hS (congrArg (fun z => fk_mW bd cI z ++ X) (by exact fk_up_up S 12 4 0 2)) (by rfl) dX3_requeue_71
    · refine lv_iload hx hb dX3_requeue_47 (lv_at hl 4 rfl) ?_
      refine lv_bipush (v := 8) hx hb dX3_requeue_49 (by decide) ?_
      refine lv_icmp_gt (tgt := 66) hx hb dX3_requeue_51 (by decide) (fun c_7 => ?_) (fun c_7 => ?_)
      · refine lv_aload_n hx hb dX3_requeue_66 rfl (lv_at hl 0 rfl) ?_
        refine lv_iconst (v := 2) hx hb dX3_requeue_67 (by decide) ?_
        refine fk_callV (As := [.int 2]) (rest := []) ⟨hx, hb, hml, hown, hts⟩ (mc_fails l D bd cI cT cJ X (fk_up S 12 4 0) 2) (cwV 1 hts gX3_requeue_X3_fails rfl rfl rfl (by decide +kernel) ⟨Nat.le_of_ble_eq_true rfl, Nat.le_of_ble_eq_true rfl⟩) (fk_rvM hK hP) hK hP hD hS hA rfl hl.1 rfl (Nat.le_of_ble_eq_true rfl) dX3_requeue_68 ⟨Nat.le_of_ble_eq_true rfl, Nat.le_of_ble_eq_true rfl⟩ (fun H locs hP hD hS => ?_)
        refine W.eq (g2 := F0 m 71 ls [.int 0]) rfl ?_
        exact fk_iret hx hb hr hlocks hP hK hD hS (congrArg (fun z => fk_mW bd cI z ++ X) (by exact fk_up_up S 12 4 0 2)) (by rfl) dX3_requeue_71
      · refine lv_iload hx hb dX3_requeue_54 (lv_at hl 6 rfl) ?_
        refine lv_if_lt (tgt := 66) hx hb dX3_requeue_56 (by decide) (fun c_8 => ?_) (fun c_8 => ?_)
        · refine lv_aload_n hx hb dX3_requeue_66 rfl (lv_at hl 0 rfl) ?_
          refine lv_iconst (v := 2) hx hb dX3_requeue_67 (by decide) ?_
          refine fk_callV (As := [.int 2]) (rest := []) ⟨hx, hb, hml, hown, hts⟩ (mc_fails l D bd cI cT cJ X (fk_up S 12 4 0) 2) (cwV 1 hts gX3_requeue_X3_fails rfl rfl rfl (by decide +kernel) ⟨Nat.le_of_ble_eq_true rfl, Nat.le_of_ble_eq_true rfl⟩) (fk_rvM hK hP) hK hP hD hS hA rfl hl.1 rfl (Nat.le_of_ble_eq_true rfl) dX3_requeue_68 ⟨Nat.le_of_ble_eq_true rfl, Nat.le_of_ble_eq_true rfl⟩ (fun H locs hP hD hS => ?_)
          refine W.eq (g2 := F0 m 71 ls [.int 0]) rfl ?_
          exact fk_iret hx hb hr hlocks hP hK hD hS (congrArg (fun z => fk_mW bd cI z ++ X) (by exact fk_up_up S 12 4 0 2)) (by rfl) dX3_requeue_71
        · refine lv_iload hx hb dX3_requeue_59 (lv_at hl 6 rfl) ?_
          refine lv_bipush (v := 8) hx hb dX3_requeue_61 (by decide) ?_
          refine lv_icmp_le (tgt := 72) hx hb dX3_requeue_63 (by decide) (fun c_9 => ?_) (fun c_9 => ?_)
          · exact absurd h (by simp [fk_btw, show ¬ a = b from fun h9 => c_5 (by rw [h9]), c_6, Int32.not_lt.mp c_6, c_7, Int32.not_lt.mp c_7, c_8, Int32.not_lt.mp c_8, c_9, Int32.not_lt.mpr c_9])
          · refine lv_aload_n hx hb dX3_requeue_66 rfl (lv_at hl 0 rfl) ?_
            refine lv_iconst (v := 2) hx hb dX3_requeue_67 (by decide) ?_
            refine fk_callV (As := [.int 2]) (rest := []) ⟨hx, hb, hml, hown, hts⟩ (mc_fails l D bd cI cT cJ X (fk_up S 12 4 0) 2) (cwV 1 hts gX3_requeue_X3_fails rfl rfl rfl (by decide +kernel) ⟨Nat.le_of_ble_eq_true rfl, Nat.le_of_ble_eq_true rfl⟩) (fk_rvM hK hP) hK hP hD hS hA rfl hl.1 rfl (Nat.le_of_ble_eq_true rfl) dX3_requeue_68 ⟨Nat.le_of_ble_eq_true rfl, Nat.le_of_ble_eq_true rfl⟩ (fun H locs hP hD hS => ?_)
            refine W.eq (g2 := F0 m 71 ls [.int 0]) rfl ?_
            exact fk_iret hx hb hr hlocks hP hK hD hS (congrArg (fun z => fk_mW bd cI z ++ X) (by exact fk_up_up S 12 4 0 2)) (by rfl) dX3_requeue_71

set_option maxHeartbeats 4000000 in
set_option maxRecDepth 100000 in
theorem mn_requeue_3 (l : Launch) (D : va_G) (bd : Nat → Nat) (cI cT cJ : ClassId) (X : va_W) (S : fk_S) (t : Nat) (ht : t < 8) (a : Nat) (ha : a < 16) (b : Nat) (hb9 : b < 16) (hab : ¬ a = b) (k j : Nat) (hk : k ≤ 8) (hj : j ≤ 8) (x : Int32) (h : ¬ S 1 t = 0) : fk_C l D (fk_ty cI cT cJ) yX3_requeue wsX3_requeue rmX3_requeue [.ref (bd 0), .int (nI t), .int (nI a), .int x, .int (nI k), .int (nI b), .int (nI j)] (fk_mW bd cI S ++ X) (some (.int 0)) (fk_mW bd cI (fk_up S 12 4 3) ++ X) := by
  refine fk_C_of (cc := cX3_requeue) (maxL := 10) (ret := (some .int)) (own := RX3) (by decide) rfl rfl (Nat.le_of_ble_eq_true rfl) ?_
  intro p e s m below meth c A ls hx hb hr hlocks hml hts hown hA hP hK hD hl
  have hS : va_S A s.heap s.heap [] := va_S.rf
  have hl : lv_has ls 10 [(0, .ref (bd 0)), (1, .int (nI t)), (2, .int (nI a)), (3, .int x), (4, .int (nI k)), (5, .int (nI b)), (6, .int (nI j))] := hl
  have hiX3 : ∀ w ∈ u_ws RX3 TX3 17, w ∈ wsX3_requeue := by decide +kernel
  refine lv_aload_n hx hb dX3_requeue_0 rfl (lv_at hl 0 rfl) ?_
  refine lv_iload_n hx hb dX3_requeue_1 rfl (lv_at hl 1 rfl) ?_
  refine fk_callS (As := [.int (nI t)]) (rest := [.ref (bd 0)]) ⟨hx, hb, hml, hown, hts⟩ (by have h9 := (mc_isThread l D bd cI cT cJ X S (nI t)); rw [fk_isT_nI (by omega)] at h9; exact h9) (va_cwS 1 hts gX3_requeue_X3_isThread rfl rfl rfl (by decide +kernel) ⟨Nat.le_of_ble_eq_true rfl, Nat.le_of_ble_eq_true rfl⟩) hK hP hD hS hA rfl hl.1 rfl (Nat.le_of_ble_eq_true rfl) dX3_requeue_2 ⟨Nat.le_of_ble_eq_true rfl, Nat.le_of_ble_eq_true rfl⟩ (fun H locs hP hD hS => ?_)
  refine W.eq (g2 := F0 m 5 ls [.int 1, .ref (bd 0)]) rfl ?_
  refine lv_if_eq (tgt := 27) hx hb dX3_requeue_5 (by decide) (fun c => absurd c (by decide)) (fun _ => ?_)
  refine lv_iload_n hx hb dX3_requeue_8 rfl (lv_at hl 2 rfl) ?_
  refine fk_callS (As := [.int (nI a)]) (rest := [.ref (bd 0)]) ⟨hx, hb, hml, hown, hts⟩ (by have h9 := (mc_isAddress l D bd cI cT cJ X S (nI a)); rw [fk_isA_nI (by omega)] at h9; exact h9) (va_cwS 1 hts gX3_requeue_X3_isAddress rfl rfl rfl (by decide +kernel) ⟨Nat.le_of_ble_eq_true rfl, Nat.le_of_ble_eq_true rfl⟩) hK hP hD hS hA rfl hl.1 rfl (Nat.le_of_ble_eq_true rfl) dX3_requeue_9 ⟨Nat.le_of_ble_eq_true rfl, Nat.le_of_ble_eq_true rfl⟩ (fun H locs hP hD hS => ?_)
  refine W.eq (g2 := F0 m 12 ls [.int 1, .ref (bd 0)]) rfl ?_
  refine lv_if_eq (tgt := 27) hx hb dX3_requeue_12 (by decide) (fun c => absurd c (by decide)) (fun _ => ?_)
  refine lv_iload hx hb dX3_requeue_15 (lv_at hl 5 rfl) ?_
  refine fk_callS (As := [.int (nI b)]) (rest := [.ref (bd 0)]) ⟨hx, hb, hml, hown, hts⟩ (by have h9 := (mc_isAddress l D bd cI cT cJ X S (nI b)); rw [fk_isA_nI (by omega)] at h9; exact h9) (va_cwS 1 hts gX3_requeue_X3_isAddress rfl rfl rfl (by decide +kernel) ⟨Nat.le_of_ble_eq_true rfl, Nat.le_of_ble_eq_true rfl⟩) hK hP hD hS hA rfl hl.1 rfl (Nat.le_of_ble_eq_true rfl) dX3_requeue_17 ⟨Nat.le_of_ble_eq_true rfl, Nat.le_of_ble_eq_true rfl⟩ (fun H locs hP hD hS => ?_)
  refine W.eq (g2 := F0 m 20 ls [.int 1, .ref (bd 0)]) rfl ?_
  refine lv_if_eq (tgt := 27) hx hb dX3_requeue_20 (by decide) (fun c => absurd c (by decide)) (fun _ => ?_)
  refine lv_iconst (v := 1) hx hb dX3_requeue_23 (by decide) ?_
  refine lv_goto (tgt := 28) hx hb dX3_requeue_24 (by decide) ?_
  refine fk_callV (As := [.int 1]) (rest := []) ⟨hx, hb, hml, hown, hts⟩ (mc_asks_t l D bd cI cT cJ X S) (cwV 1 hts gX3_requeue_X3_asks rfl rfl rfl (by decide +kernel) ⟨Nat.le_of_ble_eq_true rfl, Nat.le_of_ble_eq_true rfl⟩) (fk_rvM hK hP) hK hP hD hS hA rfl hl.1 rfl (Nat.le_of_ble_eq_true rfl) dX3_requeue_28 ⟨Nat.le_of_ble_eq_true rfl, Nat.le_of_ble_eq_true rfl⟩ (fun H locs hP hD hS => ?_)
  refine W.eq (g2 := F0 m 31 ls [.int 1]) rfl ?_
  refine lv_if_ne (tgt := 36) hx hb dX3_requeue_31 (by decide) (fun _ => ?_) (fun c => absurd c (by decide))
  refine lv_iload_n hx hb dX3_requeue_36 rfl (lv_at hl 2 rfl) ?_
  refine lv_iload hx hb dX3_requeue_37 (lv_at hl 5 rfl) ?_
  refine lv_icmp_eq (tgt := 66) hx hb dX3_requeue_39 (by decide) (fun c => absurd ((nI_eq (by omega) (by omega)).mp c) hab) (fun c_5 => ?_)
  refine lv_iload hx hb dX3_requeue_42 (lv_at hl 4 rfl) ?_
  refine lv_if_lt (tgt := 66) hx hb dX3_requeue_44 (by decide) (fun c_6 => absurd c_6 (nI_pos (by omega))) (fun c_6 => ?_)
  refine lv_iload hx hb dX3_requeue_47 (lv_at hl 4 rfl) ?_
  refine lv_bipush (v := 8) hx hb dX3_requeue_49 (by decide) ?_
  refine lv_icmp_gt (tgt := 66) hx hb dX3_requeue_51 (by decide) (fun c_7 => absurd c_7 (fun h9 => absurd h9 (Int32.not_lt.mpr (nI_le (b := 8) hk (by decide))))) (fun c_7 => ?_)
  refine lv_iload hx hb dX3_requeue_54 (lv_at hl 6 rfl) ?_
  refine lv_if_lt (tgt := 66) hx hb dX3_requeue_56 (by decide) (fun c_8 => absurd c_8 (nI_pos (by omega))) (fun c_8 => ?_)
  refine lv_iload hx hb dX3_requeue_59 (lv_at hl 6 rfl) ?_
  refine lv_bipush (v := 8) hx hb dX3_requeue_61 (by decide) ?_
  refine lv_icmp_le (tgt := 72) hx hb dX3_requeue_63 (by decide) (fun c_9 => ?_) (fun c_9 => absurd (nI_le (b := 8) hj (by decide)) c_9)
  refine lv_aload_n hx hb dX3_requeue_72 rfl (lv_at hl 0 rfl) ?_
  refine fk_getM hx hb hts hiX3 hown hK hP 1 (by decide) (v := .ref (bd 2)) rfl (List.mem_of_getElem? (i := 1) rfl) rfl dX3_requeue_73 ?_
  refine lv_iload_n hx hb dX3_requeue_76 rfl (lv_at hl 1 rfl) ?_
  refine fk_ldN hx hb hK hP 1 1 8 rfl (by decide) rfl rfl (vp_in_nI (show t < 8 from (by omega)) (by decide)) dX3_requeue_77 ?_
  refine W.eq (g2 := F0 m 78 ls [.int (S 1 t)]) (by simp [fk_up, mm_set, nI_clamp (n := t) (by omega)]) ?_
  refine lv_if_eq (tgt := 87) hx hb dX3_requeue_78 (by decide) (fun c_10 => absurd c_10 h) (fun c_10 => ?_)
  refine lv_aload_n hx hb dX3_requeue_81 rfl (lv_at hl 0 rfl) ?_
  refine lv_iconst (v := 3) hx hb dX3_requeue_82 (by decide) ?_
  refine fk_callV (As := [.int 3]) (rest := []) ⟨hx, hb, hml, hown, hts⟩ (mc_fails l D bd cI cT cJ X (fk_up S 12 4 0) 3) (cwV 1 hts gX3_requeue_X3_fails rfl rfl rfl (by decide +kernel) ⟨Nat.le_of_ble_eq_true rfl, Nat.le_of_ble_eq_true rfl⟩) (fk_rvM hK hP) hK hP hD hS hA rfl hl.1 rfl (Nat.le_of_ble_eq_true rfl) dX3_requeue_83 ⟨Nat.le_of_ble_eq_true rfl, Nat.le_of_ble_eq_true rfl⟩ (fun H locs hP hD hS => ?_)
  refine W.eq (g2 := F0 m 86 ls [.int 0]) rfl ?_
  exact fk_iret hx hb hr hlocks hP hK hD hS (congrArg (fun z => fk_mW bd cI z ++ X) (by exact fk_up_up S 12 4 0 3)) (by rfl) dX3_requeue_86
