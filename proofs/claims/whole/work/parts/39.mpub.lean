theorem fk_lt1 {v : Int32} (h : 0 < v) : 1 ≤ v := by
  have a := Int32.lt_iff_toInt_lt.mp h
  refine Int32.le_iff_toInt_le.mpr ?_
  have b : (0 : Int32).toInt = 0 := rfl
  have c : (1 : Int32).toInt = 1 := rfl
  omega

abbrev rmX3_exit : Room := { frames := 6, cells := 0, slots := 0, locals := 137 }
set_option maxHeartbeats 4000000 in
set_option maxRecDepth 100000 in
theorem mc_exit (l : Launch) (D : va_G) (bd : Nat → Nat) (cI cT cJ : ClassId) (X : va_W) (S : fk_S) (t : Nat) (ht : t < 8) (hat : fk_at S) (hls : fk_ls S) (h : ¬ S 1 t = 3) : fk_C l D (fk_ty cI cT cJ) yX3_exit wsX3_exit rmX3_exit [.ref (bd 0), .int (nI t)] (fk_mW bd cI S ++ X) (some (.int (mm_exitR (fk_up S 12 4 0) t))) (fk_mW bd cI (mm_exit (fk_up S 12 4 0) t) ++ X) := by
  refine fk_C_of (cc := cX3_exit) (maxL := 5) (ret := (some .int)) (own := RX3) (by decide) rfl rfl (Nat.le_of_ble_eq_true rfl) ?_
  intro p e s m below meth c A ls hx hb hr hlocks hml hts hown hA hP hK hD hl
  have hS : va_S A s.heap s.heap [] := va_S.rf
  have hl : lv_has ls 5 [(0, .ref (bd 0)), (1, .int (nI t))] := hl
  have hiX3 : ∀ w ∈ u_ws RX3 TX3 17, w ∈ wsX3_exit := by decide +kernel
  refine lv_aload_n hx hb dX3_exit_0 rfl (lv_at hl 0 rfl) ?_
  refine lv_iload_n hx hb dX3_exit_1 rfl (lv_at hl 1 rfl) ?_
  refine fk_callS (As := [.int (nI t)]) (rest := [.ref (bd 0)]) ⟨hx, hb, hml, hown, hts⟩ (by have h9 := (mc_isThread l D bd cI cT cJ X S (nI t)); rw [fk_isT_nI (by omega)] at h9; exact h9) (va_cwS 1 hts gX3_exit_X3_isThread rfl rfl rfl (by decide +kernel) ⟨Nat.le_of_ble_eq_true rfl, Nat.le_of_ble_eq_true rfl⟩) hK hP hD hS hA rfl hl.1 rfl (Nat.le_of_ble_eq_true rfl) dX3_exit_2 ⟨Nat.le_of_ble_eq_true rfl, Nat.le_of_ble_eq_true rfl⟩ (fun H locs hP hD hS => ?_)
  refine W.eq (g2 := F0 m 5 ls [.int 1, .ref (bd 0)]) rfl ?_
  refine fk_callV (As := [.int 1]) (rest := []) ⟨hx, hb, hml, hown, hts⟩ (mc_asks_t l D bd cI cT cJ X S) (cwV 1 hts gX3_exit_X3_asks rfl rfl rfl (by decide +kernel) ⟨Nat.le_of_ble_eq_true rfl, Nat.le_of_ble_eq_true rfl⟩) (fk_rvM hK hP) hK hP hD hS hA rfl hl.1 rfl (Nat.le_of_ble_eq_true rfl) dX3_exit_5 ⟨Nat.le_of_ble_eq_true rfl, Nat.le_of_ble_eq_true rfl⟩ (fun H locs hP hD hS => ?_)
  refine W.eq (g2 := F0 m 8 ls [.int 1]) rfl ?_
  refine lv_if_ne (tgt := 13) hx hb dX3_exit_8 (by decide) (fun _ => ?_) (fun c => absurd c (by decide))
  obtain ⟨T, hT⟩ : ∃ z, z = (fk_up S 12 4 0) := ⟨_, rfl⟩
  have hP : va_P D vwCl (fk_mW bd cI T ++ X) H := by rw [hT]; exact hP
  have hD : va_D A (fk_mW bd cI T ++ X) := by rw [hT]; exact hD
  have hat : fk_at T := by rw [hT]; exact hat
  have hls : fk_ls T := by rw [hT]; exact fk_ls_up (by decide) (by decide) hls
  obtain ⟨k, hk, hs, hv9, hd9⟩ := hls t ht
  refine lv_aload_n hx hb dX3_exit_13 rfl (lv_at hl 0 rfl) ?_
  refine fk_getM hx hb hts hiX3 hown hK hP 1 (by decide) (v := .ref (bd 2)) rfl (List.mem_of_getElem? (i := 1) rfl) rfl dX3_exit_14 ?_
  refine lv_iload_n hx hb dX3_exit_17 rfl (lv_at hl 1 rfl) ?_
  refine fk_ldN hx hb hK hP 1 1 8 rfl (by decide) rfl rfl (vp_in_nI (show t < 8 from (by omega)) (by decide)) dX3_exit_18 ?_
  refine W.eq (g2 := F0 m 19 ls [.int (T 1 t)]) (by rw [nI_clamp (by omega)]) ?_
  refine lv_iconst (v := 3) hx hb dX3_exit_19 (by decide) ?_
  refine lv_icmp_ne (tgt := 29) hx hb dX3_exit_20 (by decide) (fun c_2 => ?_) (fun c => absurd (show S 1 t = 3 by rw [hT] at c; exact c) h)
  refine lv_aload_n hx hb dX3_exit_29 rfl (lv_at hl 0 rfl) ?_
  refine lv_iload_n hx hb dX3_exit_30 rfl (lv_at hl 1 rfl) ?_
  refine lv_iconst (v := 3) hx hb dX3_exit_31 (by decide) ?_
  refine fk_callV (As := [.int (nI t), .int 3]) (rest := []) ⟨hx, hb, hml, hown, hts⟩ (mc_leaves l D bd cI cT cJ X T t 3 ht (fun h9 => hat t ht h9)) (cwV 2 hts gX3_exit_X3_leaves rfl rfl rfl (by decide +kernel) ⟨Nat.le_of_ble_eq_true rfl, Nat.le_of_ble_eq_true rfl⟩) (fk_rvM hK hP) hK hP hD hS hA rfl hl.1 rfl (Nat.le_of_ble_eq_true rfl) dX3_exit_32 ⟨Nat.le_of_ble_eq_true rfl, Nat.le_of_ble_eq_true rfl⟩ (fun H locs hP hD hS => ?_)
  refine W.eq (g2 := F0 m 35 ls []) rfl ?_
  refine lv_iconst (v := 0) hx hb dX3_exit_35 (by decide) ?_
  refine lv_istore_n (lv' := [(2, .int 0), (0, .ref (bd 0)), (1, .int (nI t))]) hx hb dX3_exit_36 rfl hl (by decide) rfl (fun ls hl => ?_)
  refine lv_iconst (v := 0) hx hb dX3_exit_37 (by decide) ?_
  refine lv_istore_n (lv' := [(3, .int 0), (2, .int 0), (0, .ref (bd 0)), (1, .int (nI t))]) hx hb dX3_exit_38 rfl hl (by decide) rfl (fun ls hl => ?_)
  have loop : ∀ (n : Nat) (i j : Nat) (S1 : fk_S), i + n = k → S1 10 t = nI k → (∀ q, q < k → vp_in (S1 11 (16 * t + q)) 16) → fk_ls S1 → S1 1 t = 3 → (mm_exl t n i S1).2 = (mm_exl t k 0 (mm_leave T t 3)).2 → j + (mm_exl t n i S1).1 = (mm_exl t k 0 (mm_leave T t 3)).1 → ∀ (H : Heap) (locs : List Loc) (ls : Array Slot), va_P D vwCl (fk_mW bd cI S1 ++ X) H → va_D A (fk_mW bd cI S1 ++ X) → va_S A s.heap H locs → lv_has ls 5 [(3, .int (nI i)), (2, .int (nI j)), (0, .ref (bd 0)), (1, .int (nI t))] → W p l e rmX3_exit s m ([.ref (bd 0), .int (nI t)] : List Value).toArray below meth c H locs 0 0 (fk_Q below D (fk_ty cI cT cJ) [.ref (bd 0), .int (nI t)] s A (fk_mW bd cI (mm_exit (fk_up S 12 4 0) t) ++ X) (some (.int (mm_exitR (fk_up S 12 4 0) t)))) (F0 m 39 ls []) := by
    intro n
    induction n with
    | zero =>
      intro i j S1 hi hs1 hv1 hls1 h3 h2 h1 H locs ls hP hD hS hl
      refine lv_iload_n hx hb dX3_exit_39 rfl (lv_at hl 0 rfl) ?_
      refine lv_aload_n hx hb dX3_exit_40 rfl (lv_at hl 2 rfl) ?_
      refine fk_getM hx hb hts hiX3 hown hK hP 10 (by decide) (v := .ref (bd 11)) rfl (List.mem_of_getElem? (i := 2) rfl) rfl dX3_exit_41 ?_
      refine lv_iload_n hx hb dX3_exit_44 rfl (lv_at hl 3 rfl) ?_
      refine fk_ldN hx hb hK hP 10 10 8 rfl (by decide) rfl rfl (vp_in_nI (show t < 8 from (by omega)) (by decide)) dX3_exit_45 ?_
      refine W.eq (g2 := F0 m 46 ls [.int (S1 10 t), .int (nI i)]) (by rw [nI_clamp (by omega)]) ?_
      refine W.eq (g2 := F0 m 46 ls [.int (nI k), .int (nI i)]) (by rw [hs1]) ?_
      refine lv_icmp_ge (tgt := 93) hx hb dX3_exit_46 (by decide) (fun c_3 => ?_) (fun c_3 => absurd (nI_le (a := k) (b := i) (by omega) (by omega)) c_3)
      refine lv_aload_n hx hb dX3_exit_93 rfl (lv_at hl 2 rfl) ?_
      refine fk_getM hx hb hts hiX3 hown hK hP 10 (by decide) (v := .ref (bd 11)) rfl (List.mem_of_getElem? (i := 2) rfl) rfl dX3_exit_94 ?_
      refine lv_iload_n hx hb dX3_exit_97 rfl (lv_at hl 3 rfl) ?_
      refine lv_iconst (v := 0) hx hb dX3_exit_98 (by decide) ?_
      refine fk_stN hx hb hK hP hD hS 10 10 8 rfl (by decide) rfl rfl (vp_in_nI (show t < 8 from (by omega)) (by decide)) dX3_exit_99 (fun H locs hP hD hS => ?_)
      rw [show ((nI t)).toNatClampNeg = t from nI_clamp (n := t) (by omega)] at hP hD
      refine lv_iload_n hx hb dX3_exit_100 rfl (lv_at hl 1 rfl) ?_
      exact fk_iret hx hb hr hlocks hP hK hD hS (congrArg (fun z => fk_mW bd cI z ++ X) (by rw [← hT]; simp only [mm_exit, hs, nI_clamp (n := k) (show k < 2 ^ 31 by omega), ← h2]; rfl)) (by rw [← hT]; simp only [mm_exitR, hs, nI_clamp (n := k) (show k < 2 ^ 31 by omega), ← h1]; rfl) dX3_exit_101
    | succ n ih =>
      intro i j S1 hi hs1 hv1 hls1 h3 h2 h1 H locs ls hP hD hS hl
      refine lv_iload_n hx hb dX3_exit_39 rfl (lv_at hl 0 rfl) ?_
      refine lv_aload_n hx hb dX3_exit_40 rfl (lv_at hl 2 rfl) ?_
      refine fk_getM hx hb hts hiX3 hown hK hP 10 (by decide) (v := .ref (bd 11)) rfl (List.mem_of_getElem? (i := 2) rfl) rfl dX3_exit_41 ?_
      refine lv_iload_n hx hb dX3_exit_44 rfl (lv_at hl 3 rfl) ?_
      refine fk_ldN hx hb hK hP 10 10 8 rfl (by decide) rfl rfl (vp_in_nI (show t < 8 from (by omega)) (by decide)) dX3_exit_45 ?_
      refine W.eq (g2 := F0 m 46 ls [.int (S1 10 t), .int (nI i)]) (by rw [nI_clamp (by omega)]) ?_
      refine W.eq (g2 := F0 m 46 ls [.int (nI k), .int (nI i)]) (by rw [hs1]) ?_
      refine lv_icmp_ge (tgt := 93) hx hb dX3_exit_46 (by decide) (fun c_4 => absurd c_4 (nI_ge (a := i) (b := k) (by omega) (by omega))) (fun c_4 => ?_)
      refine lv_aload_n hx hb dX3_exit_49 rfl (lv_at hl 2 rfl) ?_
      refine fk_getM hx hb hts hiX3 hown hK hP 11 (by decide) (v := .ref (bd 12)) rfl (List.mem_of_getElem? (i := 3) rfl) rfl dX3_exit_50 ?_
      refine lv_bipush (v := 16) hx hb dX3_exit_53 (by decide) ?_
      refine lv_iload_n hx hb dX3_exit_55 rfl (lv_at hl 3 rfl) ?_
      refine lv_imul hx hb dX3_exit_56 ?_
      refine W.eq (g2 := F0 m 57 ls [.int (nI (16 * t)), .ref (bd 12)]) (by rw [show (16 : Int32) = nI 16 from rfl, pk_mul]) ?_
      refine lv_iload_n hx hb dX3_exit_57 rfl (lv_at hl 0 rfl) ?_
      refine lv_iadd hx hb dX3_exit_58 ?_
      refine W.eq (g2 := F0 m 59 ls [.int (nI (16 * t + i)), .ref (bd 12)]) (by rw [nI_add]) ?_
      refine fk_ldN hx hb hK hP 11 11 128 rfl (by decide) rfl rfl (vp_in_nI (show 16 * t + i < 128 from (by omega)) (by decide)) dX3_exit_59 ?_
      refine W.eq (g2 := F0 m 60 ls [.int (S1 11 (16 * t + i))]) (by rw [nI_clamp (by omega)]) ?_
      refine lv_istore (lv' := [(4, .int (S1 11 (16 * t + i))), (3, .int (nI i)), (2, .int (nI j)), (0, .ref (bd 0)), (1, .int (nI t))]) hx hb dX3_exit_60 hl (by decide) rfl (fun ls hl => ?_)
      refine lv_aload_n hx hb dX3_exit_62 rfl (lv_at hl 3 rfl) ?_
      refine fk_getM hx hb hts hiX3 hown hK hP 0 (by decide) (v := .ref (bd 1)) rfl (List.mem_of_getElem? (i := 4) rfl) rfl dX3_exit_63 ?_
      refine lv_iload hx hb dX3_exit_66 (lv_at hl 0 rfl) ?_
      refine fk_ldN hx hb hK hP 0 0 16 rfl (by decide) rfl rfl (hv1 i (by omega)) dX3_exit_68 ?_
      refine fk_callS (As := [.int (S1 0 ((S1 11 (16 * t + i)).toNatClampNeg))]) (rest := []) ⟨hx, hb, hml, hown, hts⟩ (mc_ownerOf l D bd cI cT cJ X S1 (S1 0 ((S1 11 (16 * t + i)).toNatClampNeg))) (va_cwS 1 hts gX3_exit_X3_ownerOf rfl rfl rfl (by decide +kernel) ⟨Nat.le_of_ble_eq_true rfl, Nat.le_of_ble_eq_true rfl⟩) hK hP hD hS hA rfl hl.1 rfl (Nat.le_of_ble_eq_true rfl) dX3_exit_69 ⟨Nat.le_of_ble_eq_true rfl, Nat.le_of_ble_eq_true rfl⟩ (fun H locs hP hD hS => ?_)
      refine W.eq (g2 := F0 m 72 ls [.int (mm_own (S1 0 ((S1 11 (16 * t + i)).toNatClampNeg)))]) rfl ?_
      refine lv_iload_n hx hb dX3_exit_72 rfl (lv_at hl 4 rfl) ?_
      refine lv_icmp_ne (tgt := 87) hx hb dX3_exit_73 (by decide) (fun c_5 => ?_) (fun c_5 => ?_)
      · refine lv_iinc (v := (nI (i + 1))) (lv' := [(3, .int (nI (i + 1))), (4, .int (S1 11 (16 * t + i))), (2, .int (nI j)), (0, .ref (bd 0)), (1, .int (nI t))]) hx hb dX3_exit_87 hl (k := 1) rfl (nI_1 i) (by decide) rfl (fun ls hl => ?_)
        refine lv_goto (tgt := 39) hx hb dX3_exit_90 (by decide) ?_
        exact ih (i + 1) j S1 (by omega) hs1 hv1 hls1 h3 (by rw [← h2]; simp only [mm_exl]; rw [if_neg c_5]) (by rw [← h1]; simp only [mm_exl]; rw [if_neg c_5]) _ _ _ hP hD hS (lv_sub hl [0, 2, 3, 4] rfl)
      · refine lv_aload_n hx hb dX3_exit_76 rfl (lv_at hl 3 rfl) ?_
        refine lv_iload hx hb dX3_exit_77 (lv_at hl 0 rfl) ?_
        refine lv_iconst (v := 1) hx hb dX3_exit_79 (by decide) ?_
        refine fk_callV (As := [.int (S1 11 (16 * t + i)), .int 1]) (rest := []) ⟨hx, hb, hml, hown, hts⟩ (mc_passes l D bd cI cT cJ X S1 (S1 11 (16 * t + i)) true hls1 (hv1 i (by omega))) (cwV 2 hts gX3_exit_X3_passes rfl rfl rfl (by decide +kernel) ⟨Nat.le_of_ble_eq_true rfl, Nat.le_of_ble_eq_true rfl⟩) (fk_rvM hK hP) hK hP hD hS hA rfl hl.1 rfl (Nat.le_of_ble_eq_true rfl) dX3_exit_80 ⟨Nat.le_of_ble_eq_true rfl, Nat.le_of_ble_eq_true rfl⟩ (fun H locs hP hD hS => ?_)
        refine W.eq (g2 := F0 m 83 ls [.int (fk_oI (mm_lk S1 (S1 11 (16 * t + i))))]) rfl ?_
        refine lv_pop hx hb dX3_exit_83 rfl ?_
        refine lv_iinc (v := (nI (j + 1))) (lv' := [(2, .int (nI (j + 1))), (4, .int (S1 11 (16 * t + i))), (3, .int (nI i)), (0, .ref (bd 0)), (1, .int (nI t))]) hx hb dX3_exit_84 hl (k := 2) rfl (nI_1 j) (by decide) rfl (fun ls hl => ?_)
        refine lv_iinc (v := (nI (i + 1))) (lv' := [(3, .int (nI (i + 1))), (2, .int (nI (j + 1))), (4, .int (S1 11 (16 * t + i))), (0, .ref (bd 0)), (1, .int (nI t))]) hx hb dX3_exit_87 hl (k := 2) rfl (nI_1 i) (by decide) rfl (fun ls hl => ?_)
        refine lv_goto (tgt := 39) hx hb dX3_exit_90 (by decide) ?_
        exact ih (i + 1) (j + 1) (mm_pass S1 (S1 11 (16 * t + i)) true) (by omega) (by rw [(mm_pass_o (a := S1 11 (16 * t + i)) (b := true) ht h3 hls1).1]; exact hs1) (fun q hq => by rw [(mm_pass_o (a := S1 11 (16 * t + i)) (b := true) ht h3 hls1).2.1 q (by omega)]; exact hv1 q hq) (mm_pass_ls (hv1 i (by omega)) hls1) (mm_pass_o (a := S1 11 (16 * t + i)) (b := true) ht h3 hls1).2.2 (by rw [← h2]; simp only [mm_exl]; rw [if_pos c_5]) (by rw [← h1]; simp only [mm_exl]; rw [if_pos c_5]; omega) _ _ _ hP hD hS (lv_sub hl [0, 1, 3, 4] rfl)
  exact loop k 0 0 (mm_leave T t 3) (by omega) (by rw [mm_leave_10]; exact hs) (fun q hq => by rw [mm_leave_11]; exact hv9 q hq) (fk_ls_of (mm_leave_10 _ _ _) (mm_leave_11 _ _ _) hls) (mm_leave_1s _ _ _) rfl (by omega) _ _ _ hP hD hS (lv_sub hl [0, 1, 2, 3] rfl)

set_option maxHeartbeats 4000000 in
set_option maxRecDepth 100000 in
theorem mn_exit_1 (l : Launch) (D : va_G) (bd : Nat → Nat) (cI cT cJ : ClassId) (X : va_W) (S : fk_S) (th : Int32) (h : fk_isT th = false) : fk_C l D (fk_ty cI cT cJ) yX3_exit wsX3_exit rmX3_exit [.ref (bd 0), .int th] (fk_mW bd cI S ++ X) (some (.int 0)) (fk_mW bd cI (fk_up S 12 4 1) ++ X) := by
  refine fk_C_of (cc := cX3_exit) (maxL := 5) (ret := (some .int)) (own := RX3) (by decide) rfl rfl (Nat.le_of_ble_eq_true rfl) ?_
  intro p e s m below meth c A ls hx hb hr hlocks hml hts hown hA hP hK hD hl
  have hS : va_S A s.heap s.heap [] := va_S.rf
  have hl : lv_has ls 5 [(0, .ref (bd 0)), (1, .int th)] := hl
  refine lv_aload_n hx hb dX3_exit_0 rfl (lv_at hl 0 rfl) ?_
  refine lv_iload_n hx hb dX3_exit_1 rfl (lv_at hl 1 rfl) ?_
  refine fk_callS (As := [.int th]) (rest := [.ref (bd 0)]) ⟨hx, hb, hml, hown, hts⟩ (by have h9 := (mc_isThread l D bd cI cT cJ X S th); rw [h] at h9; exact h9) (va_cwS 1 hts gX3_exit_X3_isThread rfl rfl rfl (by decide +kernel) ⟨Nat.le_of_ble_eq_true rfl, Nat.le_of_ble_eq_true rfl⟩) hK hP hD hS hA rfl hl.1 rfl (Nat.le_of_ble_eq_true rfl) dX3_exit_2 ⟨Nat.le_of_ble_eq_true rfl, Nat.le_of_ble_eq_true rfl⟩ (fun H locs hP hD hS => ?_)
  refine W.eq (g2 := F0 m 5 ls [.int 0, .ref (bd 0)]) rfl ?_
  refine fk_callV (As := [.int 0]) (rest := []) ⟨hx, hb, hml, hown, hts⟩ (mc_asks_f l D bd cI cT cJ X S) (cwV 1 hts gX3_exit_X3_asks rfl rfl rfl (by decide +kernel) ⟨Nat.le_of_ble_eq_true rfl, Nat.le_of_ble_eq_true rfl⟩) (fk_rvM hK hP) hK hP hD hS hA rfl hl.1 rfl (Nat.le_of_ble_eq_true rfl) dX3_exit_5 ⟨Nat.le_of_ble_eq_true rfl, Nat.le_of_ble_eq_true rfl⟩ (fun H locs hP hD hS => ?_)
  refine W.eq (g2 := F0 m 8 ls [.int 0]) rfl ?_
  refine lv_if_ne (tgt := 13) hx hb dX3_exit_8 (by decide) (fun c => absurd c (by decide)) (fun _ => ?_)
  refine lv_iconst (v := 0) hx hb dX3_exit_11 (by decide) ?_
  exact fk_iret hx hb hr hlocks hP hK hD hS (congrArg (fun z => fk_mW bd cI z ++ X) (by rfl)) (by rfl) dX3_exit_12

set_option maxHeartbeats 4000000 in
set_option maxRecDepth 100000 in
theorem mn_exit_2 (l : Launch) (D : va_G) (bd : Nat → Nat) (cI cT cJ : ClassId) (X : va_W) (S : fk_S) (t : Nat) (ht : t < 8) (h : S 1 t = 3) : fk_C l D (fk_ty cI cT cJ) yX3_exit wsX3_exit rmX3_exit [.ref (bd 0), .int (nI t)] (fk_mW bd cI S ++ X) (some (.int 0)) (fk_mW bd cI (fk_up S 12 4 2) ++ X) := by
  refine fk_C_of (cc := cX3_exit) (maxL := 5) (ret := (some .int)) (own := RX3) (by decide) rfl rfl (Nat.le_of_ble_eq_true rfl) ?_
  intro p e s m below meth c A ls hx hb hr hlocks hml hts hown hA hP hK hD hl
  have hS : va_S A s.heap s.heap [] := va_S.rf
  have hl : lv_has ls 5 [(0, .ref (bd 0)), (1, .int (nI t))] := hl
  have hiX3 : ∀ w ∈ u_ws RX3 TX3 17, w ∈ wsX3_exit := by decide +kernel
  refine lv_aload_n hx hb dX3_exit_0 rfl (lv_at hl 0 rfl) ?_
  refine lv_iload_n hx hb dX3_exit_1 rfl (lv_at hl 1 rfl) ?_
  refine fk_callS (As := [.int (nI t)]) (rest := [.ref (bd 0)]) ⟨hx, hb, hml, hown, hts⟩ (by have h9 := (mc_isThread l D bd cI cT cJ X S (nI t)); rw [fk_isT_nI (by omega)] at h9; exact h9) (va_cwS 1 hts gX3_exit_X3_isThread rfl rfl rfl (by decide +kernel) ⟨Nat.le_of_ble_eq_true rfl, Nat.le_of_ble_eq_true rfl⟩) hK hP hD hS hA rfl hl.1 rfl (Nat.le_of_ble_eq_true rfl) dX3_exit_2 ⟨Nat.le_of_ble_eq_true rfl, Nat.le_of_ble_eq_true rfl⟩ (fun H locs hP hD hS => ?_)
  refine W.eq (g2 := F0 m 5 ls [.int 1, .ref (bd 0)]) rfl ?_
  refine fk_callV (As := [.int 1]) (rest := []) ⟨hx, hb, hml, hown, hts⟩ (mc_asks_t l D bd cI cT cJ X S) (cwV 1 hts gX3_exit_X3_asks rfl rfl rfl (by decide +kernel) ⟨Nat.le_of_ble_eq_true rfl, Nat.le_of_ble_eq_true rfl⟩) (fk_rvM hK hP) hK hP hD hS hA rfl hl.1 rfl (Nat.le_of_ble_eq_true rfl) dX3_exit_5 ⟨Nat.le_of_ble_eq_true rfl, Nat.le_of_ble_eq_true rfl⟩ (fun H locs hP hD hS => ?_)
  refine W.eq (g2 := F0 m 8 ls [.int 1]) rfl ?_
  refine lv_if_ne (tgt := 13) hx hb dX3_exit_8 (by decide) (fun _ => ?_) (fun c => absurd c (by decide))
  refine lv_aload_n hx hb dX3_exit_13 rfl (lv_at hl 0 rfl) ?_
  refine fk_getM hx hb hts hiX3 hown hK hP 1 (by decide) (v := .ref (bd 2)) rfl (List.mem_of_getElem? (i := 1) rfl) rfl dX3_exit_14 ?_
  refine lv_iload_n hx hb dX3_exit_17 rfl (lv_at hl 1 rfl) ?_
  refine fk_ldN hx hb hK hP 1 1 8 rfl (by decide) rfl rfl (vp_in_nI (show t < 8 from (by omega)) (by decide)) dX3_exit_18 ?_
  refine W.eq (g2 := F0 m 19 ls [.int (S 1 t)]) (by simp [fk_up, mm_set, nI_clamp (n := t) (by omega)]) ?_
  refine lv_iconst (v := 3) hx hb dX3_exit_19 (by decide) ?_
  refine lv_icmp_ne (tgt := 29) hx hb dX3_exit_20 (by decide) (fun c => absurd h c) (fun c_2 => ?_)
  refine lv_aload_n hx hb dX3_exit_23 rfl (lv_at hl 0 rfl) ?_
  refine lv_iconst (v := 2) hx hb dX3_exit_24 (by decide) ?_
  refine fk_callV (As := [.int 2]) (rest := []) ⟨hx, hb, hml, hown, hts⟩ (mc_fails l D bd cI cT cJ X (fk_up S 12 4 0) 2) (cwV 1 hts gX3_exit_X3_fails rfl rfl rfl (by decide +kernel) ⟨Nat.le_of_ble_eq_true rfl, Nat.le_of_ble_eq_true rfl⟩) (fk_rvM hK hP) hK hP hD hS hA rfl hl.1 rfl (Nat.le_of_ble_eq_true rfl) dX3_exit_25 ⟨Nat.le_of_ble_eq_true rfl, Nat.le_of_ble_eq_true rfl⟩ (fun H locs hP hD hS => ?_)
  refine W.eq (g2 := F0 m 28 ls [.int 0]) rfl ?_
  exact fk_iret hx hb hr hlocks hP hK hD hS (congrArg (fun z => fk_mW bd cI z ++ X) (by exact fk_up_up S 12 4 0 2)) (by rfl) dX3_exit_28

abbrev rmX3_tick : Room := { frames := 5, cells := 0, slots := 0, locals := 113 }
set_option maxHeartbeats 4000000 in
set_option maxRecDepth 100000 in
theorem mc_tick (l : Launch) (D : va_G) (bd : Nat → Nat) (cI cT cJ : ClassId) (X : va_W) (S : fk_S) (k : Nat) (hk1 : 1 ≤ k) (hk2 : k ≤ 1000) (hat : fk_at S) (hTk : mm_tickT k (fk_up S 12 4 0)) : fk_C l D (fk_ty cI cT cJ) yX3_tick wsX3_tick rmX3_tick [.ref (bd 0), .int (nI k)] (fk_mW bd cI S ++ X) (some (.int (nI (mm_tickL k (fk_up S 12 4 0)).1))) (fk_mW bd cI (mm_tickL k (fk_up S 12 4 0)).2 ++ X) := by
  refine fk_C_of (cc := cX3_tick) (maxL := 5) (ret := (some .int)) (own := RX3) (by decide) rfl rfl (Nat.le_of_ble_eq_true rfl) ?_
  intro p e s m below meth c A ls hx hb hr hlocks hml hts hown hA hP hK hD hl
  have hS : va_S A s.heap s.heap [] := va_S.rf
  have hl : lv_has ls 5 [(0, .ref (bd 0)), (1, .int (nI k))] := hl
  have hiX3 : ∀ w ∈ u_ws RX3 TX3 17, w ∈ wsX3_tick := by decide +kernel
  refine lv_aload_n hx hb dX3_tick_0 rfl (lv_at hl 0 rfl) ?_
  refine lv_iload_n hx hb dX3_tick_1 rfl (lv_at hl 1 rfl) ?_
  refine lv_if_le (tgt := 16) hx hb dX3_tick_2 (by decide) (fun c_1 => absurd c_1 (nI_nle (n := k) (by omega) (by omega))) (fun c_1 => ?_)
  refine lv_iload_n hx hb dX3_tick_5 rfl (lv_at hl 1 rfl) ?_
  refine lv_sipush (v := 1000) hx hb dX3_tick_6 (by decide) ?_
  refine lv_icmp_gt (tgt := 16) hx hb dX3_tick_9 (by decide) (fun c_2 => absurd c_2 (fun h9 => absurd h9 (Int32.not_lt.mpr (nI_le (b := 1000) hk2 (by decide))))) (fun c_2 => ?_)
  refine lv_iconst (v := 1) hx hb dX3_tick_12 (by decide) ?_
  refine lv_goto (tgt := 17) hx hb dX3_tick_13 (by decide) ?_
  refine fk_callV (As := [.int 1]) (rest := []) ⟨hx, hb, hml, hown, hts⟩ (mc_asks_t l D bd cI cT cJ X S) (cwV 1 hts gX3_tick_X3_asks rfl rfl rfl (by decide +kernel) ⟨Nat.le_of_ble_eq_true rfl, Nat.le_of_ble_eq_true rfl⟩) (fk_rvM hK hP) hK hP hD hS hA rfl hl.1 rfl (Nat.le_of_ble_eq_true rfl) dX3_tick_17 ⟨Nat.le_of_ble_eq_true rfl, Nat.le_of_ble_eq_true rfl⟩ (fun H locs hP hD hS => ?_)
  refine W.eq (g2 := F0 m 20 ls [.int 1]) rfl ?_
  refine lv_if_ne (tgt := 25) hx hb dX3_tick_20 (by decide) (fun _ => ?_) (fun c => absurd c (by decide))
  obtain ⟨T, hT⟩ : ∃ z, z = (fk_up S 12 4 0) := ⟨_, rfl⟩
  have hP : va_P D vwCl (fk_mW bd cI T ++ X) H := by rw [hT]; exact hP
  have hD : va_D A (fk_mW bd cI T ++ X) := by rw [hT]; exact hD
  have hat : fk_at T := by rw [hT]; exact hat
  have hTk : mm_tickT k T := by rw [hT]; exact hTk
  refine lv_iconst (v := 0) hx hb dX3_tick_25 (by decide) ?_
  refine lv_istore_n (lv' := [(2, .int 0), (0, .ref (bd 0)), (1, .int (nI k))]) hx hb dX3_tick_26 rfl hl (by decide) rfl (fun ls hl => ?_)
  refine lv_iconst (v := 0) hx hb dX3_tick_27 (by decide) ?_
  refine lv_istore_n (lv' := [(3, .int 0), (2, .int 0), (0, .ref (bd 0)), (1, .int (nI k))]) hx hb dX3_tick_28 rfl hl (by decide) rfl (fun ls hl => ?_)
  have loop : ∀ (n : Nat) (i j : Nat) (S1 : fk_S), i + n = k → fk_at S1 → mm_tickT n S1 → (mm_tickL n S1).2 = (mm_tickL k T).2 → j + (mm_tickL n S1).1 = (mm_tickL k T).1 → ∀ (H : Heap) (locs : List Loc) (ls : Array Slot), va_P D vwCl (fk_mW bd cI S1 ++ X) H → va_D A (fk_mW bd cI S1 ++ X) → va_S A s.heap H locs → lv_has ls 5 [(3, .int (nI i)), (2, .int (nI j)), (0, .ref (bd 0)), (1, .int (nI k))] → W p l e rmX3_tick s m ([.ref (bd 0), .int (nI k)] : List Value).toArray below meth c H locs 0 0 (fk_Q below D (fk_ty cI cT cJ) [.ref (bd 0), .int (nI k)] s A (fk_mW bd cI (mm_tickL k (fk_up S 12 4 0)).2 ++ X) (some (.int (nI (mm_tickL k (fk_up S 12 4 0)).1)))) (F0 m 29 ls []) := by
    intro n
    induction n with
    | zero =>
      intro i j S1 hi hat1 hB h2 h1 H locs ls hP hD hS hl
      refine lv_iload_n hx hb dX3_tick_29 rfl (lv_at hl 0 rfl) ?_
      refine lv_iload_n hx hb dX3_tick_30 rfl (lv_at hl 3 rfl) ?_
      refine lv_icmp_ge (tgt := 81) hx hb dX3_tick_31 (by decide) (fun c_4 => ?_) (fun c_4 => absurd (nI_le (a := k) (b := i) (by omega) (by omega)) c_4)
      refine lv_iload_n hx hb dX3_tick_81 rfl (lv_at hl 1 rfl) ?_
      exact fk_iret hx hb hr hlocks hP hK hD hS (congrArg (fun z => fk_mW bd cI z ++ X) (by rw [← hT, ← h2]; rfl)) (by rw [← hT, ← h1]; rfl) dX3_tick_82
    | succ n ih =>
      intro i j S1 hi hat1 hB h2 h1 H locs ls hP hD hS hl
      refine lv_iload_n hx hb dX3_tick_29 rfl (lv_at hl 0 rfl) ?_
      refine lv_iload_n hx hb dX3_tick_30 rfl (lv_at hl 3 rfl) ?_
      refine lv_icmp_ge (tgt := 81) hx hb dX3_tick_31 (by decide) (fun c_5 => absurd c_5 (nI_ge (a := i) (b := k) (by omega) (by omega))) (fun c_5 => ?_)
      refine lv_aload_n hx hb dX3_tick_34 rfl (lv_at hl 2 rfl) ?_
      refine lv_dup hx hb dX3_tick_35 rfl ?_
      refine fk_getM hx hb hts hiX3 hown hK hP 12 (by decide) (v := .int (S1 12 0)) rfl (List.mem_of_getElem? (i := 1) rfl) rfl dX3_tick_36 ?_
      refine lv_iconst (v := 1) hx hb dX3_tick_39 (by decide) ?_
      refine lv_iadd hx hb dX3_tick_40 ?_
      refine fk_putM (v := ((S1 12 0) + 1)) hx hb hts hiX3 hown hK hP hD hS 0 (by decide) (by simp [fk_fM, fk_up]) (List.mem_of_getElem? (i := 1) rfl) rfl rfl (by decide +kernel) dX3_tick_41 (fun H locs hP hD hS => ?_)
      refine lv_aload_n hx hb dX3_tick_44 rfl (lv_at hl 2 rfl) ?_
      refine fk_callV (As := []) (rest := []) ⟨hx, hb, hml, hown, hts⟩ (mc_due l D bd cI cT cJ X (fk_up S1 12 0 ((S1 12 0) + 1))) (cwV 0 hts gX3_tick_X3_due rfl rfl rfl (by decide +kernel) ⟨Nat.le_of_ble_eq_true rfl, Nat.le_of_ble_eq_true rfl⟩) (fk_rvM hK hP) hK hP hD hS hA rfl hl.1 rfl (Nat.le_of_ble_eq_true rfl) dX3_tick_45 ⟨Nat.le_of_ble_eq_true rfl, Nat.le_of_ble_eq_true rfl⟩ (fun H locs hP hD hS => ?_)
      refine W.eq (g2 := F0 m 48 ls [.int (fk_oI (mm_due (fk_up S1 12 0 ((S1 12 0) + 1))))]) rfl ?_
      refine lv_istore (lv' := [(4, .int (fk_oI (mm_due (fk_up S1 12 0 ((S1 12 0) + 1))))), (3, .int (nI i)), (2, .int (nI j)), (0, .ref (bd 0)), (1, .int (nI k))]) hx hb dX3_tick_48 hl (by decide) rfl (fun ls hl => ?_)
      have inner : ∀ (n2 : Nat) (j2 : Nat) (S2 : fk_S), mm_dueT n2 S2 → fk_at S2 → (mm_dueL n2 S2).2 = (mm_dueL 8 (mm_tk S1)).2 → j2 + (mm_dueL n2 S2).1 = j + (mm_dueL 8 (mm_tk S1)).1 → ∀ (H : Heap) (locs : List Loc) (ls : Array Slot), va_P D vwCl (fk_mW bd cI S2 ++ X) H → va_D A (fk_mW bd cI S2 ++ X) → va_S A s.heap H locs → lv_has ls 5 [(4, .int (fk_oI (mm_due S2))), (3, .int (nI i)), (2, .int (nI j2)), (0, .ref (bd 0)), (1, .int (nI k))] → W p l e rmX3_tick s m ([.ref (bd 0), .int (nI k)] : List Value).toArray below meth c H locs 0 0 (fk_Q below D (fk_ty cI cT cJ) [.ref (bd 0), .int (nI k)] s A (fk_mW bd cI (mm_tickL k (fk_up S 12 4 0)).2 ++ X) (some (.int (nI (mm_tickL k (fk_up S 12 4 0)).1)))) (F0 m 50 ls []) := by
        intro n2
        induction n2 with
        | zero =>
          intro j2 S2 hc hat2 h22 h11 H locs ls hP hD hS hl
          rcases o_9 : mm_due S2 with _ | u
          · rw [o_9] at hl
            have hl : lv_has ls 5 [(4, .int (-1)), (3, .int (nI i)), (2, .int (nI j2)), (0, .ref (bd 0)), (1, .int (nI k))] := hl
            have h4 : S2 = (mm_dueL 8 (mm_tk S1)).2 := h22
            have h5 : j2 = j + (mm_dueL 8 (mm_tk S1)).1 := h11
            refine lv_iload hx hb dX3_tick_50 (lv_at hl 0 rfl) ?_
            refine lv_iconst (v := (-1)) hx hb dX3_tick_52 (by decide) ?_
            refine lv_icmp_eq (tgt := 75) hx hb dX3_tick_53 (by decide) (fun _ => ?_) (fun c => absurd c (by decide))
            refine lv_iinc (v := (nI (i + 1))) (lv' := [(3, .int (nI (i + 1))), (4, .int (-1)), (2, .int (nI j2)), (0, .ref (bd 0)), (1, .int (nI k))]) hx hb dX3_tick_75 hl (k := 1) rfl (nI_1 i) (by decide) rfl (fun ls hl => ?_)
            refine lv_goto (tgt := 29) hx hb dX3_tick_78 (by decide) ?_
            exact ih (i + 1) j2 S2 (by omega) (by rw [h4]; exact mm_dueL_at _ _ (fun u hu h9 => hat1 u hu h9)) (by rw [h4]; exact hB.2) (by rw [h4, ← h2]; rfl) (by rw [h4, ← h1]; simp only [mm_tickL]; omega) _ _ _ hP hD hS (lv_sub hl [0, 2, 3, 4] rfl)
          · exact absurd (hc.symm.trans o_9) (by simp)
        | succ n2 ih2 =>
          intro j2 S2 hc hat2 h22 h11 H locs ls hP hD hS hl
          rcases o_9 : mm_due S2 with _ | u
          · rw [o_9] at hl
            have hl : lv_has ls 5 [(4, .int (-1)), (3, .int (nI i)), (2, .int (nI j2)), (0, .ref (bd 0)), (1, .int (nI k))] := hl
            have h4 : S2 = (mm_dueL 8 (mm_tk S1)).2 := by rw [← h22]; simp only [mm_dueL, o_9]
            have h5 : j2 = j + (mm_dueL 8 (mm_tk S1)).1 := by rw [← h11]; simp only [mm_dueL, o_9]; omega
            refine lv_iload hx hb dX3_tick_50 (lv_at hl 0 rfl) ?_
            refine lv_iconst (v := (-1)) hx hb dX3_tick_52 (by decide) ?_
            refine lv_icmp_eq (tgt := 75) hx hb dX3_tick_53 (by decide) (fun _ => ?_) (fun c => absurd c (by decide))
            refine lv_iinc (v := (nI (i + 1))) (lv' := [(3, .int (nI (i + 1))), (4, .int (-1)), (2, .int (nI j2)), (0, .ref (bd 0)), (1, .int (nI k))]) hx hb dX3_tick_75 hl (k := 1) rfl (nI_1 i) (by decide) rfl (fun ls hl => ?_)
            refine lv_goto (tgt := 29) hx hb dX3_tick_78 (by decide) ?_
            exact ih (i + 1) j2 S2 (by omega) (by rw [h4]; exact mm_dueL_at _ _ (fun u hu h9 => hat1 u hu h9)) (by rw [h4]; exact hB.2) (by rw [h4, ← h2]; rfl) (by rw [h4, ← h1]; simp only [mm_tickL]; omega) _ _ _ hP hD hS (lv_sub hl [0, 2, 3, 4] rfl)
          · rw [o_9] at hl
            have hl : lv_has ls 5 [(4, .int (nI u)), (3, .int (nI i)), (2, .int (nI j2)), (0, .ref (bd 0)), (1, .int (nI k))] := hl
            have hu : u < 8 := mm_due_lt o_9
            have hc2 : mm_dueT n2 (mm_end S2 u 1) := by simp only [mm_dueT, o_9] at hc; exact hc
            refine lv_iload hx hb dX3_tick_50 (lv_at hl 0 rfl) ?_
            refine lv_iconst (v := (-1)) hx hb dX3_tick_52 (by decide) ?_
            refine lv_icmp_eq (tgt := 75) hx hb dX3_tick_53 (by decide) (fun c => absurd c (fk_nI_m1 (by omega))) (fun _ => ?_)
            refine lv_aload_n hx hb dX3_tick_56 rfl (lv_at hl 3 rfl) ?_
            refine lv_iload hx hb dX3_tick_57 (lv_at hl 0 rfl) ?_
            refine lv_iconst (v := 1) hx hb dX3_tick_59 (by decide) ?_
            refine fk_callV (As := [.int (nI u), .int 1]) (rest := []) ⟨hx, hb, hml, hown, hts⟩ (mc_ends l D bd cI cT cJ X S2 u 1 hu (fun h9 => hat2 u hu h9)) (cwV 2 hts gX3_tick_X3_ends rfl rfl rfl (by decide +kernel) ⟨Nat.le_of_ble_eq_true rfl, Nat.le_of_ble_eq_true rfl⟩) (fk_rvM hK hP) hK hP hD hS hA rfl hl.1 rfl (Nat.le_of_ble_eq_true rfl) dX3_tick_60 ⟨Nat.le_of_ble_eq_true rfl, Nat.le_of_ble_eq_true rfl⟩ (fun H locs hP hD hS => ?_)
            refine W.eq (g2 := F0 m 63 ls []) rfl ?_
            refine lv_iinc (v := (nI (j2 + 1))) (lv' := [(2, .int (nI (j2 + 1))), (4, .int (nI u)), (3, .int (nI i)), (0, .ref (bd 0)), (1, .int (nI k))]) hx hb dX3_tick_63 hl (k := 2) rfl (nI_1 j2) (by decide) rfl (fun ls hl => ?_)
            refine lv_aload_n hx hb dX3_tick_66 rfl (lv_at hl 3 rfl) ?_
            refine fk_callV (As := []) (rest := []) ⟨hx, hb, hml, hown, hts⟩ (mc_due l D bd cI cT cJ X (mm_end S2 u 1)) (cwV 0 hts gX3_tick_X3_due rfl rfl rfl (by decide +kernel) ⟨Nat.le_of_ble_eq_true rfl, Nat.le_of_ble_eq_true rfl⟩) (fk_rvM hK hP) hK hP hD hS hA rfl hl.1 rfl (Nat.le_of_ble_eq_true rfl) dX3_tick_67 ⟨Nat.le_of_ble_eq_true rfl, Nat.le_of_ble_eq_true rfl⟩ (fun H locs hP hD hS => ?_)
            refine W.eq (g2 := F0 m 70 ls [.int (fk_oI (mm_due (mm_end S2 u 1)))]) rfl ?_
            refine lv_istore (lv' := [(4, .int (fk_oI (mm_due (mm_end S2 u 1)))), (2, .int (nI (j2 + 1))), (3, .int (nI i)), (0, .ref (bd 0)), (1, .int (nI k))]) hx hb dX3_tick_70 hl (by decide) rfl (fun ls hl => ?_)
            refine lv_goto (tgt := 50) hx hb dX3_tick_72 (by decide) ?_
            exact ih2 (j2 + 1) (mm_end S2 u 1) hc2 (mm_end_at hat2) (by rw [← h22]; simp only [mm_dueL, o_9]) (by rw [← h11]; simp only [mm_dueL, o_9]; omega) _ _ _ hP hD hS (lv_sub hl [0, 2, 1, 3, 4] rfl)
      exact inner 8 j (mm_tk S1) hB.1 (fun u hu h9 => hat1 u hu h9) rfl rfl _ _ _ hP hD hS (lv_sub hl [0, 1, 2, 3, 4] rfl)
  exact loop k 0 0 T (by omega) hat hTk rfl (by omega) _ _ _ hP hD hS (lv_sub hl [0, 1, 2, 3] rfl)

set_option maxHeartbeats 4000000 in
set_option maxRecDepth 100000 in
theorem mn_tick (l : Launch) (D : va_G) (bd : Nat → Nat) (cI cT cJ : ClassId) (X : va_W) (S : fk_S) (v : Int32) (h : fk_btw v 1 1000 = false) : fk_C l D (fk_ty cI cT cJ) yX3_tick wsX3_tick rmX3_tick [.ref (bd 0), .int v] (fk_mW bd cI S ++ X) (some (.int 0)) (fk_mW bd cI (fk_up S 12 4 1) ++ X) := by
  refine fk_C_of (cc := cX3_tick) (maxL := 5) (ret := (some .int)) (own := RX3) (by decide) rfl rfl (Nat.le_of_ble_eq_true rfl) ?_
  intro p e s m below meth c A ls hx hb hr hlocks hml hts hown hA hP hK hD hl
  have hS : va_S A s.heap s.heap [] := va_S.rf
  have hl : lv_has ls 5 [(0, .ref (bd 0)), (1, .int v)] := hl
  refine lv_aload_n hx hb dX3_tick_0 rfl (lv_at hl 0 rfl) ?_
  refine lv_iload_n hx hb dX3_tick_1 rfl (lv_at hl 1 rfl) ?_
  refine lv_if_le (tgt := 16) hx hb dX3_tick_2 (by decide) (fun c_1 => ?_) (fun c_1 => ?_)
  · refine lv_iconst (v := 0) hx hb dX3_tick_16 (by decide) ?_
    refine fk_callV (As := [.int 0]) (rest := []) ⟨hx, hb, hml, hown, hts⟩ (mc_asks_f l D bd cI cT cJ X S) (cwV 1 hts gX3_tick_X3_asks rfl rfl rfl (by decide +kernel) ⟨Nat.le_of_ble_eq_true rfl, Nat.le_of_ble_eq_true rfl⟩) (fk_rvM hK hP) hK hP hD hS hA rfl hl.1 rfl (Nat.le_of_ble_eq_true rfl) dX3_tick_17 ⟨Nat.le_of_ble_eq_true rfl, Nat.le_of_ble_eq_true rfl⟩ (fun H locs hP hD hS => ?_)
    refine W.eq (g2 := F0 m 20 ls [.int 0]) rfl ?_
    refine lv_if_ne (tgt := 25) hx hb dX3_tick_20 (by decide) (fun c => absurd c (by decide)) (fun _ => ?_)
    refine lv_iconst (v := 0) hx hb dX3_tick_23 (by decide) ?_
    exact fk_iret hx hb hr hlocks hP hK hD hS (congrArg (fun z => fk_mW bd cI z ++ X) (by rfl)) (by rfl) dX3_tick_24
  · refine lv_iload_n hx hb dX3_tick_5 rfl (lv_at hl 1 rfl) ?_
    refine lv_sipush (v := 1000) hx hb dX3_tick_6 (by decide) ?_
    refine lv_icmp_gt (tgt := 16) hx hb dX3_tick_9 (by decide) (fun c_3 => ?_) (fun c_3 => ?_)
    · refine lv_iconst (v := 0) hx hb dX3_tick_16 (by decide) ?_
      refine fk_callV (As := [.int 0]) (rest := []) ⟨hx, hb, hml, hown, hts⟩ (mc_asks_f l D bd cI cT cJ X S) (cwV 1 hts gX3_tick_X3_asks rfl rfl rfl (by decide +kernel) ⟨Nat.le_of_ble_eq_true rfl, Nat.le_of_ble_eq_true rfl⟩) (fk_rvM hK hP) hK hP hD hS hA rfl hl.1 rfl (Nat.le_of_ble_eq_true rfl) dX3_tick_17 ⟨Nat.le_of_ble_eq_true rfl, Nat.le_of_ble_eq_true rfl⟩ (fun H locs hP hD hS => ?_)
      refine W.eq (g2 := F0 m 20 ls [.int 0]) rfl ?_
      refine lv_if_ne (tgt := 25) hx hb dX3_tick_20 (by decide) (fun c => absurd c (by decide)) (fun _ => ?_)
      refine lv_iconst (v := 0) hx hb dX3_tick_23 (by decide) ?_
      exact fk_iret hx hb hr hlocks hP hK hD hS (congrArg (fun z => fk_mW bd cI z ++ X) (by rfl)) (by rfl) dX3_tick_24
    · refine lv_iconst (v := 1) hx hb dX3_tick_12 (by decide) ?_
      refine lv_goto (tgt := 17) hx hb dX3_tick_13 (by decide) ?_
      exact absurd h (by rw [show fk_btw v 1 1000 = true from by simp only [fk_btw, Bool.and_eq_true, decide_eq_true_eq]; exact ⟨fk_lt1 (Int32.not_le.mp c_1), Int32.not_lt.mp c_3⟩]; simp)

abbrev rmX3_nextTimeout : Room := { frames := 1, cells := 0, slots := 0, locals := 21 }
set_option maxHeartbeats 4000000 in
set_option maxRecDepth 100000 in
theorem mc_nextTimeout (l : Launch) (D : va_G) (bd : Nat → Nat) (cI cT cJ : ClassId) (X : va_W) (S : fk_S)  : fk_C l D (fk_ty cI cT cJ) yX3_nextTimeout wsX3_nextTimeout rmX3_nextTimeout [.ref (bd 0)] (fk_mW bd cI S ++ X) (some (.int (mm_nextR (fk_up S 12 4 0)))) (fk_mW bd cI (fk_up S 12 4 0) ++ X) := by
  refine fk_C_of (cc := cX3_nextTimeout) (maxL := 4) (ret := (some .int)) (own := RX3) (by decide) rfl rfl (Nat.le_of_ble_eq_true rfl) ?_
  intro p e s m below meth c A ls hx hb hr hlocks hml hts hown hA hP hK hD hl
  have hS : va_S A s.heap s.heap [] := va_S.rf
  have hl : lv_has ls 4 [(0, .ref (bd 0))] := hl
  have hiX3 : ∀ w ∈ u_ws RX3 TX3 17, w ∈ wsX3_nextTimeout := by decide +kernel
  refine lv_aload_n hx hb dX3_nextTimeout_0 rfl (lv_at hl 0 rfl) ?_
  refine lv_iconst (v := 0) hx hb dX3_nextTimeout_1 (by decide) ?_
  refine fk_putM (v := 0) hx hb hts hiX3 hown hK hP hD hS 4 (by decide) (by simp [fk_fM, fk_up]) (List.mem_of_getElem? (i := 1) rfl) rfl rfl (by decide +kernel) dX3_nextTimeout_2 (fun H locs hP hD hS => ?_)
  obtain ⟨T, hT⟩ : ∃ z, z = (fk_up S 12 4 0) := ⟨_, rfl⟩
  have hP : va_P D vwCl (fk_mW bd cI T ++ X) H := by rw [hT]; exact hP
  have hD : va_D A (fk_mW bd cI T ++ X) := by rw [hT]; exact hD
  refine lv_iconst (v := (-1)) hx hb dX3_nextTimeout_5 (by decide) ?_
  refine lv_istore_n (lv' := [(1, .int (-1)), (0, .ref (bd 0))]) hx hb dX3_nextTimeout_6 rfl hl (by decide) rfl (fun ls hl => ?_)
  refine lv_iconst (v := 0) hx hb dX3_nextTimeout_7 (by decide) ?_
  refine lv_istore_n (lv' := [(2, .int 0), (1, .int (-1)), (0, .ref (bd 0))]) hx hb dX3_nextTimeout_8 rfl hl (by decide) rfl (fun ls hl => ?_)
  have loop : ∀ (n : Nat) (i : Nat) (x : Int32), i + n = 8 → fk_lp (mm_nt1 T) n i x = mm_nextR T → ∀ (H : Heap) (locs : List Loc) (ls : Array Slot), va_P D vwCl (fk_mW bd cI T ++ X) H → va_D A (fk_mW bd cI T ++ X) → va_S A s.heap H locs → lv_has ls 4 [(2, .int (nI i)), (1, .int x), (0, .ref (bd 0))] → W p l e rmX3_nextTimeout s m ([.ref (bd 0)] : List Value).toArray below meth c H locs 0 0 (fk_Q below D (fk_ty cI cT cJ) [.ref (bd 0)] s A (fk_mW bd cI (fk_up S 12 4 0) ++ X) (some (.int (mm_nextR (fk_up S 12 4 0))))) (F0 m 9 ls []) := by
    intro n
    induction n with
    | zero =>
      intro i x hi hR H locs ls hP hD hS hl
      refine lv_iload_n hx hb dX3_nextTimeout_9 rfl (lv_at hl 0 rfl) ?_
      refine lv_bipush (v := 8) hx hb dX3_nextTimeout_10 (by decide) ?_
      refine lv_icmp_ge (tgt := 75) hx hb dX3_nextTimeout_12 (by decide) (fun c_1 => ?_) (fun c_1 => absurd (nI_le (a := 8) (b := i) (by omega) (by omega)) c_1)
      refine lv_iload_n hx hb dX3_nextTimeout_75 rfl (lv_at hl 1 rfl) ?_
      exact fk_iret hx hb hr hlocks hP hK hD hS (congrArg (fun z => fk_mW bd cI z ++ X) (by exact hT)) (by rw [← hT, ← hR]; rfl) dX3_nextTimeout_76
    | succ n ih =>
      intro i x hi hR H locs ls hP hD hS hl
      refine lv_iload_n hx hb dX3_nextTimeout_9 rfl (lv_at hl 0 rfl) ?_
      refine lv_bipush (v := 8) hx hb dX3_nextTimeout_10 (by decide) ?_
      refine lv_icmp_ge (tgt := 75) hx hb dX3_nextTimeout_12 (by decide) (fun c_2 => absurd c_2 (nI_ge (a := i) (b := 8) (by omega) (by omega))) (fun c_2 => ?_)
      refine lv_aload_n hx hb dX3_nextTimeout_15 rfl (lv_at hl 2 rfl) ?_
      refine lv_iload_n hx hb dX3_nextTimeout_16 rfl (lv_at hl 0 rfl) ?_
      refine fk_callV (As := [.int (nI i)]) (rest := []) ⟨hx, hb, hml, hown, hts⟩ (mc_isQueued l D bd cI cT cJ X T i (by omega)) (cwV 1 hts gX3_nextTimeout_X3_isQueued rfl rfl rfl (by decide +kernel) ⟨Nat.le_of_ble_eq_true rfl, Nat.le_of_ble_eq_true rfl⟩) (fk_rvM hK hP) hK hP hD hS hA rfl hl.1 rfl (Nat.le_of_ble_eq_true rfl) dX3_nextTimeout_17 ⟨Nat.le_of_ble_eq_true rfl, Nat.le_of_ble_eq_true rfl⟩ (fun H locs hP hD hS => ?_)
      cases b_3 : mm_q T i with
      | true =>
        refine W.eq (g2 := F0 m 20 ls [.int 1]) (by first | rfl | (rw [b_3]; rfl)) ?_
        refine lv_if_eq (tgt := 46) hx hb dX3_nextTimeout_20 (by decide) (fun c => absurd c (by decide)) (fun _ => ?_)
        refine lv_aload_n hx hb dX3_nextTimeout_23 rfl (lv_at hl 2 rfl) ?_
        refine fk_getM hx hb hts hiX3 hown hK hP 7 (by decide) (v := .ref (bd 8)) rfl (List.mem_of_getElem? (i := 2) rfl) rfl dX3_nextTimeout_24 ?_
        refine lv_iload_n hx hb dX3_nextTimeout_27 rfl (lv_at hl 0 rfl) ?_
        refine fk_ldN hx hb hK hP 7 5 8 rfl (by decide) rfl rfl (vp_in_nI (show i < 8 from (by omega)) (by decide)) dX3_nextTimeout_28 ?_
        refine W.eq (g2 := F0 m 29 ls [.int (T 5 i)]) (by rw [nI_clamp (by omega)]) ?_
        refine lv_if_le (tgt := 46) hx hb dX3_nextTimeout_29 (by decide) (fun c_5 => ?_) (fun c_5 => ?_)
        · refine lv_iconst (v := (-1)) hx hb dX3_nextTimeout_46 (by decide) ?_
          refine lv_istore_n (lv' := [(3, .int (-1)), (2, .int (nI i)), (1, .int x), (0, .ref (bd 0))]) hx hb dX3_nextTimeout_47 rfl hl (by decide) rfl (fun ls hl => ?_)
          refine lv_iload_n hx hb dX3_nextTimeout_48 rfl (lv_at hl 0 rfl) ?_
          refine lv_iconst (v := (-1)) hx hb dX3_nextTimeout_49 (by decide) ?_
          refine lv_icmp_eq (tgt := 67) hx hb dX3_nextTimeout_50 (by decide) (fun _ => ?_) (fun c => absurd c (by decide))
          refine lv_iload_n hx hb dX3_nextTimeout_67 rfl (lv_at hl 2 rfl) ?_
          refine lv_istore_n (lv' := [(1, .int x), (3, .int (-1)), (2, .int (nI i)), (0, .ref (bd 0))]) hx hb dX3_nextTimeout_68 rfl hl (by decide) rfl (fun ls hl => ?_)
          refine lv_iinc (v := (nI (i + 1))) (lv' := [(2, .int (nI (i + 1))), (1, .int x), (3, .int (-1)), (0, .ref (bd 0))]) hx hb dX3_nextTimeout_69 hl (k := 2) rfl (nI_1 i) (by decide) rfl (fun ls hl => ?_)
          refine lv_goto (tgt := 9) hx hb dX3_nextTimeout_72 (by decide) ?_
          exact ih (i + 1) x (by omega) ((congrArg (fk_lp _ n (i + 1)) (show x = mm_nt1 T i x from by simp [mm_nt1, b_3, c_5, Int32.not_lt.mpr c_5])).trans hR) _ _ _ hP hD hS (lv_sub hl [0, 1, 3] rfl)
        · refine lv_aload_n hx hb dX3_nextTimeout_32 rfl (lv_at hl 2 rfl) ?_
          refine fk_getM hx hb hts hiX3 hown hK hP 7 (by decide) (v := .ref (bd 8)) rfl (List.mem_of_getElem? (i := 2) rfl) rfl dX3_nextTimeout_33 ?_
          refine lv_iload_n hx hb dX3_nextTimeout_36 rfl (lv_at hl 0 rfl) ?_
          refine fk_ldN hx hb hK hP 7 5 8 rfl (by decide) rfl rfl (vp_in_nI (show i < 8 from (by omega)) (by decide)) dX3_nextTimeout_37 ?_
          refine W.eq (g2 := F0 m 38 ls [.int (T 5 i)]) (by rw [nI_clamp (by omega)]) ?_
          refine lv_aload_n hx hb dX3_nextTimeout_38 rfl (lv_at hl 2 rfl) ?_
          refine fk_getM hx hb hts hiX3 hown hK hP 12 (by decide) (v := .int (T 12 0)) rfl (List.mem_of_getElem? (i := 3) rfl) rfl dX3_nextTimeout_39 ?_
          refine lv_isub hx hb dX3_nextTimeout_42 ?_
          refine lv_goto (tgt := 47) hx hb dX3_nextTimeout_43 (by decide) ?_
          refine lv_istore_n (lv' := [(3, .int ((T 5 i) - (T 12 0))), (2, .int (nI i)), (1, .int x), (0, .ref (bd 0))]) hx hb dX3_nextTimeout_47 rfl hl (by decide) rfl (fun ls hl => ?_)
          refine lv_iload_n hx hb dX3_nextTimeout_48 rfl (lv_at hl 0 rfl) ?_
          refine lv_iconst (v := (-1)) hx hb dX3_nextTimeout_49 (by decide) ?_
          refine lv_icmp_eq (tgt := 67) hx hb dX3_nextTimeout_50 (by decide) (fun c_7 => ?_) (fun c_7 => ?_)
          · refine lv_iload_n hx hb dX3_nextTimeout_67 rfl (lv_at hl 2 rfl) ?_
            refine lv_istore_n (lv' := [(1, .int x), (3, .int ((T 5 i) - (T 12 0))), (2, .int (nI i)), (0, .ref (bd 0))]) hx hb dX3_nextTimeout_68 rfl hl (by decide) rfl (fun ls hl => ?_)
            refine lv_iinc (v := (nI (i + 1))) (lv' := [(2, .int (nI (i + 1))), (1, .int x), (3, .int ((T 5 i) - (T 12 0))), (0, .ref (bd 0))]) hx hb dX3_nextTimeout_69 hl (k := 2) rfl (nI_1 i) (by decide) rfl (fun ls hl => ?_)
            refine lv_goto (tgt := 9) hx hb dX3_nextTimeout_72 (by decide) ?_
            exact ih (i + 1) x (by omega) ((congrArg (fk_lp _ n (i + 1)) (show x = mm_nt1 T i x from by simp [mm_nt1, b_3, c_5, Int32.not_le.mp c_5, c_7])).trans hR) _ _ _ hP hD hS (lv_sub hl [0, 1, 3] rfl)
          · refine lv_iload_n hx hb dX3_nextTimeout_53 rfl (lv_at hl 2 rfl) ?_
            refine lv_iconst (v := (-1)) hx hb dX3_nextTimeout_54 (by decide) ?_
            refine lv_icmp_eq (tgt := 63) hx hb dX3_nextTimeout_55 (by decide) (fun c_8 => ?_) (fun c_8 => ?_)
            · refine lv_iload_n hx hb dX3_nextTimeout_63 rfl (lv_at hl 0 rfl) ?_
              refine lv_goto (tgt := 68) hx hb dX3_nextTimeout_64 (by decide) ?_
              refine lv_istore_n (lv' := [(1, .int ((T 5 i) - (T 12 0))), (3, .int ((T 5 i) - (T 12 0))), (2, .int (nI i)), (0, .ref (bd 0))]) hx hb dX3_nextTimeout_68 rfl hl (by decide) rfl (fun ls hl => ?_)
              refine lv_iinc (v := (nI (i + 1))) (lv' := [(2, .int (nI (i + 1))), (1, .int ((T 5 i) - (T 12 0))), (3, .int ((T 5 i) - (T 12 0))), (0, .ref (bd 0))]) hx hb dX3_nextTimeout_69 hl (k := 2) rfl (nI_1 i) (by decide) rfl (fun ls hl => ?_)
              refine lv_goto (tgt := 9) hx hb dX3_nextTimeout_72 (by decide) ?_
              exact ih (i + 1) ((T 5 i) - (T 12 0)) (by omega) ((congrArg (fk_lp _ n (i + 1)) (show ((T 5 i) - (T 12 0)) = mm_nt1 T i x from by simp [mm_nt1, b_3, c_5, Int32.not_le.mp c_5, c_7, c_8])).trans hR) _ _ _ hP hD hS (lv_sub hl [0, 1, 3] rfl)
            · refine lv_iload_n hx hb dX3_nextTimeout_58 rfl (lv_at hl 0 rfl) ?_
              refine lv_iload_n hx hb dX3_nextTimeout_59 rfl (lv_at hl 2 rfl) ?_
              refine lv_icmp_ge (tgt := 67) hx hb dX3_nextTimeout_60 (by decide) (fun c_9 => ?_) (fun c_9 => ?_)
              · refine lv_iload_n hx hb dX3_nextTimeout_67 rfl (lv_at hl 2 rfl) ?_
                refine lv_istore_n (lv' := [(1, .int x), (3, .int ((T 5 i) - (T 12 0))), (2, .int (nI i)), (0, .ref (bd 0))]) hx hb dX3_nextTimeout_68 rfl hl (by decide) rfl (fun ls hl => ?_)
                refine lv_iinc (v := (nI (i + 1))) (lv' := [(2, .int (nI (i + 1))), (1, .int x), (3, .int ((T 5 i) - (T 12 0))), (0, .ref (bd 0))]) hx hb dX3_nextTimeout_69 hl (k := 2) rfl (nI_1 i) (by decide) rfl (fun ls hl => ?_)
                refine lv_goto (tgt := 9) hx hb dX3_nextTimeout_72 (by decide) ?_
                exact ih (i + 1) x (by omega) ((congrArg (fk_lp _ n (i + 1)) (show x = mm_nt1 T i x from by simp [mm_nt1, b_3, c_5, Int32.not_le.mp c_5, c_7, c_8, c_9, Int32.not_lt.mpr c_9])).trans hR) _ _ _ hP hD hS (lv_sub hl [0, 1, 3] rfl)
              · refine lv_iload_n hx hb dX3_nextTimeout_63 rfl (lv_at hl 0 rfl) ?_
                refine lv_goto (tgt := 68) hx hb dX3_nextTimeout_64 (by decide) ?_
                refine lv_istore_n (lv' := [(1, .int ((T 5 i) - (T 12 0))), (3, .int ((T 5 i) - (T 12 0))), (2, .int (nI i)), (0, .ref (bd 0))]) hx hb dX3_nextTimeout_68 rfl hl (by decide) rfl (fun ls hl => ?_)
                refine lv_iinc (v := (nI (i + 1))) (lv' := [(2, .int (nI (i + 1))), (1, .int ((T 5 i) - (T 12 0))), (3, .int ((T 5 i) - (T 12 0))), (0, .ref (bd 0))]) hx hb dX3_nextTimeout_69 hl (k := 2) rfl (nI_1 i) (by decide) rfl (fun ls hl => ?_)
                refine lv_goto (tgt := 9) hx hb dX3_nextTimeout_72 (by decide) ?_
                exact ih (i + 1) ((T 5 i) - (T 12 0)) (by omega) ((congrArg (fk_lp _ n (i + 1)) (show ((T 5 i) - (T 12 0)) = mm_nt1 T i x from by simp [mm_nt1, b_3, c_5, Int32.not_le.mp c_5, c_7, c_8, c_9, Int32.not_le.mp c_9])).trans hR) _ _ _ hP hD hS (lv_sub hl [0, 1, 3] rfl)
      | false =>
        refine W.eq (g2 := F0 m 20 ls [.int 0]) (by first | rfl | (rw [b_3]; rfl)) ?_
        refine lv_if_eq (tgt := 46) hx hb dX3_nextTimeout_20 (by decide) (fun _ => ?_) (fun c => absurd c (by decide))
        refine lv_iconst (v := (-1)) hx hb dX3_nextTimeout_46 (by decide) ?_
        refine lv_istore_n (lv' := [(3, .int (-1)), (2, .int (nI i)), (1, .int x), (0, .ref (bd 0))]) hx hb dX3_nextTimeout_47 rfl hl (by decide) rfl (fun ls hl => ?_)
        refine lv_iload_n hx hb dX3_nextTimeout_48 rfl (lv_at hl 0 rfl) ?_
        refine lv_iconst (v := (-1)) hx hb dX3_nextTimeout_49 (by decide) ?_
        refine lv_icmp_eq (tgt := 67) hx hb dX3_nextTimeout_50 (by decide) (fun _ => ?_) (fun c => absurd c (by decide))
        refine lv_iload_n hx hb dX3_nextTimeout_67 rfl (lv_at hl 2 rfl) ?_
        refine lv_istore_n (lv' := [(1, .int x), (3, .int (-1)), (2, .int (nI i)), (0, .ref (bd 0))]) hx hb dX3_nextTimeout_68 rfl hl (by decide) rfl (fun ls hl => ?_)
        refine lv_iinc (v := (nI (i + 1))) (lv' := [(2, .int (nI (i + 1))), (1, .int x), (3, .int (-1)), (0, .ref (bd 0))]) hx hb dX3_nextTimeout_69 hl (k := 2) rfl (nI_1 i) (by decide) rfl (fun ls hl => ?_)
        refine lv_goto (tgt := 9) hx hb dX3_nextTimeout_72 (by decide) ?_
        exact ih (i + 1) x (by omega) ((congrArg (fk_lp _ n (i + 1)) (show x = mm_nt1 T i x from by simp [mm_nt1, b_3])).trans hR) _ _ _ hP hD hS (lv_sub hl [0, 1, 3] rfl)
  exact loop 8 0 (-1) rfl rfl _ _ _ hP hD hS (lv_sub hl [0, 1, 2] rfl)

abbrev rmX3_blockedBy : Room := { frames := 1, cells := 0, slots := 0, locals := 21 }
set_option maxHeartbeats 4000000 in
set_option maxRecDepth 100000 in
theorem mc_blockedBy (l : Launch) (D : va_G) (bd : Nat → Nat) (cI cT cJ : ClassId) (X : va_W) (S : fk_S) (t : Nat) (ht : t < 8) (hat : fk_at S) (hB0 : mm_blt (fk_up S 12 4 0) 9 (kk_bit t) 0) : fk_C l D (fk_ty cI cT cJ) yX3_blockedBy wsX3_blockedBy rmX3_blockedBy [.ref (bd 0), .int (nI t)] (fk_mW bd cI S ++ X) (some (.int (mm_bcn (mm_blo (fk_up S 12 4 0) 9 (kk_bit t) 0)))) (fk_mW bd cI (fk_up S 12 4 0) ++ X) := by
  refine fk_C_of (cc := cX3_blockedBy) (maxL := 6) (ret := (some .int)) (own := RX3) (by decide) rfl rfl (Nat.le_of_ble_eq_true rfl) ?_
  intro p e s m below meth c A ls hx hb hr hlocks hml hts hown hA hP hK hD hl
  have hS : va_S A s.heap s.heap [] := va_S.rf
  have hl : lv_has ls 6 [(0, .ref (bd 0)), (1, .int (nI t))] := hl
  have hiX3 : ∀ w ∈ u_ws RX3 TX3 17, w ∈ wsX3_blockedBy := by decide +kernel
  refine lv_aload_n hx hb dX3_blockedBy_0 rfl (lv_at hl 0 rfl) ?_
  refine lv_iload_n hx hb dX3_blockedBy_1 rfl (lv_at hl 1 rfl) ?_
  refine fk_callS (As := [.int (nI t)]) (rest := [.ref (bd 0)]) ⟨hx, hb, hml, hown, hts⟩ (by have h9 := (mc_isThread l D bd cI cT cJ X S (nI t)); rw [fk_isT_nI (by omega)] at h9; exact h9) (va_cwS 1 hts gX3_blockedBy_X3_isThread rfl rfl rfl (by decide +kernel) ⟨Nat.le_of_ble_eq_true rfl, Nat.le_of_ble_eq_true rfl⟩) hK hP hD hS hA rfl hl.1 rfl (Nat.le_of_ble_eq_true rfl) dX3_blockedBy_2 ⟨Nat.le_of_ble_eq_true rfl, Nat.le_of_ble_eq_true rfl⟩ (fun H locs hP hD hS => ?_)
  refine W.eq (g2 := F0 m 5 ls [.int 1, .ref (bd 0)]) rfl ?_
  refine fk_callV (As := [.int 1]) (rest := []) ⟨hx, hb, hml, hown, hts⟩ (mc_asks_t l D bd cI cT cJ X S) (cwV 1 hts gX3_blockedBy_X3_asks rfl rfl rfl (by decide +kernel) ⟨Nat.le_of_ble_eq_true rfl, Nat.le_of_ble_eq_true rfl⟩) (fk_rvM hK hP) hK hP hD hS hA rfl hl.1 rfl (Nat.le_of_ble_eq_true rfl) dX3_blockedBy_5 ⟨Nat.le_of_ble_eq_true rfl, Nat.le_of_ble_eq_true rfl⟩ (fun H locs hP hD hS => ?_)
  refine W.eq (g2 := F0 m 8 ls [.int 1]) rfl ?_
  refine lv_if_ne (tgt := 13) hx hb dX3_blockedBy_8 (by decide) (fun _ => ?_) (fun c => absurd c (by decide))
  obtain ⟨T, hT⟩ : ∃ z, z = (fk_up S 12 4 0) := ⟨_, rfl⟩
  have hP : va_P D vwCl (fk_mW bd cI T ++ X) H := by rw [hT]; exact hP
  have hD : va_D A (fk_mW bd cI T ++ X) := by rw [hT]; exact hD
  have hat : fk_at T := by rw [hT]; exact hat
  have hB0 : mm_blt T 9 (kk_bit t) 0 := by rw [hT]; exact hB0
  refine lv_iconst (v := 1) hx hb dX3_blockedBy_13 (by decide) ?_
  refine lv_iload_n hx hb dX3_blockedBy_14 rfl (lv_at hl 1 rfl) ?_
  refine lv_ishl hx hb dX3_blockedBy_15 ?_
  refine lv_istore_n (lv' := [(2, .int (1 <<< ((nI t) &&& 31))), (0, .ref (bd 0)), (1, .int (nI t))]) hx hb dX3_blockedBy_16 rfl hl (by decide) rfl (fun ls hl => ?_)
  refine lv_iconst (v := 0) hx hb dX3_blockedBy_17 (by decide) ?_
  refine lv_istore_n (lv' := [(3, .int 0), (2, .int (1 <<< ((nI t) &&& 31))), (0, .ref (bd 0)), (1, .int (nI t))]) hx hb dX3_blockedBy_18 rfl hl (by decide) rfl (fun ls hl => ?_)
  have loop : ∀ (n : Nat) (x y : Int32), mm_blt T n x y → mm_blo T n x y = mm_blo T 9 (kk_bit t) 0 → ∀ (H : Heap) (locs : List Loc) (ls : Array Slot), va_P D vwCl (fk_mW bd cI T ++ X) H → va_D A (fk_mW bd cI T ++ X) → va_S A s.heap H locs → lv_has ls 6 [(3, .int y), (2, .int x), (0, .ref (bd 0)), (1, .int (nI t))] → W p l e rmX3_blockedBy s m ([.ref (bd 0), .int (nI t)] : List Value).toArray below meth c H locs 0 0 (fk_Q below D (fk_ty cI cT cJ) [.ref (bd 0), .int (nI t)] s A (fk_mW bd cI (fk_up S 12 4 0) ++ X) (some (.int (mm_bcn (mm_blo (fk_up S 12 4 0) 9 (kk_bit t) 0))))) (F0 m 19 ls []) := by
    intro n
    induction n with
    | zero =>
      intro x y hB hR H locs ls hP hD hS hl
      refine lv_iload_n hx hb dX3_blockedBy_19 rfl (lv_at hl 1 rfl) ?_
      refine lv_iload_n hx hb dX3_blockedBy_20 rfl (lv_at hl 0 rfl) ?_
      refine lv_icmp_eq (tgt := 106) hx hb dX3_blockedBy_21 (by decide) (fun c_2 => ?_) (fun c_2 => absurd hB c_2)
      refine lv_iconst (v := (-1)) hx hb dX3_blockedBy_106 (by decide) ?_
      refine lv_istore (lv' := [(4, .int (-1)), (3, .int y), (2, .int x), (0, .ref (bd 0)), (1, .int (nI t))]) hx hb dX3_blockedBy_107 hl (by decide) rfl (fun ls hl => ?_)
      refine lv_iconst (v := 0) hx hb dX3_blockedBy_109 (by decide) ?_
      refine lv_istore (lv' := [(5, .int 0), (4, .int (-1)), (3, .int y), (2, .int x), (0, .ref (bd 0)), (1, .int (nI t))]) hx hb dX3_blockedBy_110 hl (by decide) rfl (fun ls hl => ?_)
      have count : ∀ (n3 : Nat) (j : Nat) (v : Int32), j + n3 = 8 → fk_lp (mm_bc1 x) n3 j v = mm_bcn x → ∀ (H : Heap) (locs : List Loc) (ls : Array Slot), va_P D vwCl (fk_mW bd cI T ++ X) H → va_D A (fk_mW bd cI T ++ X) → va_S A s.heap H locs → lv_has ls 6 [(5, .int (nI j)), (4, .int v), (2, .int x), (0, .ref (bd 0)), (1, .int (nI t))] → W p l e rmX3_blockedBy s m ([.ref (bd 0), .int (nI t)] : List Value).toArray below meth c H locs 0 0 (fk_Q below D (fk_ty cI cT cJ) [.ref (bd 0), .int (nI t)] s A (fk_mW bd cI (fk_up S 12 4 0) ++ X) (some (.int (mm_bcn (mm_blo (fk_up S 12 4 0) 9 (kk_bit t) 0))))) (F0 m 112 ls []) := by
        intro n3
        induction n3 with
        | zero =>
          intro j v hj hR3 H locs ls hP hD hS hl
          refine lv_iload hx hb dX3_blockedBy_112 (lv_at hl 0 rfl) ?_
          refine lv_bipush (v := 8) hx hb dX3_blockedBy_114 (by decide) ?_
          refine lv_icmp_ge (tgt := 136) hx hb dX3_blockedBy_116 (by decide) (fun c_3 => ?_) (fun c_3 => absurd (nI_le (a := 8) (b := j) (by omega) (by omega)) c_3)
          refine lv_iload hx hb dX3_blockedBy_136 (lv_at hl 1 rfl) ?_
          exact fk_iret hx hb hr hlocks hP hK hD hS (congrArg (fun z => fk_mW bd cI z ++ X) (by exact hT)) (by rw [← hT, ← hR, show mm_blo T 0 x y = x from rfl, ← hR3]; rfl) dX3_blockedBy_138
        | succ n3 ih3 =>
          intro j v hj hR3 H locs ls hP hD hS hl
          refine lv_iload hx hb dX3_blockedBy_112 (lv_at hl 0 rfl) ?_
          refine lv_bipush (v := 8) hx hb dX3_blockedBy_114 (by decide) ?_
          refine lv_icmp_ge (tgt := 136) hx hb dX3_blockedBy_116 (by decide) (fun c_4 => absurd c_4 (nI_ge (a := j) (b := 8) (by omega) (by omega))) (fun c_4 => ?_)
          refine lv_iload hx hb dX3_blockedBy_119 (lv_at hl 1 rfl) ?_
          refine lv_iload_n hx hb dX3_blockedBy_121 rfl (lv_at hl 2 rfl) ?_
          refine lv_iload hx hb dX3_blockedBy_122 (lv_at hl 0 rfl) ?_
          refine lv_ishr hx hb dX3_blockedBy_124 ?_
          refine lv_iconst (v := 1) hx hb dX3_blockedBy_125 (by decide) ?_
          refine lv_iand hx hb dX3_blockedBy_126 ?_
          refine lv_iadd hx hb dX3_blockedBy_127 ?_
          refine lv_istore (lv' := [(4, .int (v + ((x >>> ((nI j) &&& 31)) &&& 1))), (5, .int (nI j)), (2, .int x), (0, .ref (bd 0)), (1, .int (nI t))]) hx hb dX3_blockedBy_128 hl (by decide) rfl (fun ls hl => ?_)
          refine lv_iinc (v := (nI (j + 1))) (lv' := [(5, .int (nI (j + 1))), (4, .int (v + ((x >>> ((nI j) &&& 31)) &&& 1))), (2, .int x), (0, .ref (bd 0)), (1, .int (nI t))]) hx hb dX3_blockedBy_130 hl (k := 1) rfl (nI_1 j) (by decide) rfl (fun ls hl => ?_)
          refine lv_goto (tgt := 112) hx hb dX3_blockedBy_133 (by decide) ?_
          exact ih3 (j + 1) (v + ((x >>> ((nI j) &&& 31)) &&& 1)) (by omega) ((congrArg (fk_lp _ n3 (j + 1)) (show (v + ((x >>> ((nI j) &&& 31)) &&& 1)) = mm_bc1 x j v from rfl)).trans hR3) _ _ _ hP hD hS (lv_sub hl [0, 1, 2, 3, 4] rfl)
      exact count 8 0 (-1) rfl rfl _ _ _ hP hD hS (lv_sub hl [0, 1, 3, 4, 5] rfl)
    | succ n ih =>
      intro x y hB hR H locs ls hP hD hS hl
      refine lv_iload_n hx hb dX3_blockedBy_19 rfl (lv_at hl 1 rfl) ?_
      refine lv_iload_n hx hb dX3_blockedBy_20 rfl (lv_at hl 0 rfl) ?_
      refine lv_icmp_eq (tgt := 106) hx hb dX3_blockedBy_21 (by decide) (fun c_5 => ?_) (fun c_5 => ?_)
      · refine lv_iconst (v := (-1)) hx hb dX3_blockedBy_106 (by decide) ?_
        refine lv_istore (lv' := [(4, .int (-1)), (3, .int y), (2, .int x), (0, .ref (bd 0)), (1, .int (nI t))]) hx hb dX3_blockedBy_107 hl (by decide) rfl (fun ls hl => ?_)
        refine lv_iconst (v := 0) hx hb dX3_blockedBy_109 (by decide) ?_
        refine lv_istore (lv' := [(5, .int 0), (4, .int (-1)), (3, .int y), (2, .int x), (0, .ref (bd 0)), (1, .int (nI t))]) hx hb dX3_blockedBy_110 hl (by decide) rfl (fun ls hl => ?_)
        have count : ∀ (n3 : Nat) (j : Nat) (v : Int32), j + n3 = 8 → fk_lp (mm_bc1 x) n3 j v = mm_bcn x → ∀ (H : Heap) (locs : List Loc) (ls : Array Slot), va_P D vwCl (fk_mW bd cI T ++ X) H → va_D A (fk_mW bd cI T ++ X) → va_S A s.heap H locs → lv_has ls 6 [(5, .int (nI j)), (4, .int v), (2, .int x), (0, .ref (bd 0)), (1, .int (nI t))] → W p l e rmX3_blockedBy s m ([.ref (bd 0), .int (nI t)] : List Value).toArray below meth c H locs 0 0 (fk_Q below D (fk_ty cI cT cJ) [.ref (bd 0), .int (nI t)] s A (fk_mW bd cI (fk_up S 12 4 0) ++ X) (some (.int (mm_bcn (mm_blo (fk_up S 12 4 0) 9 (kk_bit t) 0))))) (F0 m 112 ls []) := by
          intro n3
          induction n3 with
          | zero =>
            intro j v hj hR3 H locs ls hP hD hS hl
            refine lv_iload hx hb dX3_blockedBy_112 (lv_at hl 0 rfl) ?_
            refine lv_bipush (v := 8) hx hb dX3_blockedBy_114 (by decide) ?_
            refine lv_icmp_ge (tgt := 136) hx hb dX3_blockedBy_116 (by decide) (fun c_6 => ?_) (fun c_6 => absurd (nI_le (a := 8) (b := j) (by omega) (by omega)) c_6)
            refine lv_iload hx hb dX3_blockedBy_136 (lv_at hl 1 rfl) ?_
            exact fk_iret hx hb hr hlocks hP hK hD hS (congrArg (fun z => fk_mW bd cI z ++ X) (by exact hT)) (by rw [← hT, ← hR, show mm_blo T (n + 1) x y = x from by rw [mm_blo, if_pos c_5], ← hR3]; rfl) dX3_blockedBy_138
          | succ n3 ih3 =>
            intro j v hj hR3 H locs ls hP hD hS hl
            refine lv_iload hx hb dX3_blockedBy_112 (lv_at hl 0 rfl) ?_
            refine lv_bipush (v := 8) hx hb dX3_blockedBy_114 (by decide) ?_
            refine lv_icmp_ge (tgt := 136) hx hb dX3_blockedBy_116 (by decide) (fun c_7 => absurd c_7 (nI_ge (a := j) (b := 8) (by omega) (by omega))) (fun c_7 => ?_)
            refine lv_iload hx hb dX3_blockedBy_119 (lv_at hl 1 rfl) ?_
            refine lv_iload_n hx hb dX3_blockedBy_121 rfl (lv_at hl 2 rfl) ?_
            refine lv_iload hx hb dX3_blockedBy_122 (lv_at hl 0 rfl) ?_
            refine lv_ishr hx hb dX3_blockedBy_124 ?_
            refine lv_iconst (v := 1) hx hb dX3_blockedBy_125 (by decide) ?_
            refine lv_iand hx hb dX3_blockedBy_126 ?_
            refine lv_iadd hx hb dX3_blockedBy_127 ?_
            refine lv_istore (lv' := [(4, .int (v + ((x >>> ((nI j) &&& 31)) &&& 1))), (5, .int (nI j)), (2, .int x), (0, .ref (bd 0)), (1, .int (nI t))]) hx hb dX3_blockedBy_128 hl (by decide) rfl (fun ls hl => ?_)
            refine lv_iinc (v := (nI (j + 1))) (lv' := [(5, .int (nI (j + 1))), (4, .int (v + ((x >>> ((nI j) &&& 31)) &&& 1))), (2, .int x), (0, .ref (bd 0)), (1, .int (nI t))]) hx hb dX3_blockedBy_130 hl (k := 1) rfl (nI_1 j) (by decide) rfl (fun ls hl => ?_)
            refine lv_goto (tgt := 112) hx hb dX3_blockedBy_133 (by decide) ?_
            exact ih3 (j + 1) (v + ((x >>> ((nI j) &&& 31)) &&& 1)) (by omega) ((congrArg (fk_lp _ n3 (j + 1)) (show (v + ((x >>> ((nI j) &&& 31)) &&& 1)) = mm_bc1 x j v from rfl)).trans hR3) _ _ _ hP hD hS (lv_sub hl [0, 1, 2, 3, 4] rfl)
        exact count 8 0 (-1) rfl rfl _ _ _ hP hD hS (lv_sub hl [0, 1, 3, 4, 5] rfl)
      · refine lv_iload_n hx hb dX3_blockedBy_24 rfl (lv_at hl 1 rfl) ?_
        refine lv_istore_n (lv' := [(3, .int x), (2, .int x), (0, .ref (bd 0)), (1, .int (nI t))]) hx hb dX3_blockedBy_25 rfl hl (by decide) rfl (fun ls hl => ?_)
        refine lv_iconst (v := 0) hx hb dX3_blockedBy_26 (by decide) ?_
        refine lv_istore (lv' := [(4, .int 0), (3, .int x), (2, .int x), (0, .ref (bd 0)), (1, .int (nI t))]) hx hb dX3_blockedBy_27 hl (by decide) rfl (fun ls hl => ?_)
        have inner : ∀ (n2 : Nat) (j : Nat) (z : Int32), j + n2 = 8 → fk_lp (mm_bl1 T) n2 j z = mm_blp T x → ∀ (H : Heap) (locs : List Loc) (ls : Array Slot), va_P D vwCl (fk_mW bd cI T ++ X) H → va_D A (fk_mW bd cI T ++ X) → va_S A s.heap H locs → lv_has ls 6 [(4, .int (nI j)), (2, .int z), (3, .int x), (0, .ref (bd 0)), (1, .int (nI t))] → W p l e rmX3_blockedBy s m ([.ref (bd 0), .int (nI t)] : List Value).toArray below meth c H locs 0 0 (fk_Q below D (fk_ty cI cT cJ) [.ref (bd 0), .int (nI t)] s A (fk_mW bd cI (fk_up S 12 4 0) ++ X) (some (.int (mm_bcn (mm_blo (fk_up S 12 4 0) 9 (kk_bit t) 0))))) (F0 m 29 ls []) := by
          intro n2
          induction n2 with
          | zero =>
            intro j z hj hR2 H locs ls hP hD hS hl
            have hz9 : mm_blp T x = z := hR2.symm
            refine lv_iload hx hb dX3_blockedBy_29 (lv_at hl 0 rfl) ?_
            refine lv_bipush (v := 8) hx hb dX3_blockedBy_31 (by decide) ?_
            refine lv_icmp_ge (tgt := 103) hx hb dX3_blockedBy_33 (by decide) (fun c_8 => ?_) (fun c_8 => absurd (nI_le (a := 8) (b := j) (by omega) (by omega)) c_8)
            refine lv_goto (tgt := 19) hx hb dX3_blockedBy_103 (by decide) ?_
            exact ih z x (by have h9 : mm_blt T n (mm_blp T x) x := (by simpa [mm_blt, c_5] using hB); rw [hz9] at h9; exact h9) (by rw [← hR, mm_blo, if_neg c_5, hz9]) _ _ _ hP hD hS (lv_sub hl [2, 1, 3, 4] rfl)
          | succ n2 ih2 =>
            intro j z hj hR2 H locs ls hP hD hS hl
            refine lv_iload hx hb dX3_blockedBy_29 (lv_at hl 0 rfl) ?_
            refine lv_bipush (v := 8) hx hb dX3_blockedBy_31 (by decide) ?_
            refine lv_icmp_ge (tgt := 103) hx hb dX3_blockedBy_33 (by decide) (fun c_9 => absurd c_9 (nI_ge (a := j) (b := 8) (by omega) (by omega))) (fun c_9 => ?_)
            refine lv_aload_n hx hb dX3_blockedBy_36 rfl (lv_at hl 3 rfl) ?_
            refine fk_getM hx hb hts hiX3 hown hK hP 1 (by decide) (v := .ref (bd 2)) rfl (List.mem_of_getElem? (i := 1) rfl) rfl dX3_blockedBy_37 ?_
            refine lv_iload hx hb dX3_blockedBy_40 (lv_at hl 0 rfl) ?_
            refine fk_ldN hx hb hK hP 1 1 8 rfl (by decide) rfl rfl (vp_in_nI (show j < 8 from (by omega)) (by decide)) dX3_blockedBy_42 ?_
            refine W.eq (g2 := F0 m 43 ls [.int (T 1 j)]) (by rw [nI_clamp (by omega)]) ?_
            refine lv_iconst (v := 2) hx hb dX3_blockedBy_43 (by decide) ?_
            refine lv_icmp_ne (tgt := 65) hx hb dX3_blockedBy_44 (by decide) (fun c_10 => ?_) (fun c_10 => ?_)
            · refine lv_iconst (v := (-1)) hx hb dX3_blockedBy_65 (by decide) ?_
              refine lv_istore (lv' := [(5, .int (-1)), (4, .int (nI j)), (2, .int z), (3, .int x), (0, .ref (bd 0)), (1, .int (nI t))]) hx hb dX3_blockedBy_66 hl (by decide) rfl (fun ls hl => ?_)
              refine lv_iload_n hx hb dX3_blockedBy_68 rfl (lv_at hl 2 rfl) ?_
              refine lv_iload hx hb dX3_blockedBy_69 (lv_at hl 0 rfl) ?_
              refine fk_callS (As := [.int (-1)]) (rest := [.int z]) ⟨hx, hb, hml, hown, hts⟩ (by have h9 := (mc_isThread l D bd cI cT cJ X T (-1)); rw [show fk_isT (-1) = false from rfl] at h9; exact h9) (va_cwS 1 hts gX3_blockedBy_X3_isThread rfl rfl rfl (by decide +kernel) ⟨Nat.le_of_ble_eq_true rfl, Nat.le_of_ble_eq_true rfl⟩) hK hP hD hS hA rfl hl.1 rfl (Nat.le_of_ble_eq_true rfl) dX3_blockedBy_71 ⟨Nat.le_of_ble_eq_true rfl, Nat.le_of_ble_eq_true rfl⟩ (fun H locs hP hD hS => ?_)
              refine W.eq (g2 := F0 m 74 ls [.int 0, .int z]) rfl ?_
              refine lv_if_eq (tgt := 94) hx hb dX3_blockedBy_74 (by decide) (fun _ => ?_) (fun c => absurd c (by decide))
              refine lv_iconst (v := 0) hx hb dX3_blockedBy_94 (by decide) ?_
              refine lv_ior hx hb dX3_blockedBy_95 ?_
              refine lv_istore_n (lv' := [(2, .int (z ||| 0)), (5, .int (-1)), (4, .int (nI j)), (3, .int x), (0, .ref (bd 0)), (1, .int (nI t))]) hx hb dX3_blockedBy_96 rfl hl (by decide) rfl (fun ls hl => ?_)
              refine lv_iinc (v := (nI (j + 1))) (lv' := [(4, .int (nI (j + 1))), (2, .int (z ||| 0)), (5, .int (-1)), (3, .int x), (0, .ref (bd 0)), (1, .int (nI t))]) hx hb dX3_blockedBy_97 hl (k := 2) rfl (nI_1 j) (by decide) rfl (fun ls hl => ?_)
              refine lv_goto (tgt := 29) hx hb dX3_blockedBy_100 (by decide) ?_
              exact ih2 (j + 1) (z ||| 0) (by omega) ((congrArg (fk_lp _ n2 (j + 1)) (show (z ||| 0) = mm_bl1 T j z from by simp [mm_bl1, mm_bow, fk_isT_m1, c_10])).trans hR2) _ _ _ hP hD hS (lv_sub hl [0, 1, 3, 4, 5] rfl)
            · refine lv_aload_n hx hb dX3_blockedBy_47 rfl (lv_at hl 3 rfl) ?_
              refine fk_getM hx hb hts hiX3 hown hK hP 0 (by decide) (v := .ref (bd 1)) rfl (List.mem_of_getElem? (i := 2) rfl) rfl dX3_blockedBy_48 ?_
              refine lv_aload_n hx hb dX3_blockedBy_51 rfl (lv_at hl 3 rfl) ?_
              refine fk_getM hx hb hts hiX3 hown hK hP 5 (by decide) (v := .ref (bd 6)) rfl (List.mem_of_getElem? (i := 3) rfl) rfl dX3_blockedBy_52 ?_
              refine lv_iload hx hb dX3_blockedBy_55 (lv_at hl 0 rfl) ?_
              refine fk_ldN hx hb hK hP 5 3 8 rfl (by decide) rfl rfl (vp_in_nI (show j < 8 from (by omega)) (by decide)) dX3_blockedBy_57 ?_
              refine W.eq (g2 := F0 m 58 ls [.int (T 3 j), .ref (bd 1)]) (by rw [nI_clamp (by omega)]) ?_
              refine fk_ldN hx hb hK hP 0 0 16 rfl (by decide) rfl rfl (hat j (by omega) c_10) dX3_blockedBy_58 ?_
              refine fk_callS (As := [.int (T 0 ((T 3 j).toNatClampNeg))]) (rest := []) ⟨hx, hb, hml, hown, hts⟩ (mc_ownerOf l D bd cI cT cJ X T (T 0 ((T 3 j).toNatClampNeg))) (va_cwS 1 hts gX3_blockedBy_X3_ownerOf rfl rfl rfl (by decide +kernel) ⟨Nat.le_of_ble_eq_true rfl, Nat.le_of_ble_eq_true rfl⟩) hK hP hD hS hA rfl hl.1 rfl (Nat.le_of_ble_eq_true rfl) dX3_blockedBy_59 ⟨Nat.le_of_ble_eq_true rfl, Nat.le_of_ble_eq_true rfl⟩ (fun H locs hP hD hS => ?_)
              refine W.eq (g2 := F0 m 62 ls [.int (mm_own (T 0 ((T 3 j).toNatClampNeg)))]) rfl ?_
              refine lv_goto (tgt := 66) hx hb dX3_blockedBy_62 (by decide) ?_
              refine lv_istore (lv' := [(5, .int (mm_own (T 0 ((T 3 j).toNatClampNeg)))), (4, .int (nI j)), (2, .int z), (3, .int x), (0, .ref (bd 0)), (1, .int (nI t))]) hx hb dX3_blockedBy_66 hl (by decide) rfl (fun ls hl => ?_)
              refine lv_iload_n hx hb dX3_blockedBy_68 rfl (lv_at hl 2 rfl) ?_
              refine lv_iload hx hb dX3_blockedBy_69 (lv_at hl 0 rfl) ?_
              refine fk_callS (As := [.int (mm_own (T 0 ((T 3 j).toNatClampNeg)))]) (rest := [.int z]) ⟨hx, hb, hml, hown, hts⟩ (mc_isThread l D bd cI cT cJ X T (mm_own (T 0 ((T 3 j).toNatClampNeg)))) (va_cwS 1 hts gX3_blockedBy_X3_isThread rfl rfl rfl (by decide +kernel) ⟨Nat.le_of_ble_eq_true rfl, Nat.le_of_ble_eq_true rfl⟩) hK hP hD hS hA rfl hl.1 rfl (Nat.le_of_ble_eq_true rfl) dX3_blockedBy_71 ⟨Nat.le_of_ble_eq_true rfl, Nat.le_of_ble_eq_true rfl⟩ (fun H locs hP hD hS => ?_)
              cases b_12 : fk_isT (mm_own (T 0 ((T 3 j).toNatClampNeg))) with
              | true =>
                refine W.eq (g2 := F0 m 74 ls [.int 1, .int z]) (by first | rfl | (rw [b_12]; rfl)) ?_
                refine lv_if_eq (tgt := 94) hx hb dX3_blockedBy_74 (by decide) (fun c => absurd c (by decide)) (fun _ => ?_)
                refine lv_iload_n hx hb dX3_blockedBy_77 rfl (lv_at hl 2 rfl) ?_
                refine lv_iload hx hb dX3_blockedBy_78 (lv_at hl 0 rfl) ?_
                refine lv_ishr hx hb dX3_blockedBy_80 ?_
                refine lv_iconst (v := 1) hx hb dX3_blockedBy_81 (by decide) ?_
                refine lv_iand hx hb dX3_blockedBy_82 ?_
                refine lv_iconst (v := 1) hx hb dX3_blockedBy_83 (by decide) ?_
                refine lv_icmp_ne (tgt := 94) hx hb dX3_blockedBy_84 (by decide) (fun c_14 => ?_) (fun c_14 => ?_)
                · refine lv_iconst (v := 0) hx hb dX3_blockedBy_94 (by decide) ?_
                  refine lv_ior hx hb dX3_blockedBy_95 ?_
                  refine lv_istore_n (lv' := [(2, .int (z ||| 0)), (5, .int (mm_own (T 0 ((T 3 j).toNatClampNeg)))), (4, .int (nI j)), (3, .int x), (0, .ref (bd 0)), (1, .int (nI t))]) hx hb dX3_blockedBy_96 rfl hl (by decide) rfl (fun ls hl => ?_)
                  refine lv_iinc (v := (nI (j + 1))) (lv' := [(4, .int (nI (j + 1))), (2, .int (z ||| 0)), (5, .int (mm_own (T 0 ((T 3 j).toNatClampNeg)))), (3, .int x), (0, .ref (bd 0)), (1, .int (nI t))]) hx hb dX3_blockedBy_97 hl (k := 2) rfl (nI_1 j) (by decide) rfl (fun ls hl => ?_)
                  refine lv_goto (tgt := 29) hx hb dX3_blockedBy_100 (by decide) ?_
                  exact ih2 (j + 1) (z ||| 0) (by omega) ((congrArg (fk_lp _ n2 (j + 1)) (show (z ||| 0) = mm_bl1 T j z from by simp [mm_bl1, mm_bow, fk_isT_m1, c_10, b_12, c_14])).trans hR2) _ _ _ hP hD hS (lv_sub hl [0, 1, 3, 4, 5] rfl)
                · refine lv_iconst (v := 1) hx hb dX3_blockedBy_87 (by decide) ?_
                  refine lv_iload hx hb dX3_blockedBy_88 (lv_at hl 1 rfl) ?_
                  refine lv_ishl hx hb dX3_blockedBy_90 ?_
                  refine lv_goto (tgt := 95) hx hb dX3_blockedBy_91 (by decide) ?_
                  refine lv_ior hx hb dX3_blockedBy_95 ?_
                  refine lv_istore_n (lv' := [(2, .int (z ||| (1 <<< ((nI j) &&& 31)))), (5, .int (mm_own (T 0 ((T 3 j).toNatClampNeg)))), (4, .int (nI j)), (3, .int x), (0, .ref (bd 0)), (1, .int (nI t))]) hx hb dX3_blockedBy_96 rfl hl (by decide) rfl (fun ls hl => ?_)
                  refine lv_iinc (v := (nI (j + 1))) (lv' := [(4, .int (nI (j + 1))), (2, .int (z ||| (1 <<< ((nI j) &&& 31)))), (5, .int (mm_own (T 0 ((T 3 j).toNatClampNeg)))), (3, .int x), (0, .ref (bd 0)), (1, .int (nI t))]) hx hb dX3_blockedBy_97 hl (k := 2) rfl (nI_1 j) (by decide) rfl (fun ls hl => ?_)
                  refine lv_goto (tgt := 29) hx hb dX3_blockedBy_100 (by decide) ?_
                  exact ih2 (j + 1) (z ||| (1 <<< ((nI j) &&& 31))) (by omega) ((congrArg (fk_lp _ n2 (j + 1)) (show (z ||| (1 <<< ((nI j) &&& 31))) = mm_bl1 T j z from by simp [mm_bl1, mm_bow, fk_isT_m1, c_10, b_12, c_14])).trans hR2) _ _ _ hP hD hS (lv_sub hl [0, 1, 3, 4, 5] rfl)
              | false =>
                refine W.eq (g2 := F0 m 74 ls [.int 0, .int z]) (by first | rfl | (rw [b_12]; rfl)) ?_
                refine lv_if_eq (tgt := 94) hx hb dX3_blockedBy_74 (by decide) (fun _ => ?_) (fun c => absurd c (by decide))
                refine lv_iconst (v := 0) hx hb dX3_blockedBy_94 (by decide) ?_
                refine lv_ior hx hb dX3_blockedBy_95 ?_
                refine lv_istore_n (lv' := [(2, .int (z ||| 0)), (5, .int (mm_own (T 0 ((T 3 j).toNatClampNeg)))), (4, .int (nI j)), (3, .int x), (0, .ref (bd 0)), (1, .int (nI t))]) hx hb dX3_blockedBy_96 rfl hl (by decide) rfl (fun ls hl => ?_)
                refine lv_iinc (v := (nI (j + 1))) (lv' := [(4, .int (nI (j + 1))), (2, .int (z ||| 0)), (5, .int (mm_own (T 0 ((T 3 j).toNatClampNeg)))), (3, .int x), (0, .ref (bd 0)), (1, .int (nI t))]) hx hb dX3_blockedBy_97 hl (k := 2) rfl (nI_1 j) (by decide) rfl (fun ls hl => ?_)
                refine lv_goto (tgt := 29) hx hb dX3_blockedBy_100 (by decide) ?_
                exact ih2 (j + 1) (z ||| 0) (by omega) ((congrArg (fk_lp _ n2 (j + 1)) (show (z ||| 0) = mm_bl1 T j z from by simp [mm_bl1, mm_bow, fk_isT_m1, c_10, b_12])).trans hR2) _ _ _ hP hD hS (lv_sub hl [0, 1, 3, 4, 5] rfl)
        exact inner 8 0 x rfl rfl _ _ _ hP hD hS (lv_sub hl [0, 2, 1, 3, 4] rfl)
  exact loop 9 (kk_bit t) 0 hB0 rfl _ _ _ hP hD hS (lv_sub hl [0, 1, 2, 3] rfl)

set_option maxHeartbeats 4000000 in
set_option maxRecDepth 100000 in
theorem mn_blockedBy (l : Launch) (D : va_G) (bd : Nat → Nat) (cI cT cJ : ClassId) (X : va_W) (S : fk_S) (th : Int32) (h : fk_isT th = false) : fk_C l D (fk_ty cI cT cJ) yX3_blockedBy wsX3_blockedBy rmX3_blockedBy [.ref (bd 0), .int th] (fk_mW bd cI S ++ X) (some (.int 0)) (fk_mW bd cI (fk_up S 12 4 1) ++ X) := by
  refine fk_C_of (cc := cX3_blockedBy) (maxL := 6) (ret := (some .int)) (own := RX3) (by decide) rfl rfl (Nat.le_of_ble_eq_true rfl) ?_
  intro p e s m below meth c A ls hx hb hr hlocks hml hts hown hA hP hK hD hl
  have hS : va_S A s.heap s.heap [] := va_S.rf
  have hl : lv_has ls 6 [(0, .ref (bd 0)), (1, .int th)] := hl
  refine lv_aload_n hx hb dX3_blockedBy_0 rfl (lv_at hl 0 rfl) ?_
  refine lv_iload_n hx hb dX3_blockedBy_1 rfl (lv_at hl 1 rfl) ?_
  refine fk_callS (As := [.int th]) (rest := [.ref (bd 0)]) ⟨hx, hb, hml, hown, hts⟩ (by have h9 := (mc_isThread l D bd cI cT cJ X S th); rw [h] at h9; exact h9) (va_cwS 1 hts gX3_blockedBy_X3_isThread rfl rfl rfl (by decide +kernel) ⟨Nat.le_of_ble_eq_true rfl, Nat.le_of_ble_eq_true rfl⟩) hK hP hD hS hA rfl hl.1 rfl (Nat.le_of_ble_eq_true rfl) dX3_blockedBy_2 ⟨Nat.le_of_ble_eq_true rfl, Nat.le_of_ble_eq_true rfl⟩ (fun H locs hP hD hS => ?_)
  refine W.eq (g2 := F0 m 5 ls [.int 0, .ref (bd 0)]) rfl ?_
  refine fk_callV (As := [.int 0]) (rest := []) ⟨hx, hb, hml, hown, hts⟩ (mc_asks_f l D bd cI cT cJ X S) (cwV 1 hts gX3_blockedBy_X3_asks rfl rfl rfl (by decide +kernel) ⟨Nat.le_of_ble_eq_true rfl, Nat.le_of_ble_eq_true rfl⟩) (fk_rvM hK hP) hK hP hD hS hA rfl hl.1 rfl (Nat.le_of_ble_eq_true rfl) dX3_blockedBy_5 ⟨Nat.le_of_ble_eq_true rfl, Nat.le_of_ble_eq_true rfl⟩ (fun H locs hP hD hS => ?_)
  refine W.eq (g2 := F0 m 8 ls [.int 0]) rfl ?_
  refine lv_if_ne (tgt := 13) hx hb dX3_blockedBy_8 (by decide) (fun c => absurd c (by decide)) (fun _ => ?_)
  refine lv_iconst (v := 0) hx hb dX3_blockedBy_11 (by decide) ?_
  exact fk_iret hx hb hr hlocks hP hK hD hS (congrArg (fun z => fk_mW bd cI z ++ X) (by rfl)) (by rfl) dX3_blockedBy_12
