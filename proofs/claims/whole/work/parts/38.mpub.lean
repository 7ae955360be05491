theorem fk_isT_m1 : fk_isT (-1) = false := rfl
theorem mm_leave_1s (S : fk_S) (t : Nat) (w : Int32) : mm_leave S t w 1 t = w := by
  unfold mm_leave
  split
  · rw [fk_up_f (by decide), fk_up_s]
  · rw [fk_up_s]
def mp_lockR (S : fk_S) (t a : Nat) : Int32 :=
  if mm_own (S 0 a) = -1 then (if S 0 a &&& 1073741824 = 0 then 0 else 1) else if mm_own (S 0 a) = nI t then 3
  else if fk_isT (mm_own (S 0 a)) = true then (if S 1 (mm_own (S 0 a)).toNatClampNeg = 3 then 4 else if mm_dead S t 8 (mm_own (S 0 a)) false = true then 3 else 2) else 4

abbrev rmX3_lock : Room := { frames := 3, cells := 0, slots := 0, locals := 68 }
set_option maxHeartbeats 4000000 in
set_option maxRecDepth 100000 in
theorem mc_lock (l : Launch) (D : va_G) (bd : Nat → Nat) (cI cT cJ : ClassId) (X : va_W) (S : fk_S) (t : Nat) (ht : t < 8) (a : Nat) (ha : a < 16) (to : Int32) (hr0 : S 1 t = 0) (hm0 : mm_tmo to = true) (hat : fk_at S) (hls : fk_ls S) : fk_C l D (fk_ty cI cT cJ) yX3_lock wsX3_lock rmX3_lock [.ref (bd 0), .int (nI t), .int (nI a), .int to] (fk_mW bd cI S ++ X) (some (.int (mm_lockR (fk_up S 12 4 0) t a))) (fk_mW bd cI (mm_lock (fk_up S 12 4 0) t a to) ++ X) := by
  refine fk_C_of (cc := cX3_lock) (maxL := 6) (ret := (some .int)) (own := RX3) (by decide) rfl rfl (Nat.le_of_ble_eq_true rfl) ?_
  intro p e s m below meth c A ls hx hb hr hlocks hml hts hown hA hP hK hD hl
  have hS : va_S A s.heap s.heap [] := va_S.rf
  have hl : lv_has ls 6 [(0, .ref (bd 0)), (1, .int (nI t)), (2, .int (nI a)), (3, .int to)] := hl
  have hiX3 : ∀ w ∈ u_ws RX3 TX3 17, w ∈ wsX3_lock := by decide +kernel
  refine lv_aload_n hx hb dX3_lock_0 rfl (lv_at hl 0 rfl) ?_
  refine lv_iload_n hx hb dX3_lock_1 rfl (lv_at hl 1 rfl) ?_
  refine lv_iload_n hx hb dX3_lock_2 rfl (lv_at hl 2 rfl) ?_
  refine lv_iload_n hx hb dX3_lock_3 rfl (lv_at hl 3 rfl) ?_
  refine fk_callS (As := [.int to]) (rest := [.int (nI a), .int (nI t), .ref (bd 0)]) ⟨hx, hb, hml, hown, hts⟩ (by have h9 := (mc_isTimeout l D bd cI cT cJ X S to); rw [hm0] at h9; exact h9) (va_cwS 1 hts gX3_lock_X3_isTimeout rfl rfl rfl (by decide +kernel) ⟨Nat.le_of_ble_eq_true rfl, Nat.le_of_ble_eq_true rfl⟩) hK hP hD hS hA rfl hl.1 rfl (Nat.le_of_ble_eq_true rfl) dX3_lock_4 ⟨Nat.le_of_ble_eq_true rfl, Nat.le_of_ble_eq_true rfl⟩ (fun H locs hP hD hS => ?_)
  refine W.eq (g2 := F0 m 7 ls [.int 1, .int (nI a), .int (nI t), .ref (bd 0)]) rfl ?_
  refine lv_iconst (v := 3) hx hb dX3_lock_7 (by decide) ?_
  refine fk_callV (As := [.int (nI t), .int (nI a), .int 1, .int 3]) (rest := []) ⟨hx, hb, hml, hown, hts⟩ (mc_ar_ok l D bd cI cT cJ X S (nI t) (nI a) true 3 (mm_code_ok ht ha hr0)) (cwV 4 hts gX3_lock_X3_asksRunning rfl rfl rfl (by decide +kernel) ⟨Nat.le_of_ble_eq_true rfl, Nat.le_of_ble_eq_true rfl⟩) (fk_rvM hK hP) hK hP hD hS hA rfl hl.1 rfl (Nat.le_of_ble_eq_true rfl) dX3_lock_8 ⟨Nat.le_of_ble_eq_true rfl, Nat.le_of_ble_eq_true rfl⟩ (fun H locs hP hD hS => ?_)
  refine W.eq (g2 := F0 m 11 ls [.int 1]) rfl ?_
  refine lv_if_ne (tgt := 16) hx hb dX3_lock_11 (by decide) (fun _ => ?_) (fun c => absurd c (by decide))
  obtain ⟨T, hT⟩ : ∃ z, z = (fk_up S 12 4 0) := ⟨_, rfl⟩
  have hP : va_P D vwCl (fk_mW bd cI T ++ X) H := by rw [hT]; exact hP
  have hD : va_D A (fk_mW bd cI T ++ X) := by rw [hT]; exact hD
  have hat : fk_at T := by rw [hT]; exact hat
  have hls : fk_ls T := by rw [hT]; exact fk_ls_up (by decide) (by decide) hls
  refine lv_aload_n hx hb dX3_lock_16 rfl (lv_at hl 0 rfl) ?_
  refine fk_getM hx hb hts hiX3 hown hK hP 0 (by decide) (v := .ref (bd 1)) rfl (List.mem_of_getElem? (i := 1) rfl) rfl dX3_lock_17 ?_
  refine lv_iload_n hx hb dX3_lock_20 rfl (lv_at hl 2 rfl) ?_
  refine fk_ldN hx hb hK hP 0 0 16 rfl (by decide) rfl rfl (vp_in_nI (show a < 16 from ha) (by decide)) dX3_lock_21 ?_
  refine W.eq (g2 := F0 m 22 ls [.int (T 0 a)]) (by rw [nI_clamp (by omega)]) ?_
  refine fk_callS (As := [.int (T 0 a)]) (rest := []) ⟨hx, hb, hml, hown, hts⟩ (mc_ownerOf l D bd cI cT cJ X T (T 0 a)) (va_cwS 1 hts gX3_lock_X3_ownerOf rfl rfl rfl (by decide +kernel) ⟨Nat.le_of_ble_eq_true rfl, Nat.le_of_ble_eq_true rfl⟩) hK hP hD hS hA rfl hl.1 rfl (Nat.le_of_ble_eq_true rfl) dX3_lock_22 ⟨Nat.le_of_ble_eq_true rfl, Nat.le_of_ble_eq_true rfl⟩ (fun H locs hP hD hS => ?_)
  refine W.eq (g2 := F0 m 25 ls [.int (mm_own (T 0 a))]) rfl ?_
  refine lv_istore (lv' := [(4, .int (mm_own (T 0 a))), (0, .ref (bd 0)), (1, .int (nI t)), (2, .int (nI a)), (3, .int to)]) hx hb dX3_lock_25 hl (by decide) rfl (fun ls hl => ?_)
  refine lv_iload hx hb dX3_lock_27 (lv_at hl 0 rfl) ?_
  refine lv_iconst (v := (-1)) hx hb dX3_lock_29 (by decide) ?_
  refine lv_icmp_ne (tgt := 88) hx hb dX3_lock_30 (by decide) (fun c_2 => ?_) (fun c_2 => ?_)
  · refine lv_iload hx hb dX3_lock_88 (lv_at hl 0 rfl) ?_
    refine lv_iload_n hx hb dX3_lock_90 rfl (lv_at hl 2 rfl) ?_
    refine lv_icmp_ne (tgt := 96) hx hb dX3_lock_91 (by decide) (fun c_3 => ?_) (fun c_3 => ?_)
    · refine lv_iload hx hb dX3_lock_96 (lv_at hl 0 rfl) ?_
      refine fk_callS (As := [.int (mm_own (T 0 a))]) (rest := []) ⟨hx, hb, hml, hown, hts⟩ (mc_isThread l D bd cI cT cJ X T (mm_own (T 0 a))) (va_cwS 1 hts gX3_lock_X3_isThread rfl rfl rfl (by decide +kernel) ⟨Nat.le_of_ble_eq_true rfl, Nat.le_of_ble_eq_true rfl⟩) hK hP hD hS hA rfl hl.1 rfl (Nat.le_of_ble_eq_true rfl) dX3_lock_98 ⟨Nat.le_of_ble_eq_true rfl, Nat.le_of_ble_eq_true rfl⟩ (fun H locs hP hD hS => ?_)
      cases b_4 : fk_isT (mm_own (T 0 a)) with
      | true =>
        refine W.eq (g2 := F0 m 101 ls [.int 1]) (by first | rfl | (rw [b_4]; rfl)) ?_
        refine lv_if_eq (tgt := 115) hx hb dX3_lock_101 (by decide) (fun c => absurd c (by decide)) (fun _ => ?_)
        refine lv_aload_n hx hb dX3_lock_104 rfl (lv_at hl 1 rfl) ?_
        refine fk_getM hx hb hts hiX3 hown hK hP 1 (by decide) (v := .ref (bd 2)) rfl (List.mem_of_getElem? (i := 4) rfl) rfl dX3_lock_105 ?_
        refine lv_iload hx hb dX3_lock_108 (lv_at hl 0 rfl) ?_
        refine fk_ldN hx hb hK hP 1 1 8 rfl (by decide) rfl rfl (fk_isT_in b_4) dX3_lock_110 ?_
        refine lv_iconst (v := 3) hx hb dX3_lock_111 (by decide) ?_
        refine lv_icmp_ne (tgt := 117) hx hb dX3_lock_112 (by decide) (fun c_6 => ?_) (fun c_6 => ?_)
        · refine lv_aload_n hx hb dX3_lock_117 rfl (lv_at hl 1 rfl) ?_
          refine lv_iload_n hx hb dX3_lock_118 rfl (lv_at hl 2 rfl) ?_
          refine lv_iload hx hb dX3_lock_119 (lv_at hl 0 rfl) ?_
          refine fk_callV (As := [.int (nI t), .int (mm_own (T 0 a))]) (rest := []) ⟨hx, hb, hml, hown, hts⟩ (mc_isDeadlock l D bd cI cT cJ X T t (mm_own (T 0 a)) ht hat) (cwV 2 hts gX3_lock_X3_isDeadlock rfl rfl rfl (by decide +kernel) ⟨Nat.le_of_ble_eq_true rfl, Nat.le_of_ble_eq_true rfl⟩) (fk_rvM hK hP) hK hP hD hS hA rfl hl.1 rfl (Nat.le_of_ble_eq_true rfl) dX3_lock_121 ⟨Nat.le_of_ble_eq_true rfl, Nat.le_of_ble_eq_true rfl⟩ (fun H locs hP hD hS => ?_)
          cases b_7 : mm_dead T t 8 (mm_own (T 0 a)) false with
          | true =>
            refine W.eq (g2 := F0 m 124 ls [.int 1]) (by first | rfl | (rw [b_7]; rfl)) ?_
            refine lv_if_eq (tgt := 129) hx hb dX3_lock_124 (by decide) (fun c => absurd c (by decide)) (fun _ => ?_)
            refine lv_iconst (v := 3) hx hb dX3_lock_127 (by decide) ?_
            exact fk_iret hx hb hr hlocks hP hK hD hS (congrArg (fun z => fk_mW bd cI z ++ X) (by rw [← hT]; first | rfl | (simp [mm_lock, mm_word, fk_nI_m1 (show t < 2 ^ 31 by omega), c_2, c_3, b_4, c_6, b_7]; done))) (by rw [← hT]; first | rfl | (simp [mm_lockR, mm_word, fk_nI_m1 (show t < 2 ^ 31 by omega), c_2, c_3, b_4, c_6, b_7]; done)) dX3_lock_128
          | false =>
            refine W.eq (g2 := F0 m 124 ls [.int 0]) (by first | rfl | (rw [b_7]; rfl)) ?_
            refine lv_if_eq (tgt := 129) hx hb dX3_lock_124 (by decide) (fun _ => ?_) (fun c => absurd c (by decide))
            refine lv_aload_n hx hb dX3_lock_129 rfl (lv_at hl 1 rfl) ?_
            refine fk_getM hx hb hts hiX3 hown hK hP 0 (by decide) (v := .ref (bd 1)) rfl (List.mem_of_getElem? (i := 1) rfl) rfl dX3_lock_130 ?_
            refine lv_iload_n hx hb dX3_lock_133 rfl (lv_at hl 3 rfl) ?_
            refine lv_dup2_11 hx hb dX3_lock_134 rfl rfl ?_
            refine fk_ldN hx hb hK hP 0 0 16 rfl (by decide) rfl rfl (vp_in_nI (show a < 16 from ha) (by decide)) dX3_lock_135 ?_
            refine W.eq (g2 := F0 m 136 ls [.int (T 0 a), .int (nI a), .ref (bd 1)]) (by rw [nI_clamp (by omega)]) ?_
            refine lv_ldc (own := RX3) (v := (-2147483648)) hx hb hown (hts (.constant RX3 121 (-2147483648)) (List.mem_of_getElem? (i := 3) rfl)) dX3_lock_136 ?_
            refine lv_ior hx hb dX3_lock_138 ?_
            refine fk_stN hx hb hK hP hD hS 0 0 16 rfl (by decide) rfl rfl (vp_in_nI (show a < 16 from ha) (by decide)) dX3_lock_139 (fun H locs hP hD hS => ?_)
            rw [show ((nI a)).toNatClampNeg = a from nI_clamp (n := a) (by omega)] at hP hD
            refine lv_aload_n hx hb dX3_lock_140 rfl (lv_at hl 1 rfl) ?_
            refine lv_iload_n hx hb dX3_lock_141 rfl (lv_at hl 2 rfl) ?_
            refine lv_iload_n hx hb dX3_lock_142 rfl (lv_at hl 3 rfl) ?_
            refine lv_iconst (v := 2) hx hb dX3_lock_143 (by decide) ?_
            refine lv_sipush (v := 255) hx hb dX3_lock_144 (by decide) ?_
            refine lv_iload_n hx hb dX3_lock_147 rfl (lv_at hl 4 rfl) ?_
            refine fk_callV (As := [.int (nI t), .int (nI a), .int 2, .int 255, .int to]) (rest := []) ⟨hx, hb, hml, hown, hts⟩ (mc_waits l D bd cI cT cJ X (fk_up T 0 a ((T 0 a) ||| (-2147483648))) t (nI a) 2 255 to ht) (cwV 5 hts gX3_lock_X3_waits rfl rfl rfl (by decide +kernel) ⟨Nat.le_of_ble_eq_true rfl, Nat.le_of_ble_eq_true rfl⟩) (fk_rvM hK hP) hK hP hD hS hA rfl hl.1 rfl (Nat.le_of_ble_eq_true rfl) dX3_lock_148 ⟨Nat.le_of_ble_eq_true rfl, Nat.le_of_ble_eq_true rfl⟩ (fun H locs hP hD hS => ?_)
            refine W.eq (g2 := F0 m 151 ls []) rfl ?_
            refine lv_iconst (v := 2) hx hb dX3_lock_151 (by decide) ?_
            exact fk_iret hx hb hr hlocks hP hK hD hS (congrArg (fun z => fk_mW bd cI z ++ X) (by rw [← hT]; first | rfl | (simp [mm_lock, mm_word, fk_nI_m1 (show t < 2 ^ 31 by omega), c_2, c_3, b_4, c_6, b_7]; done))) (by rw [← hT]; first | rfl | (simp [mm_lockR, mm_word, fk_nI_m1 (show t < 2 ^ 31 by omega), c_2, c_3, b_4, c_6, b_7]; done)) dX3_lock_152
        · refine lv_iconst (v := 4) hx hb dX3_lock_115 (by decide) ?_
          exact fk_iret hx hb hr hlocks hP hK hD hS (congrArg (fun z => fk_mW bd cI z ++ X) (by rw [← hT]; first | rfl | (simp [mm_lock, mm_word, fk_nI_m1 (show t < 2 ^ 31 by omega), c_2, c_3, b_4, c_6]; done))) (by rw [← hT]; first | rfl | (simp [mm_lockR, mm_word, fk_nI_m1 (show t < 2 ^ 31 by omega), c_2, c_3, b_4, c_6]; done)) dX3_lock_116
      | false =>
        refine W.eq (g2 := F0 m 101 ls [.int 0]) (by first | rfl | (rw [b_4]; rfl)) ?_
        refine lv_if_eq (tgt := 115) hx hb dX3_lock_101 (by decide) (fun _ => ?_) (fun c => absurd c (by decide))
        refine lv_iconst (v := 4) hx hb dX3_lock_115 (by decide) ?_
        exact fk_iret hx hb hr hlocks hP hK hD hS (congrArg (fun z => fk_mW bd cI z ++ X) (by rw [← hT]; first | rfl | (simp [mm_lock, mm_word, fk_nI_m1 (show t < 2 ^ 31 by omega), c_2, c_3, b_4]; done))) (by rw [← hT]; first | rfl | (simp [mm_lockR, mm_word, fk_nI_m1 (show t < 2 ^ 31 by omega), c_2, c_3, b_4]; done)) dX3_lock_116
    · refine lv_iconst (v := 3) hx hb dX3_lock_94 (by decide) ?_
      exact fk_iret hx hb hr hlocks hP hK hD hS (congrArg (fun z => fk_mW bd cI z ++ X) (by rw [← hT]; first | rfl | (simp [mm_lock, mm_word, fk_nI_m1 (show t < 2 ^ 31 by omega), c_2, c_3]; done))) (by rw [← hT]; first | rfl | (simp [mm_lockR, mm_word, fk_nI_m1 (show t < 2 ^ 31 by omega), c_2, c_3]; done)) dX3_lock_95
  · refine lv_aload_n hx hb dX3_lock_33 rfl (lv_at hl 1 rfl) ?_
    refine fk_getM hx hb hts hiX3 hown hK hP 0 (by decide) (v := .ref (bd 1)) rfl (List.mem_of_getElem? (i := 1) rfl) rfl dX3_lock_34 ?_
    refine lv_iload_n hx hb dX3_lock_37 rfl (lv_at hl 3 rfl) ?_
    refine fk_ldN hx hb hK hP 0 0 16 rfl (by decide) rfl rfl (vp_in_nI (show a < 16 from ha) (by decide)) dX3_lock_38 ?_
    refine W.eq (g2 := F0 m 39 ls [.int (T 0 a)]) (by rw [nI_clamp (by omega)]) ?_
    refine lv_ldc (own := RX3) (v := 1073741824) hx hb hown (hts (.constant RX3 120 (1073741824)) (List.mem_of_getElem? (i := 2) rfl)) dX3_lock_39 ?_
    refine lv_iand hx hb dX3_lock_41 ?_
    refine lv_istore (lv' := [(5, .int ((T 0 a) &&& 1073741824)), (4, .int (mm_own (T 0 a))), (0, .ref (bd 0)), (1, .int (nI t)), (2, .int (nI a)), (3, .int to)]) hx hb dX3_lock_42 hl (by decide) rfl (fun ls hl => ?_)
    refine lv_aload_n hx hb dX3_lock_44 rfl (lv_at hl 2 rfl) ?_
    refine fk_getM hx hb hts hiX3 hown hK hP 0 (by decide) (v := .ref (bd 1)) rfl (List.mem_of_getElem? (i := 1) rfl) rfl dX3_lock_45 ?_
    refine lv_iload_n hx hb dX3_lock_48 rfl (lv_at hl 4 rfl) ?_
    refine lv_iload_n hx hb dX3_lock_49 rfl (lv_at hl 3 rfl) ?_
    refine lv_iconst (v := 1) hx hb dX3_lock_50 (by decide) ?_
    refine lv_iadd hx hb dX3_lock_51 ?_
    refine W.eq (g2 := F0 m 52 ls [.int (nI (t + 1)), .int (nI a), .ref (bd 1)]) (by rw [nI_1]) ?_
    refine lv_iload hx hb dX3_lock_52 (lv_at hl 0 rfl) ?_
    refine lv_ior hx hb dX3_lock_54 ?_
    refine lv_aload_n hx hb dX3_lock_55 rfl (lv_at hl 2 rfl) ?_
    refine lv_iload_n hx hb dX3_lock_56 rfl (lv_at hl 4 rfl) ?_
    refine fk_callV (As := [.int (nI a)]) (rest := [.int ((nI (t + 1)) ||| ((T 0 a) &&& 1073741824)), .int (nI a), .ref (bd 1)]) ⟨hx, hb, hml, hown, hts⟩ (mc_isSomebodyLocking l D bd cI cT cJ X T (nI a)) (cwV 1 hts gX3_lock_X3_isSomebodyLocking rfl rfl rfl (by decide +kernel) ⟨Nat.le_of_ble_eq_true rfl, Nat.le_of_ble_eq_true rfl⟩) (fk_rvM hK hP) hK hP hD hS hA rfl hl.1 rfl (Nat.le_of_ble_eq_true rfl) dX3_lock_57 ⟨Nat.le_of_ble_eq_true rfl, Nat.le_of_ble_eq_true rfl⟩ (fun H locs hP hD hS => ?_)
    rcases o_11 : mm_lk T (nI a) with _ | u12
    · refine W.eq (g2 := F0 m 60 ls [.int 0, .int ((nI (t + 1)) ||| ((T 0 a) &&& 1073741824)), .int (nI a), .ref (bd 1)]) (by first | rfl | (rw [o_11]; rfl)) ?_
      refine lv_if_eq (tgt := 68) hx hb dX3_lock_60 (by decide) (fun _ => ?_) (fun c => absurd c (by decide))
      refine lv_iconst (v := 0) hx hb dX3_lock_68 (by decide) ?_
      refine lv_ior hx hb dX3_lock_69 ?_
      refine fk_stN hx hb hK hP hD hS 0 0 16 rfl (by decide) rfl rfl (vp_in_nI (show a < 16 from ha) (by decide)) dX3_lock_70 (fun H locs hP hD hS => ?_)
      rw [show ((nI a)).toNatClampNeg = a from nI_clamp (n := a) (by omega)] at hP hD
      refine lv_aload_n hx hb dX3_lock_71 rfl (lv_at hl 2 rfl) ?_
      refine lv_iload_n hx hb dX3_lock_72 rfl (lv_at hl 3 rfl) ?_
      refine lv_iload_n hx hb dX3_lock_73 rfl (lv_at hl 4 rfl) ?_
      refine fk_callV (As := [.int (nI t), .int (nI a)]) (rest := []) ⟨hx, hb, hml, hown, hts⟩ (mc_gets l D bd cI cT cJ X (fk_up T 0 a (((nI (t + 1)) ||| ((T 0 a) &&& 1073741824)) ||| 0)) t (nI a) ht (fk_ls_up (by decide) (by decide) hls) (vp_in_nI (show a < 16 from ha) (by decide))) (cwV 2 hts gX3_lock_X3_gets rfl rfl rfl (by decide +kernel) ⟨Nat.le_of_ble_eq_true rfl, Nat.le_of_ble_eq_true rfl⟩) (fk_rvM hK hP) hK hP hD hS hA rfl hl.1 rfl (Nat.le_of_ble_eq_true rfl) dX3_lock_74 ⟨Nat.le_of_ble_eq_true rfl, Nat.le_of_ble_eq_true rfl⟩ (fun H locs hP hD hS => ?_)
      refine W.eq (g2 := F0 m 77 ls []) rfl ?_
      refine lv_iload hx hb dX3_lock_77 (lv_at hl 0 rfl) ?_
      refine lv_if_ne (tgt := 86) hx hb dX3_lock_79 (by decide) (fun c_14 => ?_) (fun c_14 => ?_)
      · refine lv_iconst (v := 1) hx hb dX3_lock_86 (by decide) ?_
        exact fk_iret hx hb hr hlocks hP hK hD hS (congrArg (fun z => fk_mW bd cI z ++ X) (by rw [← hT]; first | rfl | (simp [mm_lock, mm_word, fk_nI_m1 (show t < 2 ^ 31 by omega), c_2, o_11, c_14]; done))) (by rw [← hT]; first | rfl | (simp [mm_lockR, mm_word, fk_nI_m1 (show t < 2 ^ 31 by omega), c_2, o_11, c_14]; done)) dX3_lock_87
      · refine lv_iconst (v := 0) hx hb dX3_lock_82 (by decide) ?_
        refine lv_goto (tgt := 87) hx hb dX3_lock_83 (by decide) ?_
        exact fk_iret hx hb hr hlocks hP hK hD hS (congrArg (fun z => fk_mW bd cI z ++ X) (by rw [← hT]; first | rfl | (simp [mm_lock, mm_word, fk_nI_m1 (show t < 2 ^ 31 by omega), c_2, o_11, c_14]; done))) (by rw [← hT]; first | rfl | (simp [mm_lockR, mm_word, fk_nI_m1 (show t < 2 ^ 31 by omega), c_2, o_11, c_14]; done)) dX3_lock_87
    · refine W.eq (g2 := F0 m 60 ls [.int 1, .int ((nI (t + 1)) ||| ((T 0 a) &&& 1073741824)), .int (nI a), .ref (bd 1)]) (by first | rfl | (rw [o_11]; rfl)) ?_
      refine lv_if_eq (tgt := 68) hx hb dX3_lock_60 (by decide) (fun c => absurd c (by decide)) (fun _ => ?_)
      refine lv_ldc (own := RX3) (v := (-2147483648)) hx hb hown (hts (.constant RX3 121 (-2147483648)) (List.mem_of_getElem? (i := 3) rfl)) dX3_lock_63 ?_
      refine lv_goto (tgt := 69) hx hb dX3_lock_65 (by decide) ?_
      refine lv_ior hx hb dX3_lock_69 ?_
      refine fk_stN hx hb hK hP hD hS 0 0 16 rfl (by decide) rfl rfl (vp_in_nI (show a < 16 from ha) (by decide)) dX3_lock_70 (fun H locs hP hD hS => ?_)
      rw [show ((nI a)).toNatClampNeg = a from nI_clamp (n := a) (by omega)] at hP hD
      refine lv_aload_n hx hb dX3_lock_71 rfl (lv_at hl 2 rfl) ?_
      refine lv_iload_n hx hb dX3_lock_72 rfl (lv_at hl 3 rfl) ?_
      refine lv_iload_n hx hb dX3_lock_73 rfl (lv_at hl 4 rfl) ?_
      refine fk_callV (As := [.int (nI t), .int (nI a)]) (rest := []) ⟨hx, hb, hml, hown, hts⟩ (mc_gets l D bd cI cT cJ X (fk_up T 0 a (((nI (t + 1)) ||| ((T 0 a) &&& 1073741824)) ||| (-2147483648))) t (nI a) ht (fk_ls_up (by decide) (by decide) hls) (vp_in_nI (show a < 16 from ha) (by decide))) (cwV 2 hts gX3_lock_X3_gets rfl rfl rfl (by decide +kernel) ⟨Nat.le_of_ble_eq_true rfl, Nat.le_of_ble_eq_true rfl⟩) (fk_rvM hK hP) hK hP hD hS hA rfl hl.1 rfl (Nat.le_of_ble_eq_true rfl) dX3_lock_74 ⟨Nat.le_of_ble_eq_true rfl, Nat.le_of_ble_eq_true rfl⟩ (fun H locs hP hD hS => ?_)
      refine W.eq (g2 := F0 m 77 ls []) rfl ?_
      refine lv_iload hx hb dX3_lock_77 (lv_at hl 0 rfl) ?_
      refine lv_if_ne (tgt := 86) hx hb dX3_lock_79 (by decide) (fun c_16 => ?_) (fun c_16 => ?_)
      · refine lv_iconst (v := 1) hx hb dX3_lock_86 (by decide) ?_
        exact fk_iret hx hb hr hlocks hP hK hD hS (congrArg (fun z => fk_mW bd cI z ++ X) (by rw [← hT]; first | rfl | (simp [mm_lock, mm_word, fk_nI_m1 (show t < 2 ^ 31 by omega), c_2, o_11, c_16]; done))) (by rw [← hT]; first | rfl | (simp [mm_lockR, mm_word, fk_nI_m1 (show t < 2 ^ 31 by omega), c_2, o_11, c_16]; done)) dX3_lock_87
      · refine lv_iconst (v := 0) hx hb dX3_lock_82 (by decide) ?_
        refine lv_goto (tgt := 87) hx hb dX3_lock_83 (by decide) ?_
        exact fk_iret hx hb hr hlocks hP hK hD hS (congrArg (fun z => fk_mW bd cI z ++ X) (by rw [← hT]; first | rfl | (simp [mm_lock, mm_word, fk_nI_m1 (show t < 2 ^ 31 by omega), c_2, o_11, c_16]; done))) (by rw [← hT]; first | rfl | (simp [mm_lockR, mm_word, fk_nI_m1 (show t < 2 ^ 31 by omega), c_2, o_11, c_16]; done)) dX3_lock_87

set_option maxHeartbeats 4000000 in
set_option maxRecDepth 100000 in
theorem mn_lock (l : Launch) (D : va_G) (bd : Nat → Nat) (cI cT cJ : ClassId) (X : va_W) (S : fk_S) (th av to : Int32) (v9 : Int32) (h : mm_code S th av (mm_tmo to) 3 = v9) (hv9 : ¬ v9 = 0) : fk_C l D (fk_ty cI cT cJ) yX3_lock wsX3_lock rmX3_lock [.ref (bd 0), .int th, .int av, .int to] (fk_mW bd cI S ++ X) (some (.int 0)) (fk_mW bd cI (fk_up S 12 4 v9) ++ X) := by
  refine fk_C_of (cc := cX3_lock) (maxL := 6) (ret := (some .int)) (own := RX3) (by decide) rfl rfl (Nat.le_of_ble_eq_true rfl) ?_
  intro p e s m below meth c A ls hx hb hr hlocks hml hts hown hA hP hK hD hl
  have hS : va_S A s.heap s.heap [] := va_S.rf
  have hl : lv_has ls 6 [(0, .ref (bd 0)), (1, .int th), (2, .int av), (3, .int to)] := hl
  refine lv_aload_n hx hb dX3_lock_0 rfl (lv_at hl 0 rfl) ?_
  refine lv_iload_n hx hb dX3_lock_1 rfl (lv_at hl 1 rfl) ?_
  refine lv_iload_n hx hb dX3_lock_2 rfl (lv_at hl 2 rfl) ?_
  refine lv_iload_n hx hb dX3_lock_3 rfl (lv_at hl 3 rfl) ?_
  refine fk_callS (As := [.int to]) (rest := [.int av, .int th, .ref (bd 0)]) ⟨hx, hb, hml, hown, hts⟩ (mc_isTimeout l D bd cI cT cJ X S to) (va_cwS 1 hts gX3_lock_X3_isTimeout rfl rfl rfl (by decide +kernel) ⟨Nat.le_of_ble_eq_true rfl, Nat.le_of_ble_eq_true rfl⟩) hK hP hD hS hA rfl hl.1 rfl (Nat.le_of_ble_eq_true rfl) dX3_lock_4 ⟨Nat.le_of_ble_eq_true rfl, Nat.le_of_ble_eq_true rfl⟩ (fun H locs hP hD hS => ?_)
  cases b_1 : mm_tmo to with
  | true =>
    refine W.eq (g2 := F0 m 7 ls [.int 1, .int av, .int th, .ref (bd 0)]) (by first | rfl | (rw [b_1]; rfl)) ?_
    refine lv_iconst (v := 3) hx hb dX3_lock_7 (by decide) ?_
    refine fk_callV (As := [.int th, .int av, .int 1, .int 3]) (rest := []) ⟨hx, hb, hml, hown, hts⟩ (mc_ar_no l D bd cI cT cJ X S th av true 3 v9 (by simpa [b_1] using h) hv9) (cwV 4 hts gX3_lock_X3_asksRunning rfl rfl rfl (by decide +kernel) ⟨Nat.le_of_ble_eq_true rfl, Nat.le_of_ble_eq_true rfl⟩) (fk_rvM hK hP) hK hP hD hS hA rfl hl.1 rfl (Nat.le_of_ble_eq_true rfl) dX3_lock_8 ⟨Nat.le_of_ble_eq_true rfl, Nat.le_of_ble_eq_true rfl⟩ (fun H locs hP hD hS => ?_)
    refine W.eq (g2 := F0 m 11 ls [.int 0]) rfl ?_
    refine lv_if_ne (tgt := 16) hx hb dX3_lock_11 (by decide) (fun c => absurd c (by decide)) (fun _ => ?_)
    refine lv_iconst (v := 0) hx hb dX3_lock_14 (by decide) ?_
    exact fk_iret hx hb hr hlocks hP hK hD hS (congrArg (fun z => fk_mW bd cI z ++ X) (by rfl)) (by rfl) dX3_lock_15
  | false =>
    refine W.eq (g2 := F0 m 7 ls [.int 0, .int av, .int th, .ref (bd 0)]) (by first | rfl | (rw [b_1]; rfl)) ?_
    refine lv_iconst (v := 3) hx hb dX3_lock_7 (by decide) ?_
    refine fk_callV (As := [.int th, .int av, .int 0, .int 3]) (rest := []) ⟨hx, hb, hml, hown, hts⟩ (mc_ar_no l D bd cI cT cJ X S th av false 3 v9 (by simpa [b_1] using h) hv9) (cwV 4 hts gX3_lock_X3_asksRunning rfl rfl rfl (by decide +kernel) ⟨Nat.le_of_ble_eq_true rfl, Nat.le_of_ble_eq_true rfl⟩) (fk_rvM hK hP) hK hP hD hS hA rfl hl.1 rfl (Nat.le_of_ble_eq_true rfl) dX3_lock_8 ⟨Nat.le_of_ble_eq_true rfl, Nat.le_of_ble_eq_true rfl⟩ (fun H locs hP hD hS => ?_)
    refine W.eq (g2 := F0 m 11 ls [.int 0]) rfl ?_
    refine lv_if_ne (tgt := 16) hx hb dX3_lock_11 (by decide) (fun c => absurd c (by decide)) (fun _ => ?_)
    refine lv_iconst (v := 0) hx hb dX3_lock_14 (by decide) ?_
    exact fk_iret hx hb hr hlocks hP hK hD hS (congrArg (fun z => fk_mW bd cI z ++ X) (by rfl)) (by rfl) dX3_lock_15

abbrev rmX3_unlock : Room := { frames := 6, cells := 0, slots := 0, locals := 137 }
set_option maxHeartbeats 4000000 in
set_option maxRecDepth 100000 in
theorem mc_unlock (l : Launch) (D : va_G) (bd : Nat → Nat) (cI cT cJ : ClassId) (X : va_W) (S : fk_S) (t : Nat) (ht : t < 8) (a : Nat) (ha : a < 16) (hr0 : S 1 t = 0) (hls : fk_ls S) (h : mm_own (S 0 a) = nI t) : fk_C l D (fk_ty cI cT cJ) yX3_unlock wsX3_unlock rmX3_unlock [.ref (bd 0), .int (nI t), .int (nI a)] (fk_mW bd cI S ++ X) (some (.int (fk_oI (mm_lk (kk_drop (fk_up S 12 4 0) t (nI a)) (nI a))))) (fk_mW bd cI (mm_pass (kk_drop (fk_up S 12 4 0) t (nI a)) (nI a) false) ++ X) := by
  refine fk_C_of (cc := cX3_unlock) (maxL := 3) (ret := (some .int)) (own := RX3) (by decide) rfl rfl (Nat.le_of_ble_eq_true rfl) ?_
  intro p e s m below meth c A ls hx hb hr hlocks hml hts hown hA hP hK hD hl
  have hS : va_S A s.heap s.heap [] := va_S.rf
  have hl : lv_has ls 3 [(0, .ref (bd 0)), (1, .int (nI t)), (2, .int (nI a))] := hl
  have hiX3 : ∀ w ∈ u_ws RX3 TX3 17, w ∈ wsX3_unlock := by decide +kernel
  refine lv_aload_n hx hb dX3_unlock_0 rfl (lv_at hl 0 rfl) ?_
  refine lv_iload_n hx hb dX3_unlock_1 rfl (lv_at hl 1 rfl) ?_
  refine lv_iload_n hx hb dX3_unlock_2 rfl (lv_at hl 2 rfl) ?_
  refine lv_iconst (v := 1) hx hb dX3_unlock_3 (by decide) ?_
  refine lv_iconst (v := 2) hx hb dX3_unlock_4 (by decide) ?_
  refine fk_callV (As := [.int (nI t), .int (nI a), .int 1, .int 2]) (rest := []) ⟨hx, hb, hml, hown, hts⟩ (mc_ar_ok l D bd cI cT cJ X S (nI t) (nI a) true 2 (mm_code_ok ht ha hr0)) (cwV 4 hts gX3_unlock_X3_asksRunning rfl rfl rfl (by decide +kernel) ⟨Nat.le_of_ble_eq_true rfl, Nat.le_of_ble_eq_true rfl⟩) (fk_rvM hK hP) hK hP hD hS hA rfl hl.1 rfl (Nat.le_of_ble_eq_true rfl) dX3_unlock_5 ⟨Nat.le_of_ble_eq_true rfl, Nat.le_of_ble_eq_true rfl⟩ (fun H locs hP hD hS => ?_)
  refine W.eq (g2 := F0 m 8 ls [.int 1]) rfl ?_
  refine lv_if_ne (tgt := 13) hx hb dX3_unlock_8 (by decide) (fun _ => ?_) (fun c => absurd c (by decide))
  obtain ⟨T, hT⟩ : ∃ z, z = (fk_up S 12 4 0) := ⟨_, rfl⟩
  have hP : va_P D vwCl (fk_mW bd cI T ++ X) H := by rw [hT]; exact hP
  have hD : va_D A (fk_mW bd cI T ++ X) := by rw [hT]; exact hD
  have hls : fk_ls T := by rw [hT]; exact fk_ls_up (by decide) (by decide) hls
  refine lv_aload_n hx hb dX3_unlock_13 rfl (lv_at hl 0 rfl) ?_
  refine fk_getM hx hb hts hiX3 hown hK hP 0 (by decide) (v := .ref (bd 1)) rfl (List.mem_of_getElem? (i := 1) rfl) rfl dX3_unlock_14 ?_
  refine lv_iload_n hx hb dX3_unlock_17 rfl (lv_at hl 2 rfl) ?_
  refine fk_ldN hx hb hK hP 0 0 16 rfl (by decide) rfl rfl (vp_in_nI (show a < 16 from ha) (by decide)) dX3_unlock_18 ?_
  refine W.eq (g2 := F0 m 19 ls [.int (T 0 a)]) (by rw [nI_clamp (by omega)]) ?_
  refine fk_callS (As := [.int (T 0 a)]) (rest := []) ⟨hx, hb, hml, hown, hts⟩ (mc_ownerOf l D bd cI cT cJ X T (T 0 a)) (va_cwS 1 hts gX3_unlock_X3_ownerOf rfl rfl rfl (by decide +kernel) ⟨Nat.le_of_ble_eq_true rfl, Nat.le_of_ble_eq_true rfl⟩) hK hP hD hS hA rfl hl.1 rfl (Nat.le_of_ble_eq_true rfl) dX3_unlock_19 ⟨Nat.le_of_ble_eq_true rfl, Nat.le_of_ble_eq_true rfl⟩ (fun H locs hP hD hS => ?_)
  refine W.eq (g2 := F0 m 22 ls [.int (mm_own (T 0 a))]) rfl ?_
  refine lv_iload_n hx hb dX3_unlock_22 rfl (lv_at hl 1 rfl) ?_
  refine lv_icmp_eq (tgt := 32) hx hb dX3_unlock_23 (by decide) (fun c_2 => ?_) (fun c_2 => absurd (show mm_own (T 0 a) = nI t by rw [hT]; exact h) c_2)
  refine lv_aload_n hx hb dX3_unlock_32 rfl (lv_at hl 0 rfl) ?_
  refine lv_iload_n hx hb dX3_unlock_33 rfl (lv_at hl 1 rfl) ?_
  refine lv_iload_n hx hb dX3_unlock_34 rfl (lv_at hl 2 rfl) ?_
  refine fk_callV (As := [.int (nI t), .int (nI a)]) (rest := []) ⟨hx, hb, hml, hown, hts⟩ (mc_drops l D bd cI cT cJ X T t (nI a) ht hls) (cwV 2 hts gX3_unlock_X3_drops rfl rfl rfl (by decide +kernel) ⟨Nat.le_of_ble_eq_true rfl, Nat.le_of_ble_eq_true rfl⟩) (fk_rvM hK hP) hK hP hD hS hA rfl hl.1 rfl (Nat.le_of_ble_eq_true rfl) dX3_unlock_35 ⟨Nat.le_of_ble_eq_true rfl, Nat.le_of_ble_eq_true rfl⟩ (fun H locs hP hD hS => ?_)
  refine W.eq (g2 := F0 m 38 ls []) rfl ?_
  refine lv_aload_n hx hb dX3_unlock_38 rfl (lv_at hl 0 rfl) ?_
  refine lv_iload_n hx hb dX3_unlock_39 rfl (lv_at hl 2 rfl) ?_
  refine lv_iconst (v := 0) hx hb dX3_unlock_40 (by decide) ?_
  refine fk_callV (As := [.int (nI a), .int 0]) (rest := []) ⟨hx, hb, hml, hown, hts⟩ (mc_passes l D bd cI cT cJ X (kk_drop T t (nI a)) (nI a) false (kk_drop_ls ht hls) (vp_in_nI (show a < 16 from ha) (by decide))) (cwV 2 hts gX3_unlock_X3_passes rfl rfl rfl (by decide +kernel) ⟨Nat.le_of_ble_eq_true rfl, Nat.le_of_ble_eq_true rfl⟩) (fk_rvM hK hP) hK hP hD hS hA rfl hl.1 rfl (Nat.le_of_ble_eq_true rfl) dX3_unlock_41 ⟨Nat.le_of_ble_eq_true rfl, Nat.le_of_ble_eq_true rfl⟩ (fun H locs hP hD hS => ?_)
  refine W.eq (g2 := F0 m 44 ls [.int (fk_oI (mm_lk (kk_drop T t (nI a)) (nI a)))]) rfl ?_
  exact fk_iret hx hb hr hlocks hP hK hD hS (congrArg (fun z => fk_mW bd cI z ++ X) (by rw [← hT])) (by rw [← hT]) dX3_unlock_44

set_option maxHeartbeats 4000000 in
set_option maxRecDepth 100000 in
theorem mn_unlock (l : Launch) (D : va_G) (bd : Nat → Nat) (cI cT cJ : ClassId) (X : va_W) (S : fk_S) (th av : Int32) (v9 : Int32) (h : mm_code S th av true 2 = v9) (hv9 : ¬ v9 = 0) : fk_C l D (fk_ty cI cT cJ) yX3_unlock wsX3_unlock rmX3_unlock [.ref (bd 0), .int th, .int av] (fk_mW bd cI S ++ X) (some (.int 0)) (fk_mW bd cI (fk_up S 12 4 v9) ++ X) := by
  refine fk_C_of (cc := cX3_unlock) (maxL := 3) (ret := (some .int)) (own := RX3) (by decide) rfl rfl (Nat.le_of_ble_eq_true rfl) ?_
  intro p e s m below meth c A ls hx hb hr hlocks hml hts hown hA hP hK hD hl
  have hS : va_S A s.heap s.heap [] := va_S.rf
  have hl : lv_has ls 3 [(0, .ref (bd 0)), (1, .int th), (2, .int av)] := hl
  refine lv_aload_n hx hb dX3_unlock_0 rfl (lv_at hl 0 rfl) ?_
  refine lv_iload_n hx hb dX3_unlock_1 rfl (lv_at hl 1 rfl) ?_
  refine lv_iload_n hx hb dX3_unlock_2 rfl (lv_at hl 2 rfl) ?_
  refine lv_iconst (v := 1) hx hb dX3_unlock_3 (by decide) ?_
  refine lv_iconst (v := 2) hx hb dX3_unlock_4 (by decide) ?_
  refine fk_callV (As := [.int th, .int av, .int 1, .int 2]) (rest := []) ⟨hx, hb, hml, hown, hts⟩ (mc_ar_no l D bd cI cT cJ X S th av true 2 v9 h hv9) (cwV 4 hts gX3_unlock_X3_asksRunning rfl rfl rfl (by decide +kernel) ⟨Nat.le_of_ble_eq_true rfl, Nat.le_of_ble_eq_true rfl⟩) (fk_rvM hK hP) hK hP hD hS hA rfl hl.1 rfl (Nat.le_of_ble_eq_true rfl) dX3_unlock_5 ⟨Nat.le_of_ble_eq_true rfl, Nat.le_of_ble_eq_true rfl⟩ (fun H locs hP hD hS => ?_)
  refine W.eq (g2 := F0 m 8 ls [.int 0]) rfl ?_
  refine lv_if_ne (tgt := 13) hx hb dX3_unlock_8 (by decide) (fun c => absurd c (by decide)) (fun _ => ?_)
  refine lv_iconst (v := 0) hx hb dX3_unlock_11 (by decide) ?_
  exact fk_iret hx hb hr hlocks hP hK hD hS (congrArg (fun z => fk_mW bd cI z ++ X) (by rfl)) (by rfl) dX3_unlock_12

set_option maxHeartbeats 4000000 in
set_option maxRecDepth 100000 in
theorem mn_unlock_2 (l : Launch) (D : va_G) (bd : Nat → Nat) (cI cT cJ : ClassId) (X : va_W) (S : fk_S) (t : Nat) (ht : t < 8) (a : Nat) (ha : a < 16) (hr0 : S 1 t = 0) (h : ¬ mm_own (S 0 a) = nI t) : fk_C l D (fk_ty cI cT cJ) yX3_unlock wsX3_unlock rmX3_unlock [.ref (bd 0), .int (nI t), .int (nI a)] (fk_mW bd cI S ++ X) (some (.int 0)) (fk_mW bd cI (fk_up S 12 4 2) ++ X) := by
  refine fk_C_of (cc := cX3_unlock) (maxL := 3) (ret := (some .int)) (own := RX3) (by decide) rfl rfl (Nat.le_of_ble_eq_true rfl) ?_
  intro p e s m below meth c A ls hx hb hr hlocks hml hts hown hA hP hK hD hl
  have hS : va_S A s.heap s.heap [] := va_S.rf
  have hl : lv_has ls 3 [(0, .ref (bd 0)), (1, .int (nI t)), (2, .int (nI a))] := hl
  have hiX3 : ∀ w ∈ u_ws RX3 TX3 17, w ∈ wsX3_unlock := by decide +kernel
  refine lv_aload_n hx hb dX3_unlock_0 rfl (lv_at hl 0 rfl) ?_
  refine lv_iload_n hx hb dX3_unlock_1 rfl (lv_at hl 1 rfl) ?_
  refine lv_iload_n hx hb dX3_unlock_2 rfl (lv_at hl 2 rfl) ?_
  refine lv_iconst (v := 1) hx hb dX3_unlock_3 (by decide) ?_
  refine lv_iconst (v := 2) hx hb dX3_unlock_4 (by decide) ?_
  refine fk_callV (As := [.int (nI t), .int (nI a), .int 1, .int 2]) (rest := []) ⟨hx, hb, hml, hown, hts⟩ (mc_ar_ok l D bd cI cT cJ X S (nI t) (nI a) true 2 (mm_code_ok ht ha hr0)) (cwV 4 hts gX3_unlock_X3_asksRunning rfl rfl rfl (by decide +kernel) ⟨Nat.le_of_ble_eq_true rfl, Nat.le_of_ble_eq_true rfl⟩) (fk_rvM hK hP) hK hP hD hS hA rfl hl.1 rfl (Nat.le_of_ble_eq_true rfl) dX3_unlock_5 ⟨Nat.le_of_ble_eq_true rfl, Nat.le_of_ble_eq_true rfl⟩ (fun H locs hP hD hS => ?_)
  refine W.eq (g2 := F0 m 8 ls [.int 1]) rfl ?_
  refine lv_if_ne (tgt := 13) hx hb dX3_unlock_8 (by decide) (fun _ => ?_) (fun c => absurd c (by decide))
  refine lv_aload_n hx hb dX3_unlock_13 rfl (lv_at hl 0 rfl) ?_
  refine fk_getM hx hb hts hiX3 hown hK hP 0 (by decide) (v := .ref (bd 1)) rfl (List.mem_of_getElem? (i := 1) rfl) rfl dX3_unlock_14 ?_
  refine lv_iload_n hx hb dX3_unlock_17 rfl (lv_at hl 2 rfl) ?_
  refine fk_ldN hx hb hK hP 0 0 16 rfl (by decide) rfl rfl (vp_in_nI (show a < 16 from ha) (by decide)) dX3_unlock_18 ?_
  refine W.eq (g2 := F0 m 19 ls [.int (S 0 a)]) (by simp [fk_up, mm_set, nI_clamp (n := a) (by omega)]) ?_
  refine fk_callS (As := [.int (S 0 a)]) (rest := []) ⟨hx, hb, hml, hown, hts⟩ (mc_ownerOf l D bd cI cT cJ X (fk_up S 12 4 0) (S 0 a)) (va_cwS 1 hts gX3_unlock_X3_ownerOf rfl rfl rfl (by decide +kernel) ⟨Nat.le_of_ble_eq_true rfl, Nat.le_of_ble_eq_true rfl⟩) hK hP hD hS hA rfl hl.1 rfl (Nat.le_of_ble_eq_true rfl) dX3_unlock_19 ⟨Nat.le_of_ble_eq_true rfl, Nat.le_of_ble_eq_true rfl⟩ (fun H locs hP hD hS => ?_)
  refine W.eq (g2 := F0 m 22 ls [.int (mm_own (S 0 a))]) rfl ?_
  refine lv_iload_n hx hb dX3_unlock_22 rfl (lv_at hl 1 rfl) ?_
  refine lv_icmp_eq (tgt := 32) hx hb dX3_unlock_23 (by decide) (fun c_2 => absurd c_2 h) (fun c_2 => ?_)
  refine lv_aload_n hx hb dX3_unlock_26 rfl (lv_at hl 0 rfl) ?_
  refine lv_iconst (v := 2) hx hb dX3_unlock_27 (by decide) ?_
  refine fk_callV (As := [.int 2]) (rest := []) ⟨hx, hb, hml, hown, hts⟩ (mc_fails l D bd cI cT cJ X (fk_up S 12 4 0) 2) (cwV 1 hts gX3_unlock_X3_fails rfl rfl rfl (by decide +kernel) ⟨Nat.le_of_ble_eq_true rfl, Nat.le_of_ble_eq_true rfl⟩) (fk_rvM hK hP) hK hP hD hS hA rfl hl.1 rfl (Nat.le_of_ble_eq_true rfl) dX3_unlock_28 ⟨Nat.le_of_ble_eq_true rfl, Nat.le_of_ble_eq_true rfl⟩ (fun H locs hP hD hS => ?_)
  refine W.eq (g2 := F0 m 31 ls [.int 0]) rfl ?_
  exact fk_iret hx hb hr hlocks hP hK hD hS (congrArg (fun z => fk_mW bd cI z ++ X) (by exact fk_up_up S 12 4 0 2)) (by rfl) dX3_unlock_31

abbrev rmX3_locks : Room := { frames := 1, cells := 0, slots := 0, locals := 21 }
set_option maxHeartbeats 4000000 in
set_option maxRecDepth 100000 in
theorem mc_locks (l : Launch) (D : va_G) (bd : Nat → Nat) (cI cT cJ : ClassId) (X : va_W) (S : fk_S) (t : Nat) (ht : t < 8) : fk_C l D (fk_ty cI cT cJ) yX3_locks wsX3_locks rmX3_locks [.ref (bd 0), .int (nI t)] (fk_mW bd cI S ++ X) (some (.int (S 10 t))) (fk_mW bd cI (fk_up S 12 4 0) ++ X) := by
  refine fk_C_of (cc := cX3_locks) (maxL := 2) (ret := (some .int)) (own := RX3) (by decide) rfl rfl (Nat.le_of_ble_eq_true rfl) ?_
  intro p e s m below meth c A ls hx hb hr hlocks hml hts hown hA hP hK hD hl
  have hS : va_S A s.heap s.heap [] := va_S.rf
  have hl : lv_has ls 2 [(0, .ref (bd 0)), (1, .int (nI t))] := hl
  have hiX3 : ∀ w ∈ u_ws RX3 TX3 17, w ∈ wsX3_locks := by decide +kernel
  refine lv_aload_n hx hb dX3_locks_0 rfl (lv_at hl 0 rfl) ?_
  refine lv_iload_n hx hb dX3_locks_1 rfl (lv_at hl 1 rfl) ?_
  refine fk_callS (As := [.int (nI t)]) (rest := [.ref (bd 0)]) ⟨hx, hb, hml, hown, hts⟩ (by have h9 := (mc_isThread l D bd cI cT cJ X S (nI t)); rw [fk_isT_nI (by omega)] at h9; exact h9) (va_cwS 1 hts gX3_locks_X3_isThread rfl rfl rfl (by decide +kernel) ⟨Nat.le_of_ble_eq_true rfl, Nat.le_of_ble_eq_true rfl⟩) hK hP hD hS hA rfl hl.1 rfl (Nat.le_of_ble_eq_true rfl) dX3_locks_2 ⟨Nat.le_of_ble_eq_true rfl, Nat.le_of_ble_eq_true rfl⟩ (fun H locs hP hD hS => ?_)
  refine W.eq (g2 := F0 m 5 ls [.int 1, .ref (bd 0)]) rfl ?_
  refine fk_callV (As := [.int 1]) (rest := []) ⟨hx, hb, hml, hown, hts⟩ (mc_asks_t l D bd cI cT cJ X S) (cwV 1 hts gX3_locks_X3_asks rfl rfl rfl (by decide +kernel) ⟨Nat.le_of_ble_eq_true rfl, Nat.le_of_ble_eq_true rfl⟩) (fk_rvM hK hP) hK hP hD hS hA rfl hl.1 rfl (Nat.le_of_ble_eq_true rfl) dX3_locks_5 ⟨Nat.le_of_ble_eq_true rfl, Nat.le_of_ble_eq_true rfl⟩ (fun H locs hP hD hS => ?_)
  refine W.eq (g2 := F0 m 8 ls [.int 1]) rfl ?_
  refine lv_if_eq (tgt := 20) hx hb dX3_locks_8 (by decide) (fun c => absurd c (by decide)) (fun _ => ?_)
  refine lv_aload_n hx hb dX3_locks_11 rfl (lv_at hl 0 rfl) ?_
  refine fk_getM hx hb hts hiX3 hown hK hP 10 (by decide) (v := .ref (bd 11)) rfl (List.mem_of_getElem? (i := 1) rfl) rfl dX3_locks_12 ?_
  refine lv_iload_n hx hb dX3_locks_15 rfl (lv_at hl 1 rfl) ?_
  refine fk_ldN hx hb hK hP 10 10 8 rfl (by decide) rfl rfl (vp_in_nI (show t < 8 from (by omega)) (by decide)) dX3_locks_16 ?_
  refine W.eq (g2 := F0 m 17 ls [.int (S 10 t)]) (by simp [fk_up, mm_set, nI_clamp (n := t) (by omega)]) ?_
  refine lv_goto (tgt := 21) hx hb dX3_locks_17 (by decide) ?_
  exact fk_iret hx hb hr hlocks hP hK hD hS (congrArg (fun z => fk_mW bd cI z ++ X) (by rfl)) (by rfl) dX3_locks_21

set_option maxHeartbeats 4000000 in
set_option maxRecDepth 100000 in
theorem mn_locks (l : Launch) (D : va_G) (bd : Nat → Nat) (cI cT cJ : ClassId) (X : va_W) (S : fk_S) (th : Int32) (h : fk_isT th = false) : fk_C l D (fk_ty cI cT cJ) yX3_locks wsX3_locks rmX3_locks [.ref (bd 0), .int th] (fk_mW bd cI S ++ X) (some (.int 0)) (fk_mW bd cI (fk_up S 12 4 1) ++ X) := by
  refine fk_C_of (cc := cX3_locks) (maxL := 2) (ret := (some .int)) (own := RX3) (by decide) rfl rfl (Nat.le_of_ble_eq_true rfl) ?_
  intro p e s m below meth c A ls hx hb hr hlocks hml hts hown hA hP hK hD hl
  have hS : va_S A s.heap s.heap [] := va_S.rf
  have hl : lv_has ls 2 [(0, .ref (bd 0)), (1, .int th)] := hl
  refine lv_aload_n hx hb dX3_locks_0 rfl (lv_at hl 0 rfl) ?_
  refine lv_iload_n hx hb dX3_locks_1 rfl (lv_at hl 1 rfl) ?_
  refine fk_callS (As := [.int th]) (rest := [.ref (bd 0)]) ⟨hx, hb, hml, hown, hts⟩ (by have h9 := (mc_isThread l D bd cI cT cJ X S th); rw [h] at h9; exact h9) (va_cwS 1 hts gX3_locks_X3_isThread rfl rfl rfl (by decide +kernel) ⟨Nat.le_of_ble_eq_true rfl, Nat.le_of_ble_eq_true rfl⟩) hK hP hD hS hA rfl hl.1 rfl (Nat.le_of_ble_eq_true rfl) dX3_locks_2 ⟨Nat.le_of_ble_eq_true rfl, Nat.le_of_ble_eq_true rfl⟩ (fun H locs hP hD hS => ?_)
  refine W.eq (g2 := F0 m 5 ls [.int 0, .ref (bd 0)]) rfl ?_
  refine fk_callV (As := [.int 0]) (rest := []) ⟨hx, hb, hml, hown, hts⟩ (mc_asks_f l D bd cI cT cJ X S) (cwV 1 hts gX3_locks_X3_asks rfl rfl rfl (by decide +kernel) ⟨Nat.le_of_ble_eq_true rfl, Nat.le_of_ble_eq_true rfl⟩) (fk_rvM hK hP) hK hP hD hS hA rfl hl.1 rfl (Nat.le_of_ble_eq_true rfl) dX3_locks_5 ⟨Nat.le_of_ble_eq_true rfl, Nat.le_of_ble_eq_true rfl⟩ (fun H locs hP hD hS => ?_)
  refine W.eq (g2 := F0 m 8 ls [.int 0]) rfl ?_
  refine lv_if_eq (tgt := 20) hx hb dX3_locks_8 (by decide) (fun _ => ?_) (fun c => absurd c (by decide))
  refine lv_iconst (v := 0) hx hb dX3_locks_20 (by decide) ?_
  exact fk_iret hx hb hr hlocks hP hK hD hS (congrArg (fun z => fk_mW bd cI z ++ X) (by rfl)) (by rfl) dX3_locks_21

abbrev rmX3_lockAt : Room := { frames := 1, cells := 0, slots := 0, locals := 21 }
set_option maxHeartbeats 4000000 in
set_option maxRecDepth 100000 in
theorem mc_lockAt (l : Launch) (D : va_G) (bd : Nat → Nat) (cI cT cJ : ClassId) (X : va_W) (S : fk_S) (t : Nat) (ht : t < 8) (j k : Nat) (hk : k ≤ 16) (hs : S 10 t = nI k) (hj : j < k) : fk_C l D (fk_ty cI cT cJ) yX3_lockAt wsX3_lockAt rmX3_lockAt [.ref (bd 0), .int (nI t), .int (nI j)] (fk_mW bd cI S ++ X) (some (.int (S 11 (16 * t + j)))) (fk_mW bd cI (fk_up S 12 4 0) ++ X) := by
  refine fk_C_of (cc := cX3_lockAt) (maxL := 3) (ret := (some .int)) (own := RX3) (by decide) rfl rfl (Nat.le_of_ble_eq_true rfl) ?_
  intro p e s m below meth c A ls hx hb hr hlocks hml hts hown hA hP hK hD hl
  have hS : va_S A s.heap s.heap [] := va_S.rf
  have hl : lv_has ls 3 [(0, .ref (bd 0)), (1, .int (nI t)), (2, .int (nI j))] := hl
  have hiX3 : ∀ w ∈ u_ws RX3 TX3 17, w ∈ wsX3_lockAt := by decide +kernel
  refine lv_aload_n hx hb dX3_lockAt_0 rfl (lv_at hl 0 rfl) ?_
  refine lv_iload_n hx hb dX3_lockAt_1 rfl (lv_at hl 1 rfl) ?_
  refine fk_callS (As := [.int (nI t)]) (rest := [.ref (bd 0)]) ⟨hx, hb, hml, hown, hts⟩ (by have h9 := (mc_isThread l D bd cI cT cJ X S (nI t)); rw [fk_isT_nI (by omega)] at h9; exact h9) (va_cwS 1 hts gX3_lockAt_X3_isThread rfl rfl rfl (by decide +kernel) ⟨Nat.le_of_ble_eq_true rfl, Nat.le_of_ble_eq_true rfl⟩) hK hP hD hS hA rfl hl.1 rfl (Nat.le_of_ble_eq_true rfl) dX3_lockAt_2 ⟨Nat.le_of_ble_eq_true rfl, Nat.le_of_ble_eq_true rfl⟩ (fun H locs hP hD hS => ?_)
  refine W.eq (g2 := F0 m 5 ls [.int 1, .ref (bd 0)]) rfl ?_
  refine lv_if_eq (tgt := 26) hx hb dX3_lockAt_5 (by decide) (fun c => absurd c (by decide)) (fun _ => ?_)
  refine lv_iload_n hx hb dX3_lockAt_8 rfl (lv_at hl 2 rfl) ?_
  refine lv_if_lt (tgt := 26) hx hb dX3_lockAt_9 (by decide) (fun c_2 => absurd c_2 (nI_pos (by omega))) (fun c_2 => ?_)
  refine lv_iload_n hx hb dX3_lockAt_12 rfl (lv_at hl 2 rfl) ?_
  refine lv_aload_n hx hb dX3_lockAt_13 rfl (lv_at hl 0 rfl) ?_
  refine fk_getM hx hb hts hiX3 hown hK hP 10 (by decide) (v := .ref (bd 11)) rfl (List.mem_of_getElem? (i := 1) rfl) rfl dX3_lockAt_14 ?_
  refine lv_iload_n hx hb dX3_lockAt_17 rfl (lv_at hl 1 rfl) ?_
  refine fk_ldN hx hb hK hP 10 10 8 rfl (by decide) rfl rfl (vp_in_nI (show t < 8 from (by omega)) (by decide)) dX3_lockAt_18 ?_
  refine W.eq (g2 := F0 m 19 ls [.int (S 10 t), .int (nI j), .ref (bd 0)]) (by rw [nI_clamp (by omega)]) ?_
  refine W.eq (g2 := F0 m 19 ls [.int (nI k), .int (nI j), .ref (bd 0)]) (by rw [hs]) ?_
  refine lv_icmp_ge (tgt := 26) hx hb dX3_lockAt_19 (by decide) (fun c_3 => absurd c_3 (nI_ge (a := j) (b := k) (by omega) (by omega))) (fun c_3 => ?_)
  refine lv_iconst (v := 1) hx hb dX3_lockAt_22 (by decide) ?_
  refine lv_goto (tgt := 27) hx hb dX3_lockAt_23 (by decide) ?_
  refine fk_callV (As := [.int 1]) (rest := []) ⟨hx, hb, hml, hown, hts⟩ (mc_asks_t l D bd cI cT cJ X S) (cwV 1 hts gX3_lockAt_X3_asks rfl rfl rfl (by decide +kernel) ⟨Nat.le_of_ble_eq_true rfl, Nat.le_of_ble_eq_true rfl⟩) (fk_rvM hK hP) hK hP hD hS hA rfl hl.1 rfl (Nat.le_of_ble_eq_true rfl) dX3_lockAt_27 ⟨Nat.le_of_ble_eq_true rfl, Nat.le_of_ble_eq_true rfl⟩ (fun H locs hP hD hS => ?_)
  refine W.eq (g2 := F0 m 30 ls [.int 1]) rfl ?_
  refine lv_if_eq (tgt := 47) hx hb dX3_lockAt_30 (by decide) (fun c => absurd c (by decide)) (fun _ => ?_)
  refine lv_aload_n hx hb dX3_lockAt_33 rfl (lv_at hl 0 rfl) ?_
  refine fk_getM hx hb hts hiX3 hown hK hP 11 (by decide) (v := .ref (bd 12)) rfl (List.mem_of_getElem? (i := 2) rfl) rfl dX3_lockAt_34 ?_
  refine lv_bipush (v := 16) hx hb dX3_lockAt_37 (by decide) ?_
  refine lv_iload_n hx hb dX3_lockAt_39 rfl (lv_at hl 1 rfl) ?_
  refine lv_imul hx hb dX3_lockAt_40 ?_
  refine W.eq (g2 := F0 m 41 ls [.int (nI (16 * t)), .ref (bd 12)]) (by rw [show (16 : Int32) = nI 16 from rfl, pk_mul]) ?_
  refine lv_iload_n hx hb dX3_lockAt_41 rfl (lv_at hl 2 rfl) ?_
  refine lv_iadd hx hb dX3_lockAt_42 ?_
  refine W.eq (g2 := F0 m 43 ls [.int (nI (16 * t + j)), .ref (bd 12)]) (by rw [nI_add]) ?_
  refine fk_ldN hx hb hK hP 11 11 128 rfl (by decide) rfl rfl (vp_in_nI (show 16 * t + j < 128 from (by omega)) (by decide)) dX3_lockAt_43 ?_
  refine W.eq (g2 := F0 m 44 ls [.int (S 11 (16 * t + j))]) (by simp [fk_up, mm_set, nI_clamp (n := (16 * t + j)) (by omega)]) ?_
  refine lv_goto (tgt := 48) hx hb dX3_lockAt_44 (by decide) ?_
  exact fk_iret hx hb hr hlocks hP hK hD hS (congrArg (fun z => fk_mW bd cI z ++ X) (by rfl)) (by rfl) dX3_lockAt_48

set_option maxHeartbeats 4000000 in
set_option maxRecDepth 100000 in
theorem mn_lockAt (l : Launch) (D : va_G) (bd : Nat → Nat) (cI cT cJ : ClassId) (X : va_W) (S : fk_S) (th q : Int32) (h : ¬ (fk_isT th = true ∧ 0 ≤ q ∧ q < S 10 th.toNatClampNeg)) : fk_C l D (fk_ty cI cT cJ) yX3_lockAt wsX3_lockAt rmX3_lockAt [.ref (bd 0), .int th, .int q] (fk_mW bd cI S ++ X) (some (.int 0)) (fk_mW bd cI (fk_up S 12 4 1) ++ X) := by
  refine fk_C_of (cc := cX3_lockAt) (maxL := 3) (ret := (some .int)) (own := RX3) (by decide) rfl rfl (Nat.le_of_ble_eq_true rfl) ?_
  intro p e s m below meth c A ls hx hb hr hlocks hml hts hown hA hP hK hD hl
  have hS : va_S A s.heap s.heap [] := va_S.rf
  have hl : lv_has ls 3 [(0, .ref (bd 0)), (1, .int th), (2, .int q)] := hl
  have hiX3 : ∀ w ∈ u_ws RX3 TX3 17, w ∈ wsX3_lockAt := by decide +kernel
  refine lv_aload_n hx hb dX3_lockAt_0 rfl (lv_at hl 0 rfl) ?_
  refine lv_iload_n hx hb dX3_lockAt_1 rfl (lv_at hl 1 rfl) ?_
  refine fk_callS (As := [.int th]) (rest := [.ref (bd 0)]) ⟨hx, hb, hml, hown, hts⟩ (mc_isThread l D bd cI cT cJ X S th) (va_cwS 1 hts gX3_lockAt_X3_isThread rfl rfl rfl (by decide +kernel) ⟨Nat.le_of_ble_eq_true rfl, Nat.le_of_ble_eq_true rfl⟩) hK hP hD hS hA rfl hl.1 rfl (Nat.le_of_ble_eq_true rfl) dX3_lockAt_2 ⟨Nat.le_of_ble_eq_true rfl, Nat.le_of_ble_eq_true rfl⟩ (fun H locs hP hD hS => ?_)
  cases b_1 : fk_isT th with
  | true =>
    refine W.eq (g2 := F0 m 5 ls [.int 1, .ref (bd 0)]) (by first | rfl | (rw [b_1]; rfl)) ?_
    refine lv_if_eq (tgt := 26) hx hb dX3_lockAt_5 (by decide) (fun c => absurd c (by decide)) (fun _ => ?_)
    refine lv_iload_n hx hb dX3_lockAt_8 rfl (lv_at hl 2 rfl) ?_
    refine lv_if_lt (tgt := 26) hx hb dX3_lockAt_9 (by decide) (fun c_3 => ?_) (fun c_3 => ?_)
    · refine lv_iconst (v := 0) hx hb dX3_lockAt_26 (by decide) ?_
      refine fk_callV (As := [.int 0]) (rest := []) ⟨hx, hb, hml, hown, hts⟩ (mc_asks_f l D bd cI cT cJ X S) (cwV 1 hts gX3_lockAt_X3_asks rfl rfl rfl (by decide +kernel) ⟨Nat.le_of_ble_eq_true rfl, Nat.le_of_ble_eq_true rfl⟩) (fk_rvM hK hP) hK hP hD hS hA rfl hl.1 rfl (Nat.le_of_ble_eq_true rfl) dX3_lockAt_27 ⟨Nat.le_of_ble_eq_true rfl, Nat.le_of_ble_eq_true rfl⟩ (fun H locs hP hD hS => ?_)
      refine W.eq (g2 := F0 m 30 ls [.int 0]) rfl ?_
      refine lv_if_eq (tgt := 47) hx hb dX3_lockAt_30 (by decide) (fun _ => ?_) (fun c => absurd c (by decide))
      refine lv_iconst (v := 0) hx hb dX3_lockAt_47 (by decide) ?_
      exact fk_iret hx hb hr hlocks hP hK hD hS (congrArg (fun z => fk_mW bd cI z ++ X) (by rfl)) (by rfl) dX3_lockAt_48
    · refine lv_iload_n hx hb dX3_lockAt_12 rfl (lv_at hl 2 rfl) ?_
      refine lv_aload_n hx hb dX3_lockAt_13 rfl (lv_at hl 0 rfl) ?_
      refine fk_getM hx hb hts hiX3 hown hK hP 10 (by decide) (v := .ref (bd 11)) rfl (List.mem_of_getElem? (i := 1) rfl) rfl dX3_lockAt_14 ?_
      refine lv_iload_n hx hb dX3_lockAt_17 rfl (lv_at hl 1 rfl) ?_
      refine fk_ldN hx hb hK hP 10 10 8 rfl (by decide) rfl rfl (fk_isT_in b_1) dX3_lockAt_18 ?_
      refine lv_icmp_ge (tgt := 26) hx hb dX3_lockAt_19 (by decide) (fun c_5 => ?_) (fun c_5 => ?_)
      · refine lv_iconst (v := 0) hx hb dX3_lockAt_26 (by decide) ?_
        refine fk_callV (As := [.int 0]) (rest := []) ⟨hx, hb, hml, hown, hts⟩ (mc_asks_f l D bd cI cT cJ X S) (cwV 1 hts gX3_lockAt_X3_asks rfl rfl rfl (by decide +kernel) ⟨Nat.le_of_ble_eq_true rfl, Nat.le_of_ble_eq_true rfl⟩) (fk_rvM hK hP) hK hP hD hS hA rfl hl.1 rfl (Nat.le_of_ble_eq_true rfl) dX3_lockAt_27 ⟨Nat.le_of_ble_eq_true rfl, Nat.le_of_ble_eq_true rfl⟩ (fun H locs hP hD hS => ?_)
        refine W.eq (g2 := F0 m 30 ls [.int 0]) rfl ?_
        refine lv_if_eq (tgt := 47) hx hb dX3_lockAt_30 (by decide) (fun _ => ?_) (fun c => absurd c (by decide))
        refine lv_iconst (v := 0) hx hb dX3_lockAt_47 (by decide) ?_
        exact fk_iret hx hb hr hlocks hP hK hD hS (congrArg (fun z => fk_mW bd cI z ++ X) (by rfl)) (by rfl) dX3_lockAt_48
      · refine lv_iconst (v := 1) hx hb dX3_lockAt_22 (by decide) ?_
        refine lv_goto (tgt := 27) hx hb dX3_lockAt_23 (by decide) ?_
        exact absurd h (by simp [b_1, c_3, Int32.not_lt.mp c_3, c_5, Int32.not_le.mp c_5])
  | false =>
    refine W.eq (g2 := F0 m 5 ls [.int 0, .ref (bd 0)]) (by first | rfl | (rw [b_1]; rfl)) ?_
    refine lv_if_eq (tgt := 26) hx hb dX3_lockAt_5 (by decide) (fun _ => ?_) (fun c => absurd c (by decide))
    refine lv_iconst (v := 0) hx hb dX3_lockAt_26 (by decide) ?_
    refine fk_callV (As := [.int 0]) (rest := []) ⟨hx, hb, hml, hown, hts⟩ (mc_asks_f l D bd cI cT cJ X S) (cwV 1 hts gX3_lockAt_X3_asks rfl rfl rfl (by decide +kernel) ⟨Nat.le_of_ble_eq_true rfl, Nat.le_of_ble_eq_true rfl⟩) (fk_rvM hK hP) hK hP hD hS hA rfl hl.1 rfl (Nat.le_of_ble_eq_true rfl) dX3_lockAt_27 ⟨Nat.le_of_ble_eq_true rfl, Nat.le_of_ble_eq_true rfl⟩ (fun H locs hP hD hS => ?_)
    refine W.eq (g2 := F0 m 30 ls [.int 0]) rfl ?_
    refine lv_if_eq (tgt := 47) hx hb dX3_lockAt_30 (by decide) (fun _ => ?_) (fun c => absurd c (by decide))
    refine lv_iconst (v := 0) hx hb dX3_lockAt_47 (by decide) ?_
    exact fk_iret hx hb hr hlocks hP hK hD hS (congrArg (fun z => fk_mW bd cI z ++ X) (by rfl)) (by rfl) dX3_lockAt_48

abbrev rmX3_interrupt : Room := { frames := 5, cells := 0, slots := 0, locals := 113 }
set_option maxHeartbeats 4000000 in
set_option maxRecDepth 100000 in
theorem mc_interrupt (l : Launch) (D : va_G) (bd : Nat → Nat) (cI cT cJ : ClassId) (X : va_W) (S : fk_S) (t : Nat) (ht : t < 8) (hat : fk_at S) (h : mm_q S t = true) : fk_C l D (fk_ty cI cT cJ) yX3_interrupt wsX3_interrupt rmX3_interrupt [.ref (bd 0), .int (nI t)] (fk_mW bd cI S ++ X) none (fk_mW bd cI (mm_end (fk_up S 12 4 0) t 2) ++ X) := by
  refine fk_C_of (cc := cX3_interrupt) (maxL := 2) (ret := none) (own := RX3) (by decide) rfl rfl (Nat.le_of_ble_eq_true rfl) ?_
  intro p e s m below meth c A ls hx hb hr hlocks hml hts hown hA hP hK hD hl
  have hS : va_S A s.heap s.heap [] := va_S.rf
  have hl : lv_has ls 2 [(0, .ref (bd 0)), (1, .int (nI t))] := hl
  refine lv_aload_n hx hb dX3_interrupt_0 rfl (lv_at hl 0 rfl) ?_
  refine lv_iload_n hx hb dX3_interrupt_1 rfl (lv_at hl 1 rfl) ?_
  refine fk_callS (As := [.int (nI t)]) (rest := [.ref (bd 0)]) ⟨hx, hb, hml, hown, hts⟩ (by have h9 := (mc_isThread l D bd cI cT cJ X S (nI t)); rw [fk_isT_nI (by omega)] at h9; exact h9) (va_cwS 1 hts gX3_interrupt_X3_isThread rfl rfl rfl (by decide +kernel) ⟨Nat.le_of_ble_eq_true rfl, Nat.le_of_ble_eq_true rfl⟩) hK hP hD hS hA rfl hl.1 rfl (Nat.le_of_ble_eq_true rfl) dX3_interrupt_2 ⟨Nat.le_of_ble_eq_true rfl, Nat.le_of_ble_eq_true rfl⟩ (fun H locs hP hD hS => ?_)
  refine W.eq (g2 := F0 m 5 ls [.int 1, .ref (bd 0)]) rfl ?_
  refine fk_callV (As := [.int 1]) (rest := []) ⟨hx, hb, hml, hown, hts⟩ (mc_asks_t l D bd cI cT cJ X S) (cwV 1 hts gX3_interrupt_X3_asks rfl rfl rfl (by decide +kernel) ⟨Nat.le_of_ble_eq_true rfl, Nat.le_of_ble_eq_true rfl⟩) (fk_rvM hK hP) hK hP hD hS hA rfl hl.1 rfl (Nat.le_of_ble_eq_true rfl) dX3_interrupt_5 ⟨Nat.le_of_ble_eq_true rfl, Nat.le_of_ble_eq_true rfl⟩ (fun H locs hP hD hS => ?_)
  refine W.eq (g2 := F0 m 8 ls [.int 1]) rfl ?_
  refine lv_if_ne (tgt := 12) hx hb dX3_interrupt_8 (by decide) (fun _ => ?_) (fun c => absurd c (by decide))
  refine lv_aload_n hx hb dX3_interrupt_12 rfl (lv_at hl 0 rfl) ?_
  refine lv_iload_n hx hb dX3_interrupt_13 rfl (lv_at hl 1 rfl) ?_
  refine fk_callV (As := [.int (nI t)]) (rest := []) ⟨hx, hb, hml, hown, hts⟩ (by have h9 := (mc_isQueued l D bd cI cT cJ X (fk_up S 12 4 0) t ht); rw [(show mm_q (fk_up S 12 4 0) t = true from h)] at h9; exact h9) (cwV 1 hts gX3_interrupt_X3_isQueued rfl rfl rfl (by decide +kernel) ⟨Nat.le_of_ble_eq_true rfl, Nat.le_of_ble_eq_true rfl⟩) (fk_rvM hK hP) hK hP hD hS hA rfl hl.1 rfl (Nat.le_of_ble_eq_true rfl) dX3_interrupt_14 ⟨Nat.le_of_ble_eq_true rfl, Nat.le_of_ble_eq_true rfl⟩ (fun H locs hP hD hS => ?_)
  refine W.eq (g2 := F0 m 17 ls [.int 1]) rfl ?_
  refine lv_if_ne (tgt := 26) hx hb dX3_interrupt_17 (by decide) (fun _ => ?_) (fun c => absurd c (by decide))
  refine lv_aload_n hx hb dX3_interrupt_26 rfl (lv_at hl 0 rfl) ?_
  refine lv_iload_n hx hb dX3_interrupt_27 rfl (lv_at hl 1 rfl) ?_
  refine lv_iconst (v := 2) hx hb dX3_interrupt_28 (by decide) ?_
  refine fk_callV (As := [.int (nI t), .int 2]) (rest := []) ⟨hx, hb, hml, hown, hts⟩ (mc_ends l D bd cI cT cJ X (fk_up S 12 4 0) t 2 ht (fun h9 => hat t ht h9)) (cwV 2 hts gX3_interrupt_X3_ends rfl rfl rfl (by decide +kernel) ⟨Nat.le_of_ble_eq_true rfl, Nat.le_of_ble_eq_true rfl⟩) (fk_rvM hK hP) hK hP hD hS hA rfl hl.1 rfl (Nat.le_of_ble_eq_true rfl) dX3_interrupt_29 ⟨Nat.le_of_ble_eq_true rfl, Nat.le_of_ble_eq_true rfl⟩ (fun H locs hP hD hS => ?_)
  refine W.eq (g2 := F0 m 32 ls []) rfl ?_
  exact fk_vret hx hb hr hlocks hP hK hD hS (congrArg (fun z => fk_mW bd cI z ++ X) (by rfl)) (by rfl) dX3_interrupt_32

set_option maxHeartbeats 4000000 in
set_option maxRecDepth 100000 in
theorem mn_interrupt_1 (l : Launch) (D : va_G) (bd : Nat → Nat) (cI cT cJ : ClassId) (X : va_W) (S : fk_S) (th : Int32) (h : fk_isT th = false) : fk_C l D (fk_ty cI cT cJ) yX3_interrupt wsX3_interrupt rmX3_interrupt [.ref (bd 0), .int th] (fk_mW bd cI S ++ X) none (fk_mW bd cI (fk_up S 12 4 1) ++ X) := by
  refine fk_C_of (cc := cX3_interrupt) (maxL := 2) (ret := none) (own := RX3) (by decide) rfl rfl (Nat.le_of_ble_eq_true rfl) ?_
  intro p e s m below meth c A ls hx hb hr hlocks hml hts hown hA hP hK hD hl
  have hS : va_S A s.heap s.heap [] := va_S.rf
  have hl : lv_has ls 2 [(0, .ref (bd 0)), (1, .int th)] := hl
  refine lv_aload_n hx hb dX3_interrupt_0 rfl (lv_at hl 0 rfl) ?_
  refine lv_iload_n hx hb dX3_interrupt_1 rfl (lv_at hl 1 rfl) ?_
  refine fk_callS (As := [.int th]) (rest := [.ref (bd 0)]) ⟨hx, hb, hml, hown, hts⟩ (by have h9 := (mc_isThread l D bd cI cT cJ X S th); rw [h] at h9; exact h9) (va_cwS 1 hts gX3_interrupt_X3_isThread rfl rfl rfl (by decide +kernel) ⟨Nat.le_of_ble_eq_true rfl, Nat.le_of_ble_eq_true rfl⟩) hK hP hD hS hA rfl hl.1 rfl (Nat.le_of_ble_eq_true rfl) dX3_interrupt_2 ⟨Nat.le_of_ble_eq_true rfl, Nat.le_of_ble_eq_true rfl⟩ (fun H locs hP hD hS => ?_)
  refine W.eq (g2 := F0 m 5 ls [.int 0, .ref (bd 0)]) rfl ?_
  refine fk_callV (As := [.int 0]) (rest := []) ⟨hx, hb, hml, hown, hts⟩ (mc_asks_f l D bd cI cT cJ X S) (cwV 1 hts gX3_interrupt_X3_asks rfl rfl rfl (by decide +kernel) ⟨Nat.le_of_ble_eq_true rfl, Nat.le_of_ble_eq_true rfl⟩) (fk_rvM hK hP) hK hP hD hS hA rfl hl.1 rfl (Nat.le_of_ble_eq_true rfl) dX3_interrupt_5 ⟨Nat.le_of_ble_eq_true rfl, Nat.le_of_ble_eq_true rfl⟩ (fun H locs hP hD hS => ?_)
  refine W.eq (g2 := F0 m 8 ls [.int 0]) rfl ?_
  refine lv_if_ne (tgt := 12) hx hb dX3_interrupt_8 (by decide) (fun c => absurd c (by decide)) (fun _ => ?_)
  exact fk_vret hx hb hr hlocks hP hK hD hS (congrArg (fun z => fk_mW bd cI z ++ X) (by rfl)) (by rfl) dX3_interrupt_11

set_option maxHeartbeats 4000000 in
set_option maxRecDepth 100000 in
theorem mn_interrupt_2 (l : Launch) (D : va_G) (bd : Nat → Nat) (cI cT cJ : ClassId) (X : va_W) (S : fk_S) (t : Nat) (ht : t < 8) (h : mm_q S t = false) : fk_C l D (fk_ty cI cT cJ) yX3_interrupt wsX3_interrupt rmX3_interrupt [.ref (bd 0), .int (nI t)] (fk_mW bd cI S ++ X) none (fk_mW bd cI (fk_up S 12 4 2) ++ X) := by
  refine fk_C_of (cc := cX3_interrupt) (maxL := 2) (ret := none) (own := RX3) (by decide) rfl rfl (Nat.le_of_ble_eq_true rfl) ?_
  intro p e s m below meth c A ls hx hb hr hlocks hml hts hown hA hP hK hD hl
  have hS : va_S A s.heap s.heap [] := va_S.rf
  have hl : lv_has ls 2 [(0, .ref (bd 0)), (1, .int (nI t))] := hl
  have hiX3 : ∀ w ∈ u_ws RX3 TX3 17, w ∈ wsX3_interrupt := by decide +kernel
  refine lv_aload_n hx hb dX3_interrupt_0 rfl (lv_at hl 0 rfl) ?_
  refine lv_iload_n hx hb dX3_interrupt_1 rfl (lv_at hl 1 rfl) ?_
  refine fk_callS (As := [.int (nI t)]) (rest := [.ref (bd 0)]) ⟨hx, hb, hml, hown, hts⟩ (by have h9 := (mc_isThread l D bd cI cT cJ X S (nI t)); rw [fk_isT_nI (by omega)] at h9; exact h9) (va_cwS 1 hts gX3_interrupt_X3_isThread rfl rfl rfl (by decide +kernel) ⟨Nat.le_of_ble_eq_true rfl, Nat.le_of_ble_eq_true rfl⟩) hK hP hD hS hA rfl hl.1 rfl (Nat.le_of_ble_eq_true rfl) dX3_interrupt_2 ⟨Nat.le_of_ble_eq_true rfl, Nat.le_of_ble_eq_true rfl⟩ (fun H locs hP hD hS => ?_)
  refine W.eq (g2 := F0 m 5 ls [.int 1, .ref (bd 0)]) rfl ?_
  refine fk_callV (As := [.int 1]) (rest := []) ⟨hx, hb, hml, hown, hts⟩ (mc_asks_t l D bd cI cT cJ X S) (cwV 1 hts gX3_interrupt_X3_asks rfl rfl rfl (by decide +kernel) ⟨Nat.le_of_ble_eq_true rfl, Nat.le_of_ble_eq_true rfl⟩) (fk_rvM hK hP) hK hP hD hS hA rfl hl.1 rfl (Nat.le_of_ble_eq_true rfl) dX3_interrupt_5 ⟨Nat.le_of_ble_eq_true rfl, Nat.le_of_ble_eq_true rfl⟩ (fun H locs hP hD hS => ?_)
  refine W.eq (g2 := F0 m 8 ls [.int 1]) rfl ?_
  refine lv_if_ne (tgt := 12) hx hb dX3_interrupt_8 (by decide) (fun _ => ?_) (fun c => absurd c (by decide))
  refine lv_aload_n hx hb dX3_interrupt_12 rfl (lv_at hl 0 rfl) ?_
  refine lv_iload_n hx hb dX3_interrupt_13 rfl (lv_at hl 1 rfl) ?_
  refine fk_callV (As := [.int (nI t)]) (rest := []) ⟨hx, hb, hml, hown, hts⟩ (by have h9 := (mc_isQueued l D bd cI cT cJ X (fk_up S 12 4 0) t ht); rw [(show mm_q (fk_up S 12 4 0) t = false from h)] at h9; exact h9) (cwV 1 hts gX3_interrupt_X3_isQueued rfl rfl rfl (by decide +kernel) ⟨Nat.le_of_ble_eq_true rfl, Nat.le_of_ble_eq_true rfl⟩) (fk_rvM hK hP) hK hP hD hS hA rfl hl.1 rfl (Nat.le_of_ble_eq_true rfl) dX3_interrupt_14 ⟨Nat.le_of_ble_eq_true rfl, Nat.le_of_ble_eq_true rfl⟩ (fun H locs hP hD hS => ?_)
  refine W.eq (g2 := F0 m 17 ls [.int 0]) rfl ?_
  refine lv_if_ne (tgt := 26) hx hb dX3_interrupt_17 (by decide) (fun c => absurd c (by decide)) (fun _ => ?_)
  refine lv_aload_n hx hb dX3_interrupt_20 rfl (lv_at hl 0 rfl) ?_
  refine lv_iconst (v := 2) hx hb dX3_interrupt_21 (by decide) ?_
  refine fk_putM (v := 2) hx hb hts hiX3 hown hK hP hD hS 4 (by decide) (by simp [fk_fM, fk_up]) (List.mem_of_getElem? (i := 1) rfl) rfl rfl (by decide +kernel) dX3_interrupt_22 (fun H locs hP hD hS => ?_)
  exact fk_vret hx hb hr hlocks hP hK hD hS (congrArg (fun z => fk_mW bd cI z ++ X) (by exact fk_up_up S 12 4 0 2)) (by rfl) dX3_interrupt_25

abbrev rmX3_start : Room := { frames := 1, cells := 0, slots := 0, locals := 21 }
set_option maxHeartbeats 4000000 in
set_option maxRecDepth 100000 in
theorem mc_start (l : Launch) (D : va_G) (bd : Nat → Nat) (cI cT cJ : ClassId) (X : va_W) (S : fk_S) (t : Nat) (ht : t < 8) (h : S 1 t = 3) : fk_C l D (fk_ty cI cT cJ) yX3_start wsX3_start rmX3_start [.ref (bd 0), .int (nI t)] (fk_mW bd cI S ++ X) none (fk_mW bd cI (kk_start (fk_up S 12 4 0) t) ++ X) := by
  refine fk_C_of (cc := cX3_start) (maxL := 2) (ret := none) (own := RX3) (by decide) rfl rfl (Nat.le_of_ble_eq_true rfl) ?_
  intro p e s m below meth c A ls hx hb hr hlocks hml hts hown hA hP hK hD hl
  have hS : va_S A s.heap s.heap [] := va_S.rf
  have hl : lv_has ls 2 [(0, .ref (bd 0)), (1, .int (nI t))] := hl
  have hiX3 : ∀ w ∈ u_ws RX3 TX3 17, w ∈ wsX3_start := by decide +kernel
  refine lv_aload_n hx hb dX3_start_0 rfl (lv_at hl 0 rfl) ?_
  refine lv_iload_n hx hb dX3_start_1 rfl (lv_at hl 1 rfl) ?_
  refine fk_callS (As := [.int (nI t)]) (rest := [.ref (bd 0)]) ⟨hx, hb, hml, hown, hts⟩ (by have h9 := (mc_isThread l D bd cI cT cJ X S (nI t)); rw [fk_isT_nI (by omega)] at h9; exact h9) (va_cwS 1 hts gX3_start_X3_isThread rfl rfl rfl (by decide +kernel) ⟨Nat.le_of_ble_eq_true rfl, Nat.le_of_ble_eq_true rfl⟩) hK hP hD hS hA rfl hl.1 rfl (Nat.le_of_ble_eq_true rfl) dX3_start_2 ⟨Nat.le_of_ble_eq_true rfl, Nat.le_of_ble_eq_true rfl⟩ (fun H locs hP hD hS => ?_)
  refine W.eq (g2 := F0 m 5 ls [.int 1, .ref (bd 0)]) rfl ?_
  refine fk_callV (As := [.int 1]) (rest := []) ⟨hx, hb, hml, hown, hts⟩ (mc_asks_t l D bd cI cT cJ X S) (cwV 1 hts gX3_start_X3_asks rfl rfl rfl (by decide +kernel) ⟨Nat.le_of_ble_eq_true rfl, Nat.le_of_ble_eq_true rfl⟩) (fk_rvM hK hP) hK hP hD hS hA rfl hl.1 rfl (Nat.le_of_ble_eq_true rfl) dX3_start_5 ⟨Nat.le_of_ble_eq_true rfl, Nat.le_of_ble_eq_true rfl⟩ (fun H locs hP hD hS => ?_)
  refine W.eq (g2 := F0 m 8 ls [.int 1]) rfl ?_
  refine lv_if_ne (tgt := 12) hx hb dX3_start_8 (by decide) (fun _ => ?_) (fun c => absurd c (by decide))
  refine lv_aload_n hx hb dX3_start_12 rfl (lv_at hl 0 rfl) ?_
  refine fk_getM hx hb hts hiX3 hown hK hP 1 (by decide) (v := .ref (bd 2)) rfl (List.mem_of_getElem? (i := 1) rfl) rfl dX3_start_13 ?_
  refine lv_iload_n hx hb dX3_start_16 rfl (lv_at hl 1 rfl) ?_
  refine fk_ldN hx hb hK hP 1 1 8 rfl (by decide) rfl rfl (vp_in_nI (show t < 8 from (by omega)) (by decide)) dX3_start_17 ?_
  refine W.eq (g2 := F0 m 18 ls [.int (S 1 t)]) (by simp [fk_up, mm_set, nI_clamp (n := t) (by omega)]) ?_
  refine lv_iconst (v := 3) hx hb dX3_start_18 (by decide) ?_
  refine lv_icmp_eq (tgt := 28) hx hb dX3_start_19 (by decide) (fun c_2 => ?_) (fun c_2 => absurd h c_2)
  refine lv_aload_n hx hb dX3_start_28 rfl (lv_at hl 0 rfl) ?_
  refine fk_getM hx hb hts hiX3 hown hK hP 1 (by decide) (v := .ref (bd 2)) rfl (List.mem_of_getElem? (i := 1) rfl) rfl dX3_start_29 ?_
  refine lv_iload_n hx hb dX3_start_32 rfl (lv_at hl 1 rfl) ?_
  refine lv_iconst (v := 0) hx hb dX3_start_33 (by decide) ?_
  refine fk_stN hx hb hK hP hD hS 1 1 8 rfl (by decide) rfl rfl (vp_in_nI (show t < 8 from (by omega)) (by decide)) dX3_start_34 (fun H locs hP hD hS => ?_)
  rw [show ((nI t)).toNatClampNeg = t from nI_clamp (n := t) (by omega)] at hP hD
  refine lv_aload_n hx hb dX3_start_35 rfl (lv_at hl 0 rfl) ?_
  refine fk_getM hx hb hts hiX3 hown hK hP 2 (by decide) (v := .ref (bd 3)) rfl (List.mem_of_getElem? (i := 3) rfl) rfl dX3_start_36 ?_
  refine lv_iload_n hx hb dX3_start_39 rfl (lv_at hl 1 rfl) ?_
  refine lv_iconst (v := 0) hx hb dX3_start_40 (by decide) ?_
  refine fk_stN hx hb hK hP hD hS 2 2 8 rfl (by decide) rfl rfl (vp_in_nI (show t < 8 from (by omega)) (by decide)) dX3_start_41 (fun H locs hP hD hS => ?_)
  rw [show ((nI t)).toNatClampNeg = t from nI_clamp (n := t) (by omega)] at hP hD
  refine lv_aload_n hx hb dX3_start_42 rfl (lv_at hl 0 rfl) ?_
  refine fk_getM hx hb hts hiX3 hown hK hP 3 (by decide) (v := .ref (bd 4)) rfl (List.mem_of_getElem? (i := 4) rfl) rfl dX3_start_43 ?_
  refine lv_iload_n hx hb dX3_start_46 rfl (lv_at hl 1 rfl) ?_
  refine lv_iconst (v := (-1)) hx hb dX3_start_47 (by decide) ?_
  refine fk_stN hx hb hK hP hD hS 3 8 8 rfl (by decide) rfl rfl (vp_in_nI (show t < 8 from (by omega)) (by decide)) dX3_start_48 (fun H locs hP hD hS => ?_)
  rw [show ((nI t)).toNatClampNeg = t from nI_clamp (n := t) (by omega)] at hP hD
  refine lv_aload_n hx hb dX3_start_49 rfl (lv_at hl 0 rfl) ?_
  refine fk_getM hx hb hts hiX3 hown hK hP 4 (by decide) (v := .ref (bd 5)) rfl (List.mem_of_getElem? (i := 5) rfl) rfl dX3_start_50 ?_
  refine lv_iload_n hx hb dX3_start_53 rfl (lv_at hl 1 rfl) ?_
  refine lv_iconst (v := 0) hx hb dX3_start_54 (by decide) ?_
  refine fk_stN hx hb hK hP hD hS 4 9 8 rfl (by decide) rfl rfl (vp_in_nI (show t < 8 from (by omega)) (by decide)) dX3_start_55 (fun H locs hP hD hS => ?_)
  rw [show ((nI t)).toNatClampNeg = t from nI_clamp (n := t) (by omega)] at hP hD
  exact fk_vret hx hb hr hlocks hP hK hD hS (congrArg (fun z => fk_mW bd cI z ++ X) (by rfl)) (by rfl) dX3_start_56

set_option maxHeartbeats 4000000 in
set_option maxRecDepth 100000 in
theorem mn_start_1 (l : Launch) (D : va_G) (bd : Nat → Nat) (cI cT cJ : ClassId) (X : va_W) (S : fk_S) (th : Int32) (h : fk_isT th = false) : fk_C l D (fk_ty cI cT cJ) yX3_start wsX3_start rmX3_start [.ref (bd 0), .int th] (fk_mW bd cI S ++ X) none (fk_mW bd cI (fk_up S 12 4 1) ++ X) := by
  refine fk_C_of (cc := cX3_start) (maxL := 2) (ret := none) (own := RX3) (by decide) rfl rfl (Nat.le_of_ble_eq_true rfl) ?_
  intro p e s m below meth c A ls hx hb hr hlocks hml hts hown hA hP hK hD hl
  have hS : va_S A s.heap s.heap [] := va_S.rf
  have hl : lv_has ls 2 [(0, .ref (bd 0)), (1, .int th)] := hl
  refine lv_aload_n hx hb dX3_start_0 rfl (lv_at hl 0 rfl) ?_
  refine lv_iload_n hx hb dX3_start_1 rfl (lv_at hl 1 rfl) ?_
  refine fk_callS (As := [.int th]) (rest := [.ref (bd 0)]) ⟨hx, hb, hml, hown, hts⟩ (by have h9 := (mc_isThread l D bd cI cT cJ X S th); rw [h] at h9; exact h9) (va_cwS 1 hts gX3_start_X3_isThread rfl rfl rfl (by decide +kernel) ⟨Nat.le_of_ble_eq_true rfl, Nat.le_of_ble_eq_true rfl⟩) hK hP hD hS hA rfl hl.1 rfl (Nat.le_of_ble_eq_true rfl) dX3_start_2 ⟨Nat.le_of_ble_eq_true rfl, Nat.le_of_ble_eq_true rfl⟩ (fun H locs hP hD hS => ?_)
  refine W.eq (g2 := F0 m 5 ls [.int 0, .ref (bd 0)]) rfl ?_
  refine fk_callV (As := [.int 0]) (rest := []) ⟨hx, hb, hml, hown, hts⟩ (mc_asks_f l D bd cI cT cJ X S) (cwV 1 hts gX3_start_X3_asks rfl rfl rfl (by decide +kernel) ⟨Nat.le_of_ble_eq_true rfl, Nat.le_of_ble_eq_true rfl⟩) (fk_rvM hK hP) hK hP hD hS hA rfl hl.1 rfl (Nat.le_of_ble_eq_true rfl) dX3_start_5 ⟨Nat.le_of_ble_eq_true rfl, Nat.le_of_ble_eq_true rfl⟩ (fun H locs hP hD hS => ?_)
  refine W.eq (g2 := F0 m 8 ls [.int 0]) rfl ?_
  refine lv_if_ne (tgt := 12) hx hb dX3_start_8 (by decide) (fun c => absurd c (by decide)) (fun _ => ?_)
  exact fk_vret hx hb hr hlocks hP hK hD hS (congrArg (fun z => fk_mW bd cI z ++ X) (by rfl)) (by rfl) dX3_start_11

set_option maxHeartbeats 4000000 in
set_option maxRecDepth 100000 in
theorem mn_start_2 (l : Launch) (D : va_G) (bd : Nat → Nat) (cI cT cJ : ClassId) (X : va_W) (S : fk_S) (t : Nat) (ht : t < 8) (h : ¬ S 1 t = 3) : fk_C l D (fk_ty cI cT cJ) yX3_start wsX3_start rmX3_start [.ref (bd 0), .int (nI t)] (fk_mW bd cI S ++ X) none (fk_mW bd cI (fk_up S 12 4 2) ++ X) := by
  refine fk_C_of (cc := cX3_start) (maxL := 2) (ret := none) (own := RX3) (by decide) rfl rfl (Nat.le_of_ble_eq_true rfl) ?_
  intro p e s m below meth c A ls hx hb hr hlocks hml hts hown hA hP hK hD hl
  have hS : va_S A s.heap s.heap [] := va_S.rf
  have hl : lv_has ls 2 [(0, .ref (bd 0)), (1, .int (nI t))] := hl
  have hiX3 : ∀ w ∈ u_ws RX3 TX3 17, w ∈ wsX3_start := by decide +kernel
  refine lv_aload_n hx hb dX3_start_0 rfl (lv_at hl 0 rfl) ?_
  refine lv_iload_n hx hb dX3_start_1 rfl (lv_at hl 1 rfl) ?_
  refine fk_callS (As := [.int (nI t)]) (rest := [.ref (bd 0)]) ⟨hx, hb, hml, hown, hts⟩ (by have h9 := (mc_isThread l D bd cI cT cJ X S (nI t)); rw [fk_isT_nI (by omega)] at h9; exact h9) (va_cwS 1 hts gX3_start_X3_isThread rfl rfl rfl (by decide +kernel) ⟨Nat.le_of_ble_eq_true rfl, Nat.le_of_ble_eq_true rfl⟩) hK hP hD hS hA rfl hl.1 rfl (Nat.le_of_ble_eq_true rfl) dX3_start_2 ⟨Nat.le_of_ble_eq_true rfl, Nat.le_of_ble_eq_true rfl⟩ (fun H locs hP hD hS => ?_)
  refine W.eq (g2 := F0 m 5 ls [.int 1, .ref (bd 0)]) rfl ?_
  refine fk_callV (As := [.int 1]) (rest := []) ⟨hx, hb, hml, hown, hts⟩ (mc_asks_t l D bd cI cT cJ X S) (cwV 1 hts gX3_start_X3_asks rfl rfl rfl (by decide +kernel) ⟨Nat.le_of_ble_eq_true rfl, Nat.le_of_ble_eq_true rfl⟩) (fk_rvM hK hP) hK hP hD hS hA rfl hl.1 rfl (Nat.le_of_ble_eq_true rfl) dX3_start_5 ⟨Nat.le_of_ble_eq_true rfl, Nat.le_of_ble_eq_true rfl⟩ (fun H locs hP hD hS => ?_)
  refine W.eq (g2 := F0 m 8 ls [.int 1]) rfl ?_
  refine lv_if_ne (tgt := 12) hx hb dX3_start_8 (by decide) (fun _ => ?_) (fun c => absurd c (by decide))
  refine lv_aload_n hx hb dX3_start_12 rfl (lv_at hl 0 rfl) ?_
  refine fk_getM hx hb hts hiX3 hown hK hP 1 (by decide) (v := .ref (bd 2)) rfl (List.mem_of_getElem? (i := 1) rfl) rfl dX3_start_13 ?_
  refine lv_iload_n hx hb dX3_start_16 rfl (lv_at hl 1 rfl) ?_
  refine fk_ldN hx hb hK hP 1 1 8 rfl (by decide) rfl rfl (vp_in_nI (show t < 8 from (by omega)) (by decide)) dX3_start_17 ?_
  refine W.eq (g2 := F0 m 18 ls [.int (S 1 t)]) (by simp [fk_up, mm_set, nI_clamp (n := t) (by omega)]) ?_
  refine lv_iconst (v := 3) hx hb dX3_start_18 (by decide) ?_
  refine lv_icmp_eq (tgt := 28) hx hb dX3_start_19 (by decide) (fun c_2 => absurd c_2 h) (fun c_2 => ?_)
  refine lv_aload_n hx hb dX3_start_22 rfl (lv_at hl 0 rfl) ?_
  refine lv_iconst (v := 2) hx hb dX3_start_23 (by decide) ?_
  refine fk_putM (v := 2) hx hb hts hiX3 hown hK hP hD hS 4 (by decide) (by simp [fk_fM, fk_up]) (List.mem_of_getElem? (i := 2) rfl) rfl rfl (by decide +kernel) dX3_start_24 (fun H locs hP hD hS => ?_)
  exact fk_vret hx hb hr hlocks hP hK hD hS (congrArg (fun z => fk_mW bd cI z ++ X) (by exact fk_up_up S 12 4 0 2)) (by rfl) dX3_start_27

abbrev rmX3_setPriority : Room := { frames := 1, cells := 0, slots := 0, locals := 22 }
set_option maxHeartbeats 4000000 in
set_option maxRecDepth 100000 in
theorem mc_setPriority (l : Launch) (D : va_G) (bd : Nat → Nat) (cI cT cJ : ClassId) (X : va_W) (S : fk_S) (t : Nat) (ht : t < 8) (v : Int32) (hm0 : fk_btw v 0 9 = true) (h : ¬ S 1 t = 3) : fk_C l D (fk_ty cI cT cJ) yX3_setPriority wsX3_setPriority rmX3_setPriority [.ref (bd 0), .int (nI t), .int v] (fk_mW bd cI S ++ X) (some (.int (S 2 t))) (fk_mW bd cI (mm_prio (fk_up S 12 4 0) t v) ++ X) := by
  refine fk_C_of (cc := cX3_setPriority) (maxL := 4) (ret := (some .int)) (own := RX3) (by decide) rfl rfl (Nat.le_of_ble_eq_true rfl) ?_
  intro p e s m below meth c A ls hx hb hr hlocks hml hts hown hA hP hK hD hl
  have hS : va_S A s.heap s.heap [] := va_S.rf
  have hl : lv_has ls 4 [(0, .ref (bd 0)), (1, .int (nI t)), (2, .int v)] := hl
  have hiX3 : ∀ w ∈ u_ws RX3 TX3 17, w ∈ wsX3_setPriority := by decide +kernel
  simp only [fk_btw, Bool.and_eq_true, decide_eq_true_eq] at hm0
  refine lv_aload_n hx hb dX3_setPriority_0 rfl (lv_at hl 0 rfl) ?_
  refine lv_iload_n hx hb dX3_setPriority_1 rfl (lv_at hl 1 rfl) ?_
  refine fk_callS (As := [.int (nI t)]) (rest := [.ref (bd 0)]) ⟨hx, hb, hml, hown, hts⟩ (by have h9 := (mc_isThread l D bd cI cT cJ X S (nI t)); rw [fk_isT_nI (by omega)] at h9; exact h9) (va_cwS 1 hts gX3_setPriority_X3_isThread rfl rfl rfl (by decide +kernel) ⟨Nat.le_of_ble_eq_true rfl, Nat.le_of_ble_eq_true rfl⟩) hK hP hD hS hA rfl hl.1 rfl (Nat.le_of_ble_eq_true rfl) dX3_setPriority_2 ⟨Nat.le_of_ble_eq_true rfl, Nat.le_of_ble_eq_true rfl⟩ (fun H locs hP hD hS => ?_)
  refine W.eq (g2 := F0 m 5 ls [.int 1, .ref (bd 0)]) rfl ?_
  refine fk_callV (As := [.int 1]) (rest := []) ⟨hx, hb, hml, hown, hts⟩ (mc_asks_t l D bd cI cT cJ X S) (cwV 1 hts gX3_setPriority_X3_asks rfl rfl rfl (by decide +kernel) ⟨Nat.le_of_ble_eq_true rfl, Nat.le_of_ble_eq_true rfl⟩) (fk_rvM hK hP) hK hP hD hS hA rfl hl.1 rfl (Nat.le_of_ble_eq_true rfl) dX3_setPriority_5 ⟨Nat.le_of_ble_eq_true rfl, Nat.le_of_ble_eq_true rfl⟩ (fun H locs hP hD hS => ?_)
  refine W.eq (g2 := F0 m 8 ls [.int 1]) rfl ?_
  refine lv_if_ne (tgt := 13) hx hb dX3_setPriority_8 (by decide) (fun _ => ?_) (fun c => absurd c (by decide))
  obtain ⟨T, hT⟩ : ∃ z, z = (fk_up S 12 4 0) := ⟨_, rfl⟩
  have hP : va_P D vwCl (fk_mW bd cI T ++ X) H := by rw [hT]; exact hP
  have hD : va_D A (fk_mW bd cI T ++ X) := by rw [hT]; exact hD
  refine lv_iload_n hx hb dX3_setPriority_13 rfl (lv_at hl 2 rfl) ?_
  refine lv_if_lt (tgt := 23) hx hb dX3_setPriority_14 (by decide) (fun c_2 => absurd c_2 (Int32.not_lt.mpr hm0.1)) (fun c_2 => ?_)
  refine lv_iload_n hx hb dX3_setPriority_17 rfl (lv_at hl 2 rfl) ?_
  refine lv_bipush (v := 9) hx hb dX3_setPriority_18 (by decide) ?_
  refine lv_icmp_le (tgt := 29) hx hb dX3_setPriority_20 (by decide) (fun c_3 => ?_) (fun c_3 => absurd hm0.2 c_3)
  refine lv_aload_n hx hb dX3_setPriority_29 rfl (lv_at hl 0 rfl) ?_
  refine fk_getM hx hb hts hiX3 hown hK hP 1 (by decide) (v := .ref (bd 2)) rfl (List.mem_of_getElem? (i := 1) rfl) rfl dX3_setPriority_30 ?_
  refine lv_iload_n hx hb dX3_setPriority_33 rfl (lv_at hl 1 rfl) ?_
  refine fk_ldN hx hb hK hP 1 1 8 rfl (by decide) rfl rfl (vp_in_nI (show t < 8 from (by omega)) (by decide)) dX3_setPriority_34 ?_
  refine W.eq (g2 := F0 m 35 ls [.int (T 1 t)]) (by rw [nI_clamp (by omega)]) ?_
  refine lv_iconst (v := 3) hx hb dX3_setPriority_35 (by decide) ?_
  refine lv_icmp_ne (tgt := 45) hx hb dX3_setPriority_36 (by decide) (fun c_4 => ?_) (fun c => absurd (show S 1 t = 3 by rw [hT] at c; exact c) h)
  refine lv_aload_n hx hb dX3_setPriority_45 rfl (lv_at hl 0 rfl) ?_
  refine fk_getM hx hb hts hiX3 hown hK hP 2 (by decide) (v := .ref (bd 3)) rfl (List.mem_of_getElem? (i := 2) rfl) rfl dX3_setPriority_46 ?_
  refine lv_iload_n hx hb dX3_setPriority_49 rfl (lv_at hl 1 rfl) ?_
  refine fk_ldN hx hb hK hP 2 2 8 rfl (by decide) rfl rfl (vp_in_nI (show t < 8 from (by omega)) (by decide)) dX3_setPriority_50 ?_
  refine W.eq (g2 := F0 m 51 ls [.int (T 2 t)]) (by rw [nI_clamp (by omega)]) ?_
  refine lv_istore_n (lv' := [(3, .int (T 2 t)), (0, .ref (bd 0)), (1, .int (nI t)), (2, .int v)]) hx hb dX3_setPriority_51 rfl hl (by decide) rfl (fun ls hl => ?_)
  refine lv_aload_n hx hb dX3_setPriority_52 rfl (lv_at hl 1 rfl) ?_
  refine fk_getM hx hb hts hiX3 hown hK hP 2 (by decide) (v := .ref (bd 3)) rfl (List.mem_of_getElem? (i := 2) rfl) rfl dX3_setPriority_53 ?_
  refine lv_iload_n hx hb dX3_setPriority_56 rfl (lv_at hl 2 rfl) ?_
  refine lv_iload_n hx hb dX3_setPriority_57 rfl (lv_at hl 3 rfl) ?_
  refine fk_stN hx hb hK hP hD hS 2 2 8 rfl (by decide) rfl rfl (vp_in_nI (show t < 8 from (by omega)) (by decide)) dX3_setPriority_58 (fun H locs hP hD hS => ?_)
  rw [show ((nI t)).toNatClampNeg = t from nI_clamp (n := t) (by omega)] at hP hD
  refine lv_iload_n hx hb dX3_setPriority_59 rfl (lv_at hl 0 rfl) ?_
  refine lv_iload_n hx hb dX3_setPriority_60 rfl (lv_at hl 3 rfl) ?_
  refine lv_icmp_eq (tgt := 83) hx hb dX3_setPriority_61 (by decide) (fun c_5 => ?_) (fun c_5 => ?_)
  · refine lv_iload_n hx hb dX3_setPriority_83 rfl (lv_at hl 0 rfl) ?_
    exact fk_iret hx hb hr hlocks hP hK hD hS (congrArg (fun z => fk_mW bd cI z ++ X) (by rw [← hT]; simp [mm_prio, c_2, c_3, c_4, c_5])) (by rw [hT]; rfl) dX3_setPriority_84
  · refine lv_aload_n hx hb dX3_setPriority_64 rfl (lv_at hl 1 rfl) ?_
    refine lv_iload_n hx hb dX3_setPriority_65 rfl (lv_at hl 2 rfl) ?_
    refine fk_callV (As := [.int (nI t)]) (rest := []) ⟨hx, hb, hml, hown, hts⟩ (mc_isQueued l D bd cI cT cJ X (fk_up T 2 t v) t ht) (cwV 1 hts gX3_setPriority_X3_isQueued rfl rfl rfl (by decide +kernel) ⟨Nat.le_of_ble_eq_true rfl, Nat.le_of_ble_eq_true rfl⟩) (fk_rvM hK hP) hK hP hD hS hA rfl hl.1 rfl (Nat.le_of_ble_eq_true rfl) dX3_setPriority_66 ⟨Nat.le_of_ble_eq_true rfl, Nat.le_of_ble_eq_true rfl⟩ (fun H locs hP hD hS => ?_)
    cases b_6 : mm_q (fk_up T 2 t v) t with
    | true =>
      refine W.eq (g2 := F0 m 69 ls [.int 1]) (by first | rfl | (rw [b_6]; rfl)) ?_
      refine lv_if_eq (tgt := 83) hx hb dX3_setPriority_69 (by decide) (fun c => absurd c (by decide)) (fun _ => ?_)
      refine lv_aload_n hx hb dX3_setPriority_72 rfl (lv_at hl 1 rfl) ?_
      refine lv_iload_n hx hb dX3_setPriority_73 rfl (lv_at hl 2 rfl) ?_
      refine lv_aload_n hx hb dX3_setPriority_74 rfl (lv_at hl 1 rfl) ?_
      refine fk_getM hx hb hts hiX3 hown hK hP 5 (by decide) (v := .ref (bd 6)) rfl (List.mem_of_getElem? (i := 3) rfl) rfl dX3_setPriority_75 ?_
      refine lv_iload_n hx hb dX3_setPriority_78 rfl (lv_at hl 2 rfl) ?_
      refine fk_ldN hx hb hK hP 5 3 8 rfl (by decide) rfl rfl (vp_in_nI (show t < 8 from (by omega)) (by decide)) dX3_setPriority_79 ?_
      refine W.eq (g2 := F0 m 80 ls [.int (T 3 t), .int (nI t), .ref (bd 0)]) (by simp [fk_up, mm_set, nI_clamp (n := t) (by omega)]) ?_
      refine fk_callV (As := [.int (nI t), .int (T 3 t)]) (rest := []) ⟨hx, hb, hml, hown, hts⟩ (mc_joins l D bd cI cT cJ X (fk_up T 2 t v) t (T 3 t) ht) (cwV 2 hts gX3_setPriority_X3_joins rfl rfl rfl (by decide +kernel) ⟨Nat.le_of_ble_eq_true rfl, Nat.le_of_ble_eq_true rfl⟩) (fk_rvM hK hP) hK hP hD hS hA rfl hl.1 rfl (Nat.le_of_ble_eq_true rfl) dX3_setPriority_80 ⟨Nat.le_of_ble_eq_true rfl, Nat.le_of_ble_eq_true rfl⟩ (fun H locs hP hD hS => ?_)
      refine W.eq (g2 := F0 m 83 ls []) rfl ?_
      refine lv_iload_n hx hb dX3_setPriority_83 rfl (lv_at hl 0 rfl) ?_
      exact fk_iret hx hb hr hlocks hP hK hD hS (congrArg (fun z => fk_mW bd cI z ++ X) (by rw [← hT]; simp [mm_prio, c_2, c_3, c_4, c_5, b_6])) (by rw [hT]; rfl) dX3_setPriority_84
    | false =>
      refine W.eq (g2 := F0 m 69 ls [.int 0]) (by first | rfl | (rw [b_6]; rfl)) ?_
      refine lv_if_eq (tgt := 83) hx hb dX3_setPriority_69 (by decide) (fun _ => ?_) (fun c => absurd c (by decide))
      refine lv_iload_n hx hb dX3_setPriority_83 rfl (lv_at hl 0 rfl) ?_
      exact fk_iret hx hb hr hlocks hP hK hD hS (congrArg (fun z => fk_mW bd cI z ++ X) (by rw [← hT]; simp [mm_prio, c_2, c_3, c_4, c_5, b_6])) (by rw [hT]; rfl) dX3_setPriority_84

set_option maxHeartbeats 4000000 in
set_option maxRecDepth 100000 in
theorem mn_setPriority_1 (l : Launch) (D : va_G) (bd : Nat → Nat) (cI cT cJ : ClassId) (X : va_W) (S : fk_S) (th v : Int32) (h : fk_isT th = false) : fk_C l D (fk_ty cI cT cJ) yX3_setPriority wsX3_setPriority rmX3_setPriority [.ref (bd 0), .int th, .int v] (fk_mW bd cI S ++ X) (some (.int 0)) (fk_mW bd cI (fk_up S 12 4 1) ++ X) := by
  refine fk_C_of (cc := cX3_setPriority) (maxL := 4) (ret := (some .int)) (own := RX3) (by decide) rfl rfl (Nat.le_of_ble_eq_true rfl) ?_
  intro p e s m below meth c A ls hx hb hr hlocks hml hts hown hA hP hK hD hl
  have hS : va_S A s.heap s.heap [] := va_S.rf
  have hl : lv_has ls 4 [(0, .ref (bd 0)), (1, .int th), (2, .int v)] := hl
  refine lv_aload_n hx hb dX3_setPriority_0 rfl (lv_at hl 0 rfl) ?_
  refine lv_iload_n hx hb dX3_setPriority_1 rfl (lv_at hl 1 rfl) ?_
  refine fk_callS (As := [.int th]) (rest := [.ref (bd 0)]) ⟨hx, hb, hml, hown, hts⟩ (by have h9 := (mc_isThread l D bd cI cT cJ X S th); rw [h] at h9; exact h9) (va_cwS 1 hts gX3_setPriority_X3_isThread rfl rfl rfl (by decide +kernel) ⟨Nat.le_of_ble_eq_true rfl, Nat.le_of_ble_eq_true rfl⟩) hK hP hD hS hA rfl hl.1 rfl (Nat.le_of_ble_eq_true rfl) dX3_setPriority_2 ⟨Nat.le_of_ble_eq_true rfl, Nat.le_of_ble_eq_true rfl⟩ (fun H locs hP hD hS => ?_)
  refine W.eq (g2 := F0 m 5 ls [.int 0, .ref (bd 0)]) rfl ?_
  refine fk_callV (As := [.int 0]) (rest := []) ⟨hx, hb, hml, hown, hts⟩ (mc_asks_f l D bd cI cT cJ X S) (cwV 1 hts gX3_setPriority_X3_asks rfl rfl rfl (by decide +kernel) ⟨Nat.le_of_ble_eq_true rfl, Nat.le_of_ble_eq_true rfl⟩) (fk_rvM hK hP) hK hP hD hS hA rfl hl.1 rfl (Nat.le_of_ble_eq_true rfl) dX3_setPriority_5 ⟨Nat.le_of_ble_eq_true rfl, Nat.le_of_ble_eq_true rfl⟩ (fun H locs hP hD hS => ?_)
  refine W.eq (g2 := F0 m 8 ls [.int 0]) rfl ?_
  refine lv_if_ne (tgt := 13) hx hb dX3_setPriority_8 (by decide) (fun c => absurd c (by decide)) (fun _ => ?_)
  refine lv_iconst (v := 0) hx hb dX3_setPriority_11 (by decide) ?_
  exact fk_iret hx hb hr hlocks hP hK hD hS (congrArg (fun z => fk_mW bd cI z ++ X) (by rfl)) (by rfl) dX3_setPriority_12

set_option maxHeartbeats 4000000 in
set_option maxRecDepth 100000 in
theorem mn_setPriority_2 (l : Launch) (D : va_G) (bd : Nat → Nat) (cI cT cJ : ClassId) (X : va_W) (S : fk_S) (t : Nat) (ht : t < 8) (v : Int32) (h : fk_btw v 0 9 = false) : fk_C l D (fk_ty cI cT cJ) yX3_setPriority wsX3_setPriority rmX3_setPriority [.ref (bd 0), .int (nI t), .int v] (fk_mW bd cI S ++ X) (some (.int 0)) (fk_mW bd cI (fk_up S 12 4 2) ++ X) := by
  refine fk_C_of (cc := cX3_setPriority) (maxL := 4) (ret := (some .int)) (own := RX3) (by decide) rfl rfl (Nat.le_of_ble_eq_true rfl) ?_
  intro p e s m below meth c A ls hx hb hr hlocks hml hts hown hA hP hK hD hl
  have hS : va_S A s.heap s.heap [] := va_S.rf
  have hl : lv_has ls 4 [(0, .ref (bd 0)), (1, .int (nI t)), (2, .int v)] := hl
  refine lv_aload_n hx hb dX3_setPriority_0 rfl (lv_at hl 0 rfl) ?_
  refine lv_iload_n hx hb dX3_setPriority_1 rfl (lv_at hl 1 rfl) ?_
  refine fk_callS (As := [.int (nI t)]) (rest := [.ref (bd 0)]) ⟨hx, hb, hml, hown, hts⟩ (by have h9 := (mc_isThread l D bd cI cT cJ X S (nI t)); rw [fk_isT_nI (by omega)] at h9; exact h9) (va_cwS 1 hts gX3_setPriority_X3_isThread rfl rfl rfl (by decide +kernel) ⟨Nat.le_of_ble_eq_true rfl, Nat.le_of_ble_eq_true rfl⟩) hK hP hD hS hA rfl hl.1 rfl (Nat.le_of_ble_eq_true rfl) dX3_setPriority_2 ⟨Nat.le_of_ble_eq_true rfl, Nat.le_of_ble_eq_true rfl⟩ (fun H locs hP hD hS => ?_)
  refine W.eq (g2 := F0 m 5 ls [.int 1, .ref (bd 0)]) rfl ?_
  refine fk_callV (As := [.int 1]) (rest := []) ⟨hx, hb, hml, hown, hts⟩ (mc_asks_t l D bd cI cT cJ X S) (cwV 1 hts gX3_setPriority_X3_asks rfl rfl rfl (by decide +kernel) ⟨Nat.le_of_ble_eq_true rfl, Nat.le_of_ble_eq_true rfl⟩) (fk_rvM hK hP) hK hP hD hS hA rfl hl.1 rfl (Nat.le_of_ble_eq_true rfl) dX3_setPriority_5 ⟨Nat.le_of_ble_eq_true rfl, Nat.le_of_ble_eq_true rfl⟩ (fun H locs hP hD hS => ?_)
  refine W.eq (g2 := F0 m 8 ls [.int 1]) rfl ?_
  refine lv_if_ne (tgt := 13) hx hb dX3_setPriority_8 (by decide) (fun _ => ?_) (fun c => absurd c (by decide))
  refine lv_iload_n hx hb dX3_setPriority_13 rfl (lv_at hl 2 rfl) ?_
  refine lv_if_lt (tgt := 23) hx hb dX3_setPriority_14 (by decide) (fun c_2 => ?_) (fun c_2 => ?_)
  · refine lv_aload_n hx hb dX3_setPriority_23 rfl (lv_at hl 0 rfl) ?_
    refine lv_iconst (v := 2) hx hb dX3_setPriority_24 (by decide) ?_
    refine fk_callV (As := [.int 2]) (rest := []) ⟨hx, hb, hml, hown, hts⟩ (mc_fails l D bd cI cT cJ X (fk_up S 12 4 0) 2) (cwV 1 hts gX3_setPriority_X3_fails rfl rfl rfl (by decide +kernel) ⟨Nat.le_of_ble_eq_true rfl, Nat.le_of_ble_eq_true rfl⟩) (fk_rvM hK hP) hK hP hD hS hA rfl hl.1 rfl (Nat.le_of_ble_eq_true rfl) dX3_setPriority_25 ⟨Nat.le_of_ble_eq_true rfl, Nat.le_of_ble_eq_true rfl⟩ (fun H locs hP hD hS => ?_)
    refine W.eq (g2 := F0 m 28 ls [.int 0]) rfl ?_
    exact fk_iret hx hb hr hlocks hP hK hD hS (congrArg (fun z => fk_mW bd cI z ++ X) (by exact fk_up_up S 12 4 0 2)) (by rfl) dX3_setPriority_28
  · refine lv_iload_n hx hb dX3_setPriority_17 rfl (lv_at hl 2 rfl) ?_
    refine lv_bipush (v := 9) hx hb dX3_setPriority_18 (by decide) ?_
    refine lv_icmp_le (tgt := 29) hx hb dX3_setPriority_20 (by decide) (fun c_3 => ?_) (fun c_3 => ?_)
    · exact absurd h (by simp [fk_btw, c_2, Int32.not_lt.mp c_2, c_3, Int32.not_lt.mpr c_3])
    · refine lv_aload_n hx hb dX3_setPriority_23 rfl (lv_at hl 0 rfl) ?_
      refine lv_iconst (v := 2) hx hb dX3_setPriority_24 (by decide) ?_
      refine fk_callV (As := [.int 2]) (rest := []) ⟨hx, hb, hml, hown, hts⟩ (mc_fails l D bd cI cT cJ X (fk_up S 12 4 0) 2) (cwV 1 hts gX3_setPriority_X3_fails rfl rfl rfl (by decide +kernel) ⟨Nat.le_of_ble_eq_true rfl, Nat.le_of_ble_eq_true rfl⟩) (fk_rvM hK hP) hK hP hD hS hA rfl hl.1 rfl (Nat.le_of_ble_eq_true rfl) dX3_setPriority_25 ⟨Nat.le_of_ble_eq_true rfl, Nat.le_of_ble_eq_true rfl⟩ (fun H locs hP hD hS => ?_)
      refine W.eq (g2 := F0 m 28 ls [.int 0]) rfl ?_
      exact fk_iret hx hb hr hlocks hP hK hD hS (congrArg (fun z => fk_mW bd cI z ++ X) (by exact fk_up_up S 12 4 0 2)) (by rfl) dX3_setPriority_28

set_option maxHeartbeats 4000000 in
set_option maxRecDepth 100000 in
theorem mn_setPriority_3 (l : Launch) (D : va_G) (bd : Nat → Nat) (cI cT cJ : ClassId) (X : va_W) (S : fk_S) (t : Nat) (ht : t < 8) (v : Int32) (hm0 : fk_btw v 0 9 = true) (h : S 1 t = 3) : fk_C l D (fk_ty cI cT cJ) yX3_setPriority wsX3_setPriority rmX3_setPriority [.ref (bd 0), .int (nI t), .int v] (fk_mW bd cI S ++ X) (some (.int 0)) (fk_mW bd cI (fk_up S 12 4 3) ++ X) := by
  refine fk_C_of (cc := cX3_setPriority) (maxL := 4) (ret := (some .int)) (own := RX3) (by decide) rfl rfl (Nat.le_of_ble_eq_true rfl) ?_
  intro p e s m below meth c A ls hx hb hr hlocks hml hts hown hA hP hK hD hl
  have hS : va_S A s.heap s.heap [] := va_S.rf
  have hl : lv_has ls 4 [(0, .ref (bd 0)), (1, .int (nI t)), (2, .int v)] := hl
  have hiX3 : ∀ w ∈ u_ws RX3 TX3 17, w ∈ wsX3_setPriority := by decide +kernel
  simp only [fk_btw, Bool.and_eq_true, decide_eq_true_eq] at hm0
  refine lv_aload_n hx hb dX3_setPriority_0 rfl (lv_at hl 0 rfl) ?_
  refine lv_iload_n hx hb dX3_setPriority_1 rfl (lv_at hl 1 rfl) ?_
  refine fk_callS (As := [.int (nI t)]) (rest := [.ref (bd 0)]) ⟨hx, hb, hml, hown, hts⟩ (by have h9 := (mc_isThread l D bd cI cT cJ X S (nI t)); rw [fk_isT_nI (by omega)] at h9; exact h9) (va_cwS 1 hts gX3_setPriority_X3_isThread rfl rfl rfl (by decide +kernel) ⟨Nat.le_of_ble_eq_true rfl, Nat.le_of_ble_eq_true rfl⟩) hK hP hD hS hA rfl hl.1 rfl (Nat.le_of_ble_eq_true rfl) dX3_setPriority_2 ⟨Nat.le_of_ble_eq_true rfl, Nat.le_of_ble_eq_true rfl⟩ (fun H locs hP hD hS => ?_)
  refine W.eq (g2 := F0 m 5 ls [.int 1, .ref (bd 0)]) rfl ?_
  refine fk_callV (As := [.int 1]) (rest := []) ⟨hx, hb, hml, hown, hts⟩ (mc_asks_t l D bd cI cT cJ X S) (cwV 1 hts gX3_setPriority_X3_asks rfl rfl rfl (by decide +kernel) ⟨Nat.le_of_ble_eq_true rfl, Nat.le_of_ble_eq_true rfl⟩) (fk_rvM hK hP) hK hP hD hS hA rfl hl.1 rfl (Nat.le_of_ble_eq_true rfl) dX3_setPriority_5 ⟨Nat.le_of_ble_eq_true rfl, Nat.le_of_ble_eq_true rfl⟩ (fun H locs hP hD hS => ?_)
  refine W.eq (g2 := F0 m 8 ls [.int 1]) rfl ?_
  refine lv_if_ne (tgt := 13) hx hb dX3_setPriority_8 (by decide) (fun _ => ?_) (fun c => absurd c (by decide))
  refine lv_iload_n hx hb dX3_setPriority_13 rfl (lv_at hl 2 rfl) ?_
  refine lv_if_lt (tgt := 23) hx hb dX3_setPriority_14 (by decide) (fun c_2 => absurd c_2 (Int32.not_lt.mpr hm0.1)) (fun c_2 => ?_)
  refine lv_iload_n hx hb dX3_setPriority_17 rfl (lv_at hl 2 rfl) ?_
  refine lv_bipush (v := 9) hx hb dX3_setPriority_18 (by decide) ?_
  refine lv_icmp_le (tgt := 29) hx hb dX3_setPriority_20 (by decide) (fun c_3 => ?_) (fun c_3 => absurd hm0.2 c_3)
  refine lv_aload_n hx hb dX3_setPriority_29 rfl (lv_at hl 0 rfl) ?_
  refine fk_getM hx hb hts hiX3 hown hK hP 1 (by decide) (v := .ref (bd 2)) rfl (List.mem_of_getElem? (i := 1) rfl) rfl dX3_setPriority_30 ?_
  refine lv_iload_n hx hb dX3_setPriority_33 rfl (lv_at hl 1 rfl) ?_
  refine fk_ldN hx hb hK hP 1 1 8 rfl (by decide) rfl rfl (vp_in_nI (show t < 8 from (by omega)) (by decide)) dX3_setPriority_34 ?_
  refine W.eq (g2 := F0 m 35 ls [.int (S 1 t)]) (by simp [fk_up, mm_set, nI_clamp (n := t) (by omega)]) ?_
  refine lv_iconst (v := 3) hx hb dX3_setPriority_35 (by decide) ?_
  refine lv_icmp_ne (tgt := 45) hx hb dX3_setPriority_36 (by decide) (fun c => absurd h c) (fun c_4 => ?_)
  refine lv_aload_n hx hb dX3_setPriority_39 rfl (lv_at hl 0 rfl) ?_
  refine lv_iconst (v := 3) hx hb dX3_setPriority_40 (by decide) ?_
  refine fk_callV (As := [.int 3]) (rest := []) ⟨hx, hb, hml, hown, hts⟩ (mc_fails l D bd cI cT cJ X (fk_up S 12 4 0) 3) (cwV 1 hts gX3_setPriority_X3_fails rfl rfl rfl (by decide +kernel) ⟨Nat.le_of_ble_eq_true rfl, Nat.le_of_ble_eq_true rfl⟩) (fk_rvM hK hP) hK hP hD hS hA rfl hl.1 rfl (Nat.le_of_ble_eq_true rfl) dX3_setPriority_41 ⟨Nat.le_of_ble_eq_true rfl, Nat.le_of_ble_eq_true rfl⟩ (fun H locs hP hD hS => ?_)
  refine W.eq (g2 := F0 m 44 ls [.int 0]) rfl ?_
  exact fk_iret hx hb hr hlocks hP hK hD hS (congrArg (fun z => fk_mW bd cI z ++ X) (by exact fk_up_up S 12 4 0 3)) (by rfl) dX3_setPriority_44

abbrev rmX3_stateOf : Room := { frames := 1, cells := 0, slots := 0, locals := 21 }
set_option maxHeartbeats 4000000 in
set_option maxRecDepth 100000 in
theorem mc_stateOf (l : Launch) (D : va_G) (bd : Nat → Nat) (cI cT cJ : ClassId) (X : va_W) (S : fk_S) (t : Nat) (ht : t < 8) : fk_C l D (fk_ty cI cT cJ) yX3_stateOf wsX3_stateOf rmX3_stateOf [.ref (bd 0), .int (nI t)] (fk_mW bd cI S ++ X) (some (.int (S 1 t))) (fk_mW bd cI (fk_up S 12 4 0) ++ X) := by
  refine fk_C_of (cc := cX3_stateOf) (maxL := 2) (ret := (some .int)) (own := RX3) (by decide) rfl rfl (Nat.le_of_ble_eq_true rfl) ?_
  intro p e s m below meth c A ls hx hb hr hlocks hml hts hown hA hP hK hD hl
  have hS : va_S A s.heap s.heap [] := va_S.rf
  have hl : lv_has ls 2 [(0, .ref (bd 0)), (1, .int (nI t))] := hl
  have hiX3 : ∀ w ∈ u_ws RX3 TX3 17, w ∈ wsX3_stateOf := by decide +kernel
  refine lv_aload_n hx hb dX3_stateOf_0 rfl (lv_at hl 0 rfl) ?_
  refine lv_iload_n hx hb dX3_stateOf_1 rfl (lv_at hl 1 rfl) ?_
  refine fk_callS (As := [.int (nI t)]) (rest := [.ref (bd 0)]) ⟨hx, hb, hml, hown, hts⟩ (by have h9 := (mc_isThread l D bd cI cT cJ X S (nI t)); rw [fk_isT_nI (by omega)] at h9; exact h9) (va_cwS 1 hts gX3_stateOf_X3_isThread rfl rfl rfl (by decide +kernel) ⟨Nat.le_of_ble_eq_true rfl, Nat.le_of_ble_eq_true rfl⟩) hK hP hD hS hA rfl hl.1 rfl (Nat.le_of_ble_eq_true rfl) dX3_stateOf_2 ⟨Nat.le_of_ble_eq_true rfl, Nat.le_of_ble_eq_true rfl⟩ (fun H locs hP hD hS => ?_)
  refine W.eq (g2 := F0 m 5 ls [.int 1, .ref (bd 0)]) rfl ?_
  refine fk_callV (As := [.int 1]) (rest := []) ⟨hx, hb, hml, hown, hts⟩ (mc_asks_t l D bd cI cT cJ X S) (cwV 1 hts gX3_stateOf_X3_asks rfl rfl rfl (by decide +kernel) ⟨Nat.le_of_ble_eq_true rfl, Nat.le_of_ble_eq_true rfl⟩) (fk_rvM hK hP) hK hP hD hS hA rfl hl.1 rfl (Nat.le_of_ble_eq_true rfl) dX3_stateOf_5 ⟨Nat.le_of_ble_eq_true rfl, Nat.le_of_ble_eq_true rfl⟩ (fun H locs hP hD hS => ?_)
  refine W.eq (g2 := F0 m 8 ls [.int 1]) rfl ?_
  refine lv_if_eq (tgt := 20) hx hb dX3_stateOf_8 (by decide) (fun c => absurd c (by decide)) (fun _ => ?_)
  refine lv_aload_n hx hb dX3_stateOf_11 rfl (lv_at hl 0 rfl) ?_
  refine fk_getM hx hb hts hiX3 hown hK hP 1 (by decide) (v := .ref (bd 2)) rfl (List.mem_of_getElem? (i := 1) rfl) rfl dX3_stateOf_12 ?_
  refine lv_iload_n hx hb dX3_stateOf_15 rfl (lv_at hl 1 rfl) ?_
  refine fk_ldN hx hb hK hP 1 1 8 rfl (by decide) rfl rfl (vp_in_nI (show t < 8 from (by omega)) (by decide)) dX3_stateOf_16 ?_
  refine W.eq (g2 := F0 m 17 ls [.int (S 1 t)]) (by simp [fk_up, mm_set, nI_clamp (n := t) (by omega)]) ?_
  refine lv_goto (tgt := 21) hx hb dX3_stateOf_17 (by decide) ?_
  exact fk_iret hx hb hr hlocks hP hK hD hS (congrArg (fun z => fk_mW bd cI z ++ X) (by rfl)) (by rfl) dX3_stateOf_21

set_option maxHeartbeats 4000000 in
set_option maxRecDepth 100000 in
theorem mn_stateOf (l : Launch) (D : va_G) (bd : Nat → Nat) (cI cT cJ : ClassId) (X : va_W) (S : fk_S) (th : Int32) (h : fk_isT th = false) : fk_C l D (fk_ty cI cT cJ) yX3_stateOf wsX3_stateOf rmX3_stateOf [.ref (bd 0), .int th] (fk_mW bd cI S ++ X) (some (.int 0)) (fk_mW bd cI (fk_up S 12 4 1) ++ X) := by
  refine fk_C_of (cc := cX3_stateOf) (maxL := 2) (ret := (some .int)) (own := RX3) (by decide) rfl rfl (Nat.le_of_ble_eq_true rfl) ?_
  intro p e s m below meth c A ls hx hb hr hlocks hml hts hown hA hP hK hD hl
  have hS : va_S A s.heap s.heap [] := va_S.rf
  have hl : lv_has ls 2 [(0, .ref (bd 0)), (1, .int th)] := hl
  refine lv_aload_n hx hb dX3_stateOf_0 rfl (lv_at hl 0 rfl) ?_
  refine lv_iload_n hx hb dX3_stateOf_1 rfl (lv_at hl 1 rfl) ?_
  refine fk_callS (As := [.int th]) (rest := [.ref (bd 0)]) ⟨hx, hb, hml, hown, hts⟩ (by have h9 := (mc_isThread l D bd cI cT cJ X S th); rw [h] at h9; exact h9) (va_cwS 1 hts gX3_stateOf_X3_isThread rfl rfl rfl (by decide +kernel) ⟨Nat.le_of_ble_eq_true rfl, Nat.le_of_ble_eq_true rfl⟩) hK hP hD hS hA rfl hl.1 rfl (Nat.le_of_ble_eq_true rfl) dX3_stateOf_2 ⟨Nat.le_of_ble_eq_true rfl, Nat.le_of_ble_eq_true rfl⟩ (fun H locs hP hD hS => ?_)
  refine W.eq (g2 := F0 m 5 ls [.int 0, .ref (bd 0)]) rfl ?_
  refine fk_callV (As := [.int 0]) (rest := []) ⟨hx, hb, hml, hown, hts⟩ (mc_asks_f l D bd cI cT cJ X S) (cwV 1 hts gX3_stateOf_X3_asks rfl rfl rfl (by decide +kernel) ⟨Nat.le_of_ble_eq_true rfl, Nat.le_of_ble_eq_true rfl⟩) (fk_rvM hK hP) hK hP hD hS hA rfl hl.1 rfl (Nat.le_of_ble_eq_true rfl) dX3_stateOf_5 ⟨Nat.le_of_ble_eq_true rfl, Nat.le_of_ble_eq_true rfl⟩ (fun H locs hP hD hS => ?_)
  refine W.eq (g2 := F0 m 8 ls [.int 0]) rfl ?_
  refine lv_if_eq (tgt := 20) hx hb dX3_stateOf_8 (by decide) (fun _ => ?_) (fun c => absurd c (by decide))
  refine lv_iconst (v := 0) hx hb dX3_stateOf_20 (by decide) ?_
  exact fk_iret hx hb hr hlocks hP hK hD hS (congrArg (fun z => fk_mW bd cI z ++ X) (by rfl)) (by rfl) dX3_stateOf_21

abbrev rmX3_resultOf : Room := { frames := 1, cells := 0, slots := 0, locals := 21 }
set_option maxHeartbeats 4000000 in
set_option maxRecDepth 100000 in
theorem mc_resultOf (l : Launch) (D : va_G) (bd : Nat → Nat) (cI cT cJ : ClassId) (X : va_W) (S : fk_S) (t : Nat) (ht : t < 8) : fk_C l D (fk_ty cI cT cJ) yX3_resultOf wsX3_resultOf rmX3_resultOf [.ref (bd 0), .int (nI t)] (fk_mW bd cI S ++ X) (some (.int (S 8 t))) (fk_mW bd cI (fk_up S 12 4 0) ++ X) := by
  refine fk_C_of (cc := cX3_resultOf) (maxL := 2) (ret := (some .int)) (own := RX3) (by decide) rfl rfl (Nat.le_of_ble_eq_true rfl) ?_
  intro p e s m below meth c A ls hx hb hr hlocks hml hts hown hA hP hK hD hl
  have hS : va_S A s.heap s.heap [] := va_S.rf
  have hl : lv_has ls 2 [(0, .ref (bd 0)), (1, .int (nI t))] := hl
  have hiX3 : ∀ w ∈ u_ws RX3 TX3 17, w ∈ wsX3_resultOf := by decide +kernel
  refine lv_aload_n hx hb dX3_resultOf_0 rfl (lv_at hl 0 rfl) ?_
  refine lv_iload_n hx hb dX3_resultOf_1 rfl (lv_at hl 1 rfl) ?_
  refine fk_callS (As := [.int (nI t)]) (rest := [.ref (bd 0)]) ⟨hx, hb, hml, hown, hts⟩ (by have h9 := (mc_isThread l D bd cI cT cJ X S (nI t)); rw [fk_isT_nI (by omega)] at h9; exact h9) (va_cwS 1 hts gX3_resultOf_X3_isThread rfl rfl rfl (by decide +kernel) ⟨Nat.le_of_ble_eq_true rfl, Nat.le_of_ble_eq_true rfl⟩) hK hP hD hS hA rfl hl.1 rfl (Nat.le_of_ble_eq_true rfl) dX3_resultOf_2 ⟨Nat.le_of_ble_eq_true rfl, Nat.le_of_ble_eq_true rfl⟩ (fun H locs hP hD hS => ?_)
  refine W.eq (g2 := F0 m 5 ls [.int 1, .ref (bd 0)]) rfl ?_
  refine fk_callV (As := [.int 1]) (rest := []) ⟨hx, hb, hml, hown, hts⟩ (mc_asks_t l D bd cI cT cJ X S) (cwV 1 hts gX3_resultOf_X3_asks rfl rfl rfl (by decide +kernel) ⟨Nat.le_of_ble_eq_true rfl, Nat.le_of_ble_eq_true rfl⟩) (fk_rvM hK hP) hK hP hD hS hA rfl hl.1 rfl (Nat.le_of_ble_eq_true rfl) dX3_resultOf_5 ⟨Nat.le_of_ble_eq_true rfl, Nat.le_of_ble_eq_true rfl⟩ (fun H locs hP hD hS => ?_)
  refine W.eq (g2 := F0 m 8 ls [.int 1]) rfl ?_
  refine lv_if_eq (tgt := 20) hx hb dX3_resultOf_8 (by decide) (fun c => absurd c (by decide)) (fun _ => ?_)
  refine lv_aload_n hx hb dX3_resultOf_11 rfl (lv_at hl 0 rfl) ?_
  refine fk_getM hx hb hts hiX3 hown hK hP 3 (by decide) (v := .ref (bd 4)) rfl (List.mem_of_getElem? (i := 1) rfl) rfl dX3_resultOf_12 ?_
  refine lv_iload_n hx hb dX3_resultOf_15 rfl (lv_at hl 1 rfl) ?_
  refine fk_ldN hx hb hK hP 3 8 8 rfl (by decide) rfl rfl (vp_in_nI (show t < 8 from (by omega)) (by decide)) dX3_resultOf_16 ?_
  refine W.eq (g2 := F0 m 17 ls [.int (S 8 t)]) (by simp [fk_up, mm_set, nI_clamp (n := t) (by omega)]) ?_
  refine lv_goto (tgt := 21) hx hb dX3_resultOf_17 (by decide) ?_
  exact fk_iret hx hb hr hlocks hP hK hD hS (congrArg (fun z => fk_mW bd cI z ++ X) (by rfl)) (by rfl) dX3_resultOf_21

set_option maxHeartbeats 4000000 in
set_option maxRecDepth 100000 in
theorem mn_resultOf (l : Launch) (D : va_G) (bd : Nat → Nat) (cI cT cJ : ClassId) (X : va_W) (S : fk_S) (th : Int32) (h : fk_isT th = false) : fk_C l D (fk_ty cI cT cJ) yX3_resultOf wsX3_resultOf rmX3_resultOf [.ref (bd 0), .int th] (fk_mW bd cI S ++ X) (some (.int 0)) (fk_mW bd cI (fk_up S 12 4 1) ++ X) := by
  refine fk_C_of (cc := cX3_resultOf) (maxL := 2) (ret := (some .int)) (own := RX3) (by decide) rfl rfl (Nat.le_of_ble_eq_true rfl) ?_
  intro p e s m below meth c A ls hx hb hr hlocks hml hts hown hA hP hK hD hl
  have hS : va_S A s.heap s.heap [] := va_S.rf
  have hl : lv_has ls 2 [(0, .ref (bd 0)), (1, .int th)] := hl
  refine lv_aload_n hx hb dX3_resultOf_0 rfl (lv_at hl 0 rfl) ?_
  refine lv_iload_n hx hb dX3_resultOf_1 rfl (lv_at hl 1 rfl) ?_
  refine fk_callS (As := [.int th]) (rest := [.ref (bd 0)]) ⟨hx, hb, hml, hown, hts⟩ (by have h9 := (mc_isThread l D bd cI cT cJ X S th); rw [h] at h9; exact h9) (va_cwS 1 hts gX3_resultOf_X3_isThread rfl rfl rfl (by decide +kernel) ⟨Nat.le_of_ble_eq_true rfl, Nat.le_of_ble_eq_true rfl⟩) hK hP hD hS hA rfl hl.1 rfl (Nat.le_of_ble_eq_true rfl) dX3_resultOf_2 ⟨Nat.le_of_ble_eq_true rfl, Nat.le_of_ble_eq_true rfl⟩ (fun H locs hP hD hS => ?_)
  refine W.eq (g2 := F0 m 5 ls [.int 0, .ref (bd 0)]) rfl ?_
  refine fk_callV (As := [.int 0]) (rest := []) ⟨hx, hb, hml, hown, hts⟩ (mc_asks_f l D bd cI cT cJ X S) (cwV 1 hts gX3_resultOf_X3_asks rfl rfl rfl (by decide +kernel) ⟨Nat.le_of_ble_eq_true rfl, Nat.le_of_ble_eq_true rfl⟩) (fk_rvM hK hP) hK hP hD hS hA rfl hl.1 rfl (Nat.le_of_ble_eq_true rfl) dX3_resultOf_5 ⟨Nat.le_of_ble_eq_true rfl, Nat.le_of_ble_eq_true rfl⟩ (fun H locs hP hD hS => ?_)
  refine W.eq (g2 := F0 m 8 ls [.int 0]) rfl ?_
  refine lv_if_eq (tgt := 20) hx hb dX3_resultOf_8 (by decide) (fun _ => ?_) (fun c => absurd c (by decide))
  refine lv_iconst (v := 0) hx hb dX3_resultOf_20 (by decide) ?_
  exact fk_iret hx hb hr hlocks hP hK hD hS (congrArg (fun z => fk_mW bd cI z ++ X) (by rfl)) (by rfl) dX3_resultOf_21

abbrev rmX3_serialOf : Room := { frames := 1, cells := 0, slots := 0, locals := 21 }
set_option maxHeartbeats 4000000 in
set_option maxRecDepth 100000 in
theorem mc_serialOf (l : Launch) (D : va_G) (bd : Nat → Nat) (cI cT cJ : ClassId) (X : va_W) (S : fk_S) (t : Nat) (ht : t < 8) : fk_C l D (fk_ty cI cT cJ) yX3_serialOf wsX3_serialOf rmX3_serialOf [.ref (bd 0), .int (nI t)] (fk_mW bd cI S ++ X) (some (.int (S 9 t))) (fk_mW bd cI (fk_up S 12 4 0) ++ X) := by
  refine fk_C_of (cc := cX3_serialOf) (maxL := 2) (ret := (some .int)) (own := RX3) (by decide) rfl rfl (Nat.le_of_ble_eq_true rfl) ?_
  intro p e s m below meth c A ls hx hb hr hlocks hml hts hown hA hP hK hD hl
  have hS : va_S A s.heap s.heap [] := va_S.rf
  have hl : lv_has ls 2 [(0, .ref (bd 0)), (1, .int (nI t))] := hl
  have hiX3 : ∀ w ∈ u_ws RX3 TX3 17, w ∈ wsX3_serialOf := by decide +kernel
  refine lv_aload_n hx hb dX3_serialOf_0 rfl (lv_at hl 0 rfl) ?_
  refine lv_iload_n hx hb dX3_serialOf_1 rfl (lv_at hl 1 rfl) ?_
  refine fk_callS (As := [.int (nI t)]) (rest := [.ref (bd 0)]) ⟨hx, hb, hml, hown, hts⟩ (by have h9 := (mc_isThread l D bd cI cT cJ X S (nI t)); rw [fk_isT_nI (by omega)] at h9; exact h9) (va_cwS 1 hts gX3_serialOf_X3_isThread rfl rfl rfl (by decide +kernel) ⟨Nat.le_of_ble_eq_true rfl, Nat.le_of_ble_eq_true rfl⟩) hK hP hD hS hA rfl hl.1 rfl (Nat.le_of_ble_eq_true rfl) dX3_serialOf_2 ⟨Nat.le_of_ble_eq_true rfl, Nat.le_of_ble_eq_true rfl⟩ (fun H locs hP hD hS => ?_)
  refine W.eq (g2 := F0 m 5 ls [.int 1, .ref (bd 0)]) rfl ?_
  refine fk_callV (As := [.int 1]) (rest := []) ⟨hx, hb, hml, hown, hts⟩ (mc_asks_t l D bd cI cT cJ X S) (cwV 1 hts gX3_serialOf_X3_asks rfl rfl rfl (by decide +kernel) ⟨Nat.le_of_ble_eq_true rfl, Nat.le_of_ble_eq_true rfl⟩) (fk_rvM hK hP) hK hP hD hS hA rfl hl.1 rfl (Nat.le_of_ble_eq_true rfl) dX3_serialOf_5 ⟨Nat.le_of_ble_eq_true rfl, Nat.le_of_ble_eq_true rfl⟩ (fun H locs hP hD hS => ?_)
  refine W.eq (g2 := F0 m 8 ls [.int 1]) rfl ?_
  refine lv_if_eq (tgt := 20) hx hb dX3_serialOf_8 (by decide) (fun c => absurd c (by decide)) (fun _ => ?_)
  refine lv_aload_n hx hb dX3_serialOf_11 rfl (lv_at hl 0 rfl) ?_
  refine fk_getM hx hb hts hiX3 hown hK hP 4 (by decide) (v := .ref (bd 5)) rfl (List.mem_of_getElem? (i := 1) rfl) rfl dX3_serialOf_12 ?_
  refine lv_iload_n hx hb dX3_serialOf_15 rfl (lv_at hl 1 rfl) ?_
  refine fk_ldN hx hb hK hP 4 9 8 rfl (by decide) rfl rfl (vp_in_nI (show t < 8 from (by omega)) (by decide)) dX3_serialOf_16 ?_
  refine W.eq (g2 := F0 m 17 ls [.int (S 9 t)]) (by simp [fk_up, mm_set, nI_clamp (n := t) (by omega)]) ?_
  refine lv_goto (tgt := 21) hx hb dX3_serialOf_17 (by decide) ?_
  exact fk_iret hx hb hr hlocks hP hK hD hS (congrArg (fun z => fk_mW bd cI z ++ X) (by rfl)) (by rfl) dX3_serialOf_21

set_option maxHeartbeats 4000000 in
set_option maxRecDepth 100000 in
theorem mn_serialOf (l : Launch) (D : va_G) (bd : Nat → Nat) (cI cT cJ : ClassId) (X : va_W) (S : fk_S) (th : Int32) (h : fk_isT th = false) : fk_C l D (fk_ty cI cT cJ) yX3_serialOf wsX3_serialOf rmX3_serialOf [.ref (bd 0), .int th] (fk_mW bd cI S ++ X) (some (.int 0)) (fk_mW bd cI (fk_up S 12 4 1) ++ X) := by
  refine fk_C_of (cc := cX3_serialOf) (maxL := 2) (ret := (some .int)) (own := RX3) (by decide) rfl rfl (Nat.le_of_ble_eq_true rfl) ?_
  intro p e s m below meth c A ls hx hb hr hlocks hml hts hown hA hP hK hD hl
  have hS : va_S A s.heap s.heap [] := va_S.rf
  have hl : lv_has ls 2 [(0, .ref (bd 0)), (1, .int th)] := hl
  refine lv_aload_n hx hb dX3_serialOf_0 rfl (lv_at hl 0 rfl) ?_
  refine lv_iload_n hx hb dX3_serialOf_1 rfl (lv_at hl 1 rfl) ?_
  refine fk_callS (As := [.int th]) (rest := [.ref (bd 0)]) ⟨hx, hb, hml, hown, hts⟩ (by have h9 := (mc_isThread l D bd cI cT cJ X S th); rw [h] at h9; exact h9) (va_cwS 1 hts gX3_serialOf_X3_isThread rfl rfl rfl (by decide +kernel) ⟨Nat.le_of_ble_eq_true rfl, Nat.le_of_ble_eq_true rfl⟩) hK hP hD hS hA rfl hl.1 rfl (Nat.le_of_ble_eq_true rfl) dX3_serialOf_2 ⟨Nat.le_of_ble_eq_true rfl, Nat.le_of_ble_eq_true rfl⟩ (fun H locs hP hD hS => ?_)
  refine W.eq (g2 := F0 m 5 ls [.int 0, .ref (bd 0)]) rfl ?_
  refine fk_callV (As := [.int 0]) (rest := []) ⟨hx, hb, hml, hown, hts⟩ (mc_asks_f l D bd cI cT cJ X S) (cwV 1 hts gX3_serialOf_X3_asks rfl rfl rfl (by decide +kernel) ⟨Nat.le_of_ble_eq_true rfl, Nat.le_of_ble_eq_true rfl⟩) (fk_rvM hK hP) hK hP hD hS hA rfl hl.1 rfl (Nat.le_of_ble_eq_true rfl) dX3_serialOf_5 ⟨Nat.le_of_ble_eq_true rfl, Nat.le_of_ble_eq_true rfl⟩ (fun H locs hP hD hS => ?_)
  refine W.eq (g2 := F0 m 8 ls [.int 0]) rfl ?_
  refine lv_if_eq (tgt := 20) hx hb dX3_serialOf_8 (by decide) (fun _ => ?_) (fun c => absurd c (by decide))
  refine lv_iconst (v := 0) hx hb dX3_serialOf_20 (by decide) ?_
  exact fk_iret hx hb hr hlocks hP hK hD hS (congrArg (fun z => fk_mW bd cI z ++ X) (by rfl)) (by rfl) dX3_serialOf_21

abbrev rmX3_addressOf : Room := { frames := 1, cells := 0, slots := 0, locals := 21 }
set_option maxHeartbeats 4000000 in
set_option maxRecDepth 100000 in
theorem mc_addressOf (l : Launch) (D : va_G) (bd : Nat → Nat) (cI cT cJ : ClassId) (X : va_W) (S : fk_S) (t : Nat) (ht : t < 8) : fk_C l D (fk_ty cI cT cJ) yX3_addressOf wsX3_addressOf rmX3_addressOf [.ref (bd 0), .int (nI t)] (fk_mW bd cI S ++ X) (some (.int (if mm_q S t = true then S 3 t else -1))) (fk_mW bd cI (fk_up S 12 4 0) ++ X) := by
  refine fk_C_of (cc := cX3_addressOf) (maxL := 2) (ret := (some .int)) (own := RX3) (by decide) rfl rfl (Nat.le_of_ble_eq_true rfl) ?_
  intro p e s m below meth c A ls hx hb hr hlocks hml hts hown hA hP hK hD hl
  have hS : va_S A s.heap s.heap [] := va_S.rf
  have hl : lv_has ls 2 [(0, .ref (bd 0)), (1, .int (nI t))] := hl
  have hiX3 : ∀ w ∈ u_ws RX3 TX3 17, w ∈ wsX3_addressOf := by decide +kernel
  refine lv_aload_n hx hb dX3_addressOf_0 rfl (lv_at hl 0 rfl) ?_
  refine lv_iload_n hx hb dX3_addressOf_1 rfl (lv_at hl 1 rfl) ?_
  refine fk_callS (As := [.int (nI t)]) (rest := [.ref (bd 0)]) ⟨hx, hb, hml, hown, hts⟩ (by have h9 := (mc_isThread l D bd cI cT cJ X S (nI t)); rw [fk_isT_nI (by omega)] at h9; exact h9) (va_cwS 1 hts gX3_addressOf_X3_isThread rfl rfl rfl (by decide +kernel) ⟨Nat.le_of_ble_eq_true rfl, Nat.le_of_ble_eq_true rfl⟩) hK hP hD hS hA rfl hl.1 rfl (Nat.le_of_ble_eq_true rfl) dX3_addressOf_2 ⟨Nat.le_of_ble_eq_true rfl, Nat.le_of_ble_eq_true rfl⟩ (fun H locs hP hD hS => ?_)
  refine W.eq (g2 := F0 m 5 ls [.int 1, .ref (bd 0)]) rfl ?_
  refine fk_callV (As := [.int 1]) (rest := []) ⟨hx, hb, hml, hown, hts⟩ (mc_asks_t l D bd cI cT cJ X S) (cwV 1 hts gX3_addressOf_X3_asks rfl rfl rfl (by decide +kernel) ⟨Nat.le_of_ble_eq_true rfl, Nat.le_of_ble_eq_true rfl⟩) (fk_rvM hK hP) hK hP hD hS hA rfl hl.1 rfl (Nat.le_of_ble_eq_true rfl) dX3_addressOf_5 ⟨Nat.le_of_ble_eq_true rfl, Nat.le_of_ble_eq_true rfl⟩ (fun H locs hP hD hS => ?_)
  refine W.eq (g2 := F0 m 8 ls [.int 1]) rfl ?_
  refine lv_if_eq (tgt := 32) hx hb dX3_addressOf_8 (by decide) (fun c => absurd c (by decide)) (fun _ => ?_)
  refine lv_aload_n hx hb dX3_addressOf_11 rfl (lv_at hl 0 rfl) ?_
  refine lv_iload_n hx hb dX3_addressOf_12 rfl (lv_at hl 1 rfl) ?_
  refine fk_callV (As := [.int (nI t)]) (rest := []) ⟨hx, hb, hml, hown, hts⟩ (mc_isQueued l D bd cI cT cJ X (fk_up S 12 4 0) t ht) (cwV 1 hts gX3_addressOf_X3_isQueued rfl rfl rfl (by decide +kernel) ⟨Nat.le_of_ble_eq_true rfl, Nat.le_of_ble_eq_true rfl⟩) (fk_rvM hK hP) hK hP hD hS hA rfl hl.1 rfl (Nat.le_of_ble_eq_true rfl) dX3_addressOf_13 ⟨Nat.le_of_ble_eq_true rfl, Nat.le_of_ble_eq_true rfl⟩ (fun H locs hP hD hS => ?_)
  cases b_2 : mm_q (fk_up S 12 4 0) t with
  | true =>
    refine W.eq (g2 := F0 m 16 ls [.int 1]) (by first | rfl | (rw [b_2]; rfl)) ?_
    refine lv_if_eq (tgt := 28) hx hb dX3_addressOf_16 (by decide) (fun c => absurd c (by decide)) (fun _ => ?_)
    refine lv_aload_n hx hb dX3_addressOf_19 rfl (lv_at hl 0 rfl) ?_
    refine fk_getM hx hb hts hiX3 hown hK hP 5 (by decide) (v := .ref (bd 6)) rfl (List.mem_of_getElem? (i := 1) rfl) rfl dX3_addressOf_20 ?_
    refine lv_iload_n hx hb dX3_addressOf_23 rfl (lv_at hl 1 rfl) ?_
    refine fk_ldN hx hb hK hP 5 3 8 rfl (by decide) rfl rfl (vp_in_nI (show t < 8 from (by omega)) (by decide)) dX3_addressOf_24 ?_
    refine W.eq (g2 := F0 m 25 ls [.int (S 3 t)]) (by simp [fk_up, mm_set, nI_clamp (n := t) (by omega)]) ?_
    refine lv_goto (tgt := 33) hx hb dX3_addressOf_25 (by decide) ?_
    exact fk_iret hx hb hr hlocks hP hK hD hS (congrArg (fun z => fk_mW bd cI z ++ X) (by rfl)) (by have h9 : mm_q S t = _ := b_2; simp [h9]) dX3_addressOf_33
  | false =>
    refine W.eq (g2 := F0 m 16 ls [.int 0]) (by first | rfl | (rw [b_2]; rfl)) ?_
    refine lv_if_eq (tgt := 28) hx hb dX3_addressOf_16 (by decide) (fun _ => ?_) (fun c => absurd c (by decide))
    refine lv_iconst (v := (-1)) hx hb dX3_addressOf_28 (by decide) ?_
    refine lv_goto (tgt := 33) hx hb dX3_addressOf_29 (by decide) ?_
    exact fk_iret hx hb hr hlocks hP hK hD hS (congrArg (fun z => fk_mW bd cI z ++ X) (by rfl)) (by have h9 : mm_q S t = _ := b_2; simp [h9]) dX3_addressOf_33

set_option maxHeartbeats 4000000 in
set_option maxRecDepth 100000 in
theorem mn_addressOf (l : Launch) (D : va_G) (bd : Nat → Nat) (cI cT cJ : ClassId) (X : va_W) (S : fk_S) (th : Int32) (h : fk_isT th = false) : fk_C l D (fk_ty cI cT cJ) yX3_addressOf wsX3_addressOf rmX3_addressOf [.ref (bd 0), .int th] (fk_mW bd cI S ++ X) (some (.int 0)) (fk_mW bd cI (fk_up S 12 4 1) ++ X) := by
  refine fk_C_of (cc := cX3_addressOf) (maxL := 2) (ret := (some .int)) (own := RX3) (by decide) rfl rfl (Nat.le_of_ble_eq_true rfl) ?_
  intro p e s m below meth c A ls hx hb hr hlocks hml hts hown hA hP hK hD hl
  have hS : va_S A s.heap s.heap [] := va_S.rf
  have hl : lv_has ls 2 [(0, .ref (bd 0)), (1, .int th)] := hl
  refine lv_aload_n hx hb dX3_addressOf_0 rfl (lv_at hl 0 rfl) ?_
  refine lv_iload_n hx hb dX3_addressOf_1 rfl (lv_at hl 1 rfl) ?_
  refine fk_callS (As := [.int th]) (rest := [.ref (bd 0)]) ⟨hx, hb, hml, hown, hts⟩ (by have h9 := (mc_isThread l D bd cI cT cJ X S th); rw [h] at h9; exact h9) (va_cwS 1 hts gX3_addressOf_X3_isThread rfl rfl rfl (by decide +kernel) ⟨Nat.le_of_ble_eq_true rfl, Nat.le_of_ble_eq_true rfl⟩) hK hP hD hS hA rfl hl.1 rfl (Nat.le_of_ble_eq_true rfl) dX3_addressOf_2 ⟨Nat.le_of_ble_eq_true rfl, Nat.le_of_ble_eq_true rfl⟩ (fun H locs hP hD hS => ?_)
  refine W.eq (g2 := F0 m 5 ls [.int 0, .ref (bd 0)]) rfl ?_
  refine fk_callV (As := [.int 0]) (rest := []) ⟨hx, hb, hml, hown, hts⟩ (mc_asks_f l D bd cI cT cJ X S) (cwV 1 hts gX3_addressOf_X3_asks rfl rfl rfl (by decide +kernel) ⟨Nat.le_of_ble_eq_true rfl, Nat.le_of_ble_eq_true rfl⟩) (fk_rvM hK hP) hK hP hD hS hA rfl hl.1 rfl (Nat.le_of_ble_eq_true rfl) dX3_addressOf_5 ⟨Nat.le_of_ble_eq_true rfl, Nat.le_of_ble_eq_true rfl⟩ (fun H locs hP hD hS => ?_)
  refine W.eq (g2 := F0 m 8 ls [.int 0]) rfl ?_
  refine lv_if_eq (tgt := 32) hx hb dX3_addressOf_8 (by decide) (fun _ => ?_) (fun c => absurd c (by decide))
  refine lv_iconst (v := 0) hx hb dX3_addressOf_32 (by decide) ?_
  exact fk_iret hx hb hr hlocks hP hK hD hS (congrArg (fun z => fk_mW bd cI z ++ X) (by rfl)) (by rfl) dX3_addressOf_33

abbrev rmX3_now : Room := { frames := 0, cells := 0, slots := 0, locals := 0 }
set_option maxHeartbeats 4000000 in
set_option maxRecDepth 100000 in
theorem mc_now (l : Launch) (D : va_G) (bd : Nat → Nat) (cI cT cJ : ClassId) (X : va_W) (S : fk_S)  : fk_C l D (fk_ty cI cT cJ) yX3_now wsX3_now rmX3_now [.ref (bd 0)] (fk_mW bd cI S ++ X) (some (.int (S 12 0))) (fk_mW bd cI (fk_up S 12 4 0) ++ X) := by
  refine fk_C_of (cc := cX3_now) (maxL := 1) (ret := (some .int)) (own := RX3) (by decide) rfl rfl (Nat.le_of_ble_eq_true rfl) ?_
  intro p e s m below meth c A ls hx hb hr hlocks hml hts hown hA hP hK hD hl
  have hS : va_S A s.heap s.heap [] := va_S.rf
  have hl : lv_has ls 1 [(0, .ref (bd 0))] := hl
  have hiX3 : ∀ w ∈ u_ws RX3 TX3 17, w ∈ wsX3_now := by decide +kernel
  refine lv_aload_n hx hb dX3_now_0 rfl (lv_at hl 0 rfl) ?_
  refine lv_iconst (v := 0) hx hb dX3_now_1 (by decide) ?_
  refine fk_putM (v := 0) hx hb hts hiX3 hown hK hP hD hS 4 (by decide) (by simp [fk_fM, fk_up]) (List.mem_of_getElem? (i := 1) rfl) rfl rfl (by decide +kernel) dX3_now_2 (fun H locs hP hD hS => ?_)
  refine lv_aload_n hx hb dX3_now_5 rfl (lv_at hl 0 rfl) ?_
  refine fk_getM hx hb hts hiX3 hown hK hP 12 (by decide) (v := .int (S 12 0)) (by simp [fk_fM, fk_up, mm_set]) (List.mem_of_getElem? (i := 2) rfl) rfl dX3_now_6 ?_
  exact fk_iret hx hb hr hlocks hP hK hD hS (congrArg (fun z => fk_mW bd cI z ++ X) (by rfl)) (by rfl) dX3_now_9

abbrev rmX3_waiters : Room := { frames := 2, cells := 0, slots := 0, locals := 44 }
set_option maxHeartbeats 4000000 in
set_option maxRecDepth 100000 in
theorem mc_waiters (l : Launch) (D : va_G) (bd : Nat → Nat) (cI cT cJ : ClassId) (X : va_W) (S : fk_S) (a : Nat) (ha : a < 16) : fk_C l D (fk_ty cI cT cJ) yX3_waiters wsX3_waiters rmX3_waiters [.ref (bd 0), .int (nI a)] (fk_mW bd cI S ++ X) (some (.int (mm_cntA (fk_up S 12 4 0) (nI a)))) (fk_mW bd cI (fk_up S 12 4 0) ++ X) := by
  refine fk_C_of (cc := cX3_waiters) (maxL := 2) (ret := (some .int)) (own := RX3) (by decide) rfl rfl (Nat.le_of_ble_eq_true rfl) ?_
  intro p e s m below meth c A ls hx hb hr hlocks hml hts hown hA hP hK hD hl
  have hS : va_S A s.heap s.heap [] := va_S.rf
  have hl : lv_has ls 2 [(0, .ref (bd 0)), (1, .int (nI a))] := hl
  refine lv_aload_n hx hb dX3_waiters_0 rfl (lv_at hl 0 rfl) ?_
  refine lv_iload_n hx hb dX3_waiters_1 rfl (lv_at hl 1 rfl) ?_
  refine fk_callS (As := [.int (nI a)]) (rest := [.ref (bd 0)]) ⟨hx, hb, hml, hown, hts⟩ (by have h9 := (mc_isAddress l D bd cI cT cJ X S (nI a)); rw [fk_isA_nI (by omega)] at h9; exact h9) (va_cwS 1 hts gX3_waiters_X3_isAddress rfl rfl rfl (by decide +kernel) ⟨Nat.le_of_ble_eq_true rfl, Nat.le_of_ble_eq_true rfl⟩) hK hP hD hS hA rfl hl.1 rfl (Nat.le_of_ble_eq_true rfl) dX3_waiters_2 ⟨Nat.le_of_ble_eq_true rfl, Nat.le_of_ble_eq_true rfl⟩ (fun H locs hP hD hS => ?_)
  refine W.eq (g2 := F0 m 5 ls [.int 1, .ref (bd 0)]) rfl ?_
  refine fk_callV (As := [.int 1]) (rest := []) ⟨hx, hb, hml, hown, hts⟩ (mc_asks_t l D bd cI cT cJ X S) (cwV 1 hts gX3_waiters_X3_asks rfl rfl rfl (by decide +kernel) ⟨Nat.le_of_ble_eq_true rfl, Nat.le_of_ble_eq_true rfl⟩) (fk_rvM hK hP) hK hP hD hS hA rfl hl.1 rfl (Nat.le_of_ble_eq_true rfl) dX3_waiters_5 ⟨Nat.le_of_ble_eq_true rfl, Nat.le_of_ble_eq_true rfl⟩ (fun H locs hP hD hS => ?_)
  refine W.eq (g2 := F0 m 8 ls [.int 1]) rfl ?_
  refine lv_if_eq (tgt := 19) hx hb dX3_waiters_8 (by decide) (fun c => absurd c (by decide)) (fun _ => ?_)
  refine lv_aload_n hx hb dX3_waiters_11 rfl (lv_at hl 0 rfl) ?_
  refine lv_iload_n hx hb dX3_waiters_12 rfl (lv_at hl 1 rfl) ?_
  refine fk_callV (As := [.int (nI a)]) (rest := []) ⟨hx, hb, hml, hown, hts⟩ (mc_countAt l D bd cI cT cJ X (fk_up S 12 4 0) (nI a)) (cwV 1 hts gX3_waiters_X3_countAt rfl rfl rfl (by decide +kernel) ⟨Nat.le_of_ble_eq_true rfl, Nat.le_of_ble_eq_true rfl⟩) (fk_rvM hK hP) hK hP hD hS hA rfl hl.1 rfl (Nat.le_of_ble_eq_true rfl) dX3_waiters_13 ⟨Nat.le_of_ble_eq_true rfl, Nat.le_of_ble_eq_true rfl⟩ (fun H locs hP hD hS => ?_)
  refine W.eq (g2 := F0 m 16 ls [.int (mm_cntA (fk_up S 12 4 0) (nI a))]) rfl ?_
  refine lv_goto (tgt := 20) hx hb dX3_waiters_16 (by decide) ?_
  exact fk_iret hx hb hr hlocks hP hK hD hS (congrArg (fun z => fk_mW bd cI z ++ X) (by rfl)) (by rfl) dX3_waiters_20

set_option maxHeartbeats 4000000 in
set_option maxRecDepth 100000 in
theorem mn_waiters (l : Launch) (D : va_G) (bd : Nat → Nat) (cI cT cJ : ClassId) (X : va_W) (S : fk_S) (av : Int32) (h : fk_isA av = false) : fk_C l D (fk_ty cI cT cJ) yX3_waiters wsX3_waiters rmX3_waiters [.ref (bd 0), .int av] (fk_mW bd cI S ++ X) (some (.int 0)) (fk_mW bd cI (fk_up S 12 4 1) ++ X) := by
  refine fk_C_of (cc := cX3_waiters) (maxL := 2) (ret := (some .int)) (own := RX3) (by decide) rfl rfl (Nat.le_of_ble_eq_true rfl) ?_
  intro p e s m below meth c A ls hx hb hr hlocks hml hts hown hA hP hK hD hl
  have hS : va_S A s.heap s.heap [] := va_S.rf
  have hl : lv_has ls 2 [(0, .ref (bd 0)), (1, .int av)] := hl
  refine lv_aload_n hx hb dX3_waiters_0 rfl (lv_at hl 0 rfl) ?_
  refine lv_iload_n hx hb dX3_waiters_1 rfl (lv_at hl 1 rfl) ?_
  refine fk_callS (As := [.int av]) (rest := [.ref (bd 0)]) ⟨hx, hb, hml, hown, hts⟩ (by have h9 := (mc_isAddress l D bd cI cT cJ X S av); rw [h] at h9; exact h9) (va_cwS 1 hts gX3_waiters_X3_isAddress rfl rfl rfl (by decide +kernel) ⟨Nat.le_of_ble_eq_true rfl, Nat.le_of_ble_eq_true rfl⟩) hK hP hD hS hA rfl hl.1 rfl (Nat.le_of_ble_eq_true rfl) dX3_waiters_2 ⟨Nat.le_of_ble_eq_true rfl, Nat.le_of_ble_eq_true rfl⟩ (fun H locs hP hD hS => ?_)
  refine W.eq (g2 := F0 m 5 ls [.int 0, .ref (bd 0)]) rfl ?_
  refine fk_callV (As := [.int 0]) (rest := []) ⟨hx, hb, hml, hown, hts⟩ (mc_asks_f l D bd cI cT cJ X S) (cwV 1 hts gX3_waiters_X3_asks rfl rfl rfl (by decide +kernel) ⟨Nat.le_of_ble_eq_true rfl, Nat.le_of_ble_eq_true rfl⟩) (fk_rvM hK hP) hK hP hD hS hA rfl hl.1 rfl (Nat.le_of_ble_eq_true rfl) dX3_waiters_5 ⟨Nat.le_of_ble_eq_true rfl, Nat.le_of_ble_eq_true rfl⟩ (fun H locs hP hD hS => ?_)
  refine W.eq (g2 := F0 m 8 ls [.int 0]) rfl ?_
  refine lv_if_eq (tgt := 19) hx hb dX3_waiters_8 (by decide) (fun _ => ?_) (fun c => absurd c (by decide))
  refine lv_iconst (v := 0) hx hb dX3_waiters_19 (by decide) ?_
  exact fk_iret hx hb hr hlocks hP hK hD hS (congrArg (fun z => fk_mW bd cI z ++ X) (by rfl)) (by rfl) dX3_waiters_20

abbrev rmX3_waiterAt : Room := { frames := 3, cells := 0, slots := 0, locals := 71 }
set_option maxHeartbeats 4000000 in
set_option maxRecDepth 100000 in
theorem mc_waiterAt (l : Launch) (D : va_G) (bd : Nat → Nat) (cI cT cJ : ClassId) (X : va_W) (S : fk_S) (a : Nat) (ha : a < 16) (q : Int32) (h0 : 0 ≤ q) (h1 : q < mm_cntA S (nI a)) : fk_C l D (fk_ty cI cT cJ) yX3_waiterAt wsX3_waiterAt rmX3_waiterAt [.ref (bd 0), .int (nI a), .int q] (fk_mW bd cI S ++ X) (some (.int (fk_oI (mm_th (fk_up S 12 4 0) (fk_bkt (nI a)) (nI a) q)))) (fk_mW bd cI (fk_up S 12 4 0) ++ X) := by
  refine fk_C_of (cc := cX3_waiterAt) (maxL := 3) (ret := (some .int)) (own := RX3) (by decide) rfl rfl (Nat.le_of_ble_eq_true rfl) ?_
  intro p e s m below meth c A ls hx hb hr hlocks hml hts hown hA hP hK hD hl
  have hS : va_S A s.heap s.heap [] := va_S.rf
  have hl : lv_has ls 3 [(0, .ref (bd 0)), (1, .int (nI a)), (2, .int q)] := hl
  refine lv_aload_n hx hb dX3_waiterAt_0 rfl (lv_at hl 0 rfl) ?_
  refine lv_iload_n hx hb dX3_waiterAt_1 rfl (lv_at hl 1 rfl) ?_
  refine fk_callS (As := [.int (nI a)]) (rest := [.ref (bd 0)]) ⟨hx, hb, hml, hown, hts⟩ (by have h9 := (mc_isAddress l D bd cI cT cJ X S (nI a)); rw [fk_isA_nI (by omega)] at h9; exact h9) (va_cwS 1 hts gX3_waiterAt_X3_isAddress rfl rfl rfl (by decide +kernel) ⟨Nat.le_of_ble_eq_true rfl, Nat.le_of_ble_eq_true rfl⟩) hK hP hD hS hA rfl hl.1 rfl (Nat.le_of_ble_eq_true rfl) dX3_waiterAt_2 ⟨Nat.le_of_ble_eq_true rfl, Nat.le_of_ble_eq_true rfl⟩ (fun H locs hP hD hS => ?_)
  refine W.eq (g2 := F0 m 5 ls [.int 1, .ref (bd 0)]) rfl ?_
  refine lv_if_eq (tgt := 25) hx hb dX3_waiterAt_5 (by decide) (fun c => absurd c (by decide)) (fun _ => ?_)
  refine lv_iload_n hx hb dX3_waiterAt_8 rfl (lv_at hl 2 rfl) ?_
  refine lv_if_lt (tgt := 25) hx hb dX3_waiterAt_9 (by decide) (fun c_2 => absurd c_2 (Int32.not_lt.mpr h0)) (fun c_2 => ?_)
  refine lv_iload_n hx hb dX3_waiterAt_12 rfl (lv_at hl 2 rfl) ?_
  refine lv_aload_n hx hb dX3_waiterAt_13 rfl (lv_at hl 0 rfl) ?_
  refine lv_iload_n hx hb dX3_waiterAt_14 rfl (lv_at hl 1 rfl) ?_
  refine fk_callV (As := [.int (nI a)]) (rest := [.int q, .ref (bd 0)]) ⟨hx, hb, hml, hown, hts⟩ (mc_countAt l D bd cI cT cJ X S (nI a)) (cwV 1 hts gX3_waiterAt_X3_countAt rfl rfl rfl (by decide +kernel) ⟨Nat.le_of_ble_eq_true rfl, Nat.le_of_ble_eq_true rfl⟩) (fk_rvM hK hP) hK hP hD hS hA rfl hl.1 rfl (Nat.le_of_ble_eq_true rfl) dX3_waiterAt_15 ⟨Nat.le_of_ble_eq_true rfl, Nat.le_of_ble_eq_true rfl⟩ (fun H locs hP hD hS => ?_)
  refine W.eq (g2 := F0 m 18 ls [.int (mm_cntA S (nI a)), .int q, .ref (bd 0)]) rfl ?_
  refine lv_icmp_ge (tgt := 25) hx hb dX3_waiterAt_18 (by decide) (fun c_3 => absurd c_3 (Int32.not_le.mpr h1)) (fun c_3 => ?_)
  refine lv_iconst (v := 1) hx hb dX3_waiterAt_21 (by decide) ?_
  refine lv_goto (tgt := 26) hx hb dX3_waiterAt_22 (by decide) ?_
  refine fk_callV (As := [.int 1]) (rest := []) ⟨hx, hb, hml, hown, hts⟩ (mc_asks_t l D bd cI cT cJ X S) (cwV 1 hts gX3_waiterAt_X3_asks rfl rfl rfl (by decide +kernel) ⟨Nat.le_of_ble_eq_true rfl, Nat.le_of_ble_eq_true rfl⟩) (fk_rvM hK hP) hK hP hD hS hA rfl hl.1 rfl (Nat.le_of_ble_eq_true rfl) dX3_waiterAt_26 ⟨Nat.le_of_ble_eq_true rfl, Nat.le_of_ble_eq_true rfl⟩ (fun H locs hP hD hS => ?_)
  refine W.eq (g2 := F0 m 29 ls [.int 1]) rfl ?_
  refine lv_if_eq (tgt := 45) hx hb dX3_waiterAt_29 (by decide) (fun c => absurd c (by decide)) (fun _ => ?_)
  refine lv_aload_n hx hb dX3_waiterAt_32 rfl (lv_at hl 0 rfl) ?_
  refine lv_iload_n hx hb dX3_waiterAt_33 rfl (lv_at hl 1 rfl) ?_
  refine fk_callS (As := [.int (nI a)]) (rest := [.ref (bd 0)]) ⟨hx, hb, hml, hown, hts⟩ (mc_bucketOf l D bd cI cT cJ X (fk_up S 12 4 0) (nI a)) (va_cwS 1 hts gX3_waiterAt_X3_bucketOf rfl rfl rfl (by decide +kernel) ⟨Nat.le_of_ble_eq_true rfl, Nat.le_of_ble_eq_true rfl⟩) hK hP hD hS hA rfl hl.1 rfl (Nat.le_of_ble_eq_true rfl) dX3_waiterAt_34 ⟨Nat.le_of_ble_eq_true rfl, Nat.le_of_ble_eq_true rfl⟩ (fun H locs hP hD hS => ?_)
  refine W.eq (g2 := F0 m 37 ls [.int (fk_bkt (nI a)), .ref (bd 0)]) rfl ?_
  refine lv_iload_n hx hb dX3_waiterAt_37 rfl (lv_at hl 1 rfl) ?_
  refine lv_iload_n hx hb dX3_waiterAt_38 rfl (lv_at hl 2 rfl) ?_
  refine fk_callV (As := [.int (fk_bkt (nI a)), .int (nI a), .int q]) (rest := []) ⟨hx, hb, hml, hown, hts⟩ (mc_thread l D bd cI cT cJ X (fk_up S 12 4 0) (fk_bkt (nI a)) (nI a) q) (cwV 3 hts gX3_waiterAt_X3_thread rfl rfl rfl (by decide +kernel) ⟨Nat.le_of_ble_eq_true rfl, Nat.le_of_ble_eq_true rfl⟩) (fk_rvM hK hP) hK hP hD hS hA rfl hl.1 rfl (Nat.le_of_ble_eq_true rfl) dX3_waiterAt_39 ⟨Nat.le_of_ble_eq_true rfl, Nat.le_of_ble_eq_true rfl⟩ (fun H locs hP hD hS => ?_)
  refine W.eq (g2 := F0 m 42 ls [.int (fk_oI (mm_th (fk_up S 12 4 0) (fk_bkt (nI a)) (nI a) q))]) rfl ?_
  refine lv_goto (tgt := 46) hx hb dX3_waiterAt_42 (by decide) ?_
  exact fk_iret hx hb hr hlocks hP hK hD hS (congrArg (fun z => fk_mW bd cI z ++ X) (by rfl)) (by rfl) dX3_waiterAt_46

set_option maxHeartbeats 4000000 in
set_option maxRecDepth 100000 in
theorem mn_waiterAt (l : Launch) (D : va_G) (bd : Nat → Nat) (cI cT cJ : ClassId) (X : va_W) (S : fk_S) (av q : Int32) (h : ¬ (fk_isA av = true ∧ 0 ≤ q ∧ q < mm_cntA S av)) : fk_C l D (fk_ty cI cT cJ) yX3_waiterAt wsX3_waiterAt rmX3_waiterAt [.ref (bd 0), .int av, .int q] (fk_mW bd cI S ++ X) (some (.int 0)) (fk_mW bd cI (fk_up S 12 4 1) ++ X) := by
  refine fk_C_of (cc := cX3_waiterAt) (maxL := 3) (ret := (some .int)) (own := RX3) (by decide) rfl rfl (Nat.le_of_ble_eq_true rfl) ?_
  intro p e s m below meth c A ls hx hb hr hlocks hml hts hown hA hP hK hD hl
  have hS : va_S A s.heap s.heap [] := va_S.rf
  have hl : lv_has ls 3 [(0, .ref (bd 0)), (1, .int av), (2, .int q)] := hl
  refine lv_aload_n hx hb dX3_waiterAt_0 rfl (lv_at hl 0 rfl) ?_
  refine lv_iload_n hx hb dX3_waiterAt_1 rfl (lv_at hl 1 rfl) ?_
  refine fk_callS (As := [.int av]) (rest := [.ref (bd 0)]) ⟨hx, hb, hml, hown, hts⟩ (mc_isAddress l D bd cI cT cJ X S av) (va_cwS 1 hts gX3_waiterAt_X3_isAddress rfl rfl rfl (by decide +kernel) ⟨Nat.le_of_ble_eq_true rfl, Nat.le_of_ble_eq_true rfl⟩) hK hP hD hS hA rfl hl.1 rfl (Nat.le_of_ble_eq_true rfl) dX3_waiterAt_2 ⟨Nat.le_of_ble_eq_true rfl, Nat.le_of_ble_eq_true rfl⟩ (fun H locs hP hD hS => ?_)
  cases b_1 : fk_isA av with
  | true =>
    refine W.eq (g2 := F0 m 5 ls [.int 1, .ref (bd 0)]) (by first | rfl | (rw [b_1]; rfl)) ?_
    refine lv_if_eq (tgt := 25) hx hb dX3_waiterAt_5 (by decide) (fun c => absurd c (by decide)) (fun _ => ?_)
    refine lv_iload_n hx hb dX3_waiterAt_8 rfl (lv_at hl 2 rfl) ?_
    refine lv_if_lt (tgt := 25) hx hb dX3_waiterAt_9 (by decide) (fun c_3 => ?_) (fun c_3 => ?_)
    · refine lv_iconst (v := 0) hx hb dX3_waiterAt_25 (by decide) ?_
      refine fk_callV (As := [.int 0]) (rest := []) ⟨hx, hb, hml, hown, hts⟩ (mc_asks_f l D bd cI cT cJ X S) (cwV 1 hts gX3_waiterAt_X3_asks rfl rfl rfl (by decide +kernel) ⟨Nat.le_of_ble_eq_true rfl, Nat.le_of_ble_eq_true rfl⟩) (fk_rvM hK hP) hK hP hD hS hA rfl hl.1 rfl (Nat.le_of_ble_eq_true rfl) dX3_waiterAt_26 ⟨Nat.le_of_ble_eq_true rfl, Nat.le_of_ble_eq_true rfl⟩ (fun H locs hP hD hS => ?_)
      refine W.eq (g2 := F0 m 29 ls [.int 0]) rfl ?_
      refine lv_if_eq (tgt := 45) hx hb dX3_waiterAt_29 (by decide) (fun _ => ?_) (fun c => absurd c (by decide))
      refine lv_iconst (v := 0) hx hb dX3_waiterAt_45 (by decide) ?_
      exact fk_iret hx hb hr hlocks hP hK hD hS (congrArg (fun z => fk_mW bd cI z ++ X) (by rfl)) (by rfl) dX3_waiterAt_46
    · refine lv_iload_n hx hb dX3_waiterAt_12 rfl (lv_at hl 2 rfl) ?_
      refine lv_aload_n hx hb dX3_waiterAt_13 rfl (lv_at hl 0 rfl) ?_
      refine lv_iload_n hx hb dX3_waiterAt_14 rfl (lv_at hl 1 rfl) ?_
      refine fk_callV (As := [.int av]) (rest := [.int q, .ref (bd 0)]) ⟨hx, hb, hml, hown, hts⟩ (mc_countAt l D bd cI cT cJ X S av) (cwV 1 hts gX3_waiterAt_X3_countAt rfl rfl rfl (by decide +kernel) ⟨Nat.le_of_ble_eq_true rfl, Nat.le_of_ble_eq_true rfl⟩) (fk_rvM hK hP) hK hP hD hS hA rfl hl.1 rfl (Nat.le_of_ble_eq_true rfl) dX3_waiterAt_15 ⟨Nat.le_of_ble_eq_true rfl, Nat.le_of_ble_eq_true rfl⟩ (fun H locs hP hD hS => ?_)
      refine W.eq (g2 := F0 m 18 ls [.int (mm_cntA S av), .int q, .ref (bd 0)]) rfl ?_
      refine lv_icmp_ge (tgt := 25) hx hb dX3_waiterAt_18 (by decide) (fun c_5 => ?_) (fun c_5 => ?_)
      · refine lv_iconst (v := 0) hx hb dX3_waiterAt_25 (by decide) ?_
        refine fk_callV (As := [.int 0]) (rest := []) ⟨hx, hb, hml, hown, hts⟩ (mc_asks_f l D bd cI cT cJ X S) (cwV 1 hts gX3_waiterAt_X3_asks rfl rfl rfl (by decide +kernel) ⟨Nat.le_of_ble_eq_true rfl, Nat.le_of_ble_eq_true rfl⟩) (fk_rvM hK hP) hK hP hD hS hA rfl hl.1 rfl (Nat.le_of_ble_eq_true rfl) dX3_waiterAt_26 ⟨Nat.le_of_ble_eq_true rfl, Nat.le_of_ble_eq_true rfl⟩ (fun H locs hP hD hS => ?_)
        refine W.eq (g2 := F0 m 29 ls [.int 0]) rfl ?_
        refine lv_if_eq (tgt := 45) hx hb dX3_waiterAt_29 (by decide) (fun _ => ?_) (fun c => absurd c (by decide))
        refine lv_iconst (v := 0) hx hb dX3_waiterAt_45 (by decide) ?_
        exact fk_iret hx hb hr hlocks hP hK hD hS (congrArg (fun z => fk_mW bd cI z ++ X) (by rfl)) (by rfl) dX3_waiterAt_46
      · refine lv_iconst (v := 1) hx hb dX3_waiterAt_21 (by decide) ?_
        refine lv_goto (tgt := 26) hx hb dX3_waiterAt_22 (by decide) ?_
        exact absurd h (by simp [b_1, c_3, Int32.not_lt.mp c_3, c_5, Int32.not_le.mp c_5])
  | false =>
    refine W.eq (g2 := F0 m 5 ls [.int 0, .ref (bd 0)]) (by first | rfl | (rw [b_1]; rfl)) ?_
    refine lv_if_eq (tgt := 25) hx hb dX3_waiterAt_5 (by decide) (fun _ => ?_) (fun c => absurd c (by decide))
    refine lv_iconst (v := 0) hx hb dX3_waiterAt_25 (by decide) ?_
    refine fk_callV (As := [.int 0]) (rest := []) ⟨hx, hb, hml, hown, hts⟩ (mc_asks_f l D bd cI cT cJ X S) (cwV 1 hts gX3_waiterAt_X3_asks rfl rfl rfl (by decide +kernel) ⟨Nat.le_of_ble_eq_true rfl, Nat.le_of_ble_eq_true rfl⟩) (fk_rvM hK hP) hK hP hD hS hA rfl hl.1 rfl (Nat.le_of_ble_eq_true rfl) dX3_waiterAt_26 ⟨Nat.le_of_ble_eq_true rfl, Nat.le_of_ble_eq_true rfl⟩ (fun H locs hP hD hS => ?_)
    refine W.eq (g2 := F0 m 29 ls [.int 0]) rfl ?_
    refine lv_if_eq (tgt := 45) hx hb dX3_waiterAt_29 (by decide) (fun _ => ?_) (fun c => absurd c (by decide))
    refine lv_iconst (v := 0) hx hb dX3_waiterAt_45 (by decide) ?_
    exact fk_iret hx hb hr hlocks hP hK hD hS (congrArg (fun z => fk_mW bd cI z ++ X) (by rfl)) (by rfl) dX3_waiterAt_46

abbrev rmX3_queueAt : Room := { frames := 3, cells := 0, slots := 0, locals := 71 }
set_option maxHeartbeats 4000000 in
set_option maxRecDepth 100000 in
theorem mc_queueAt (l : Launch) (D : va_G) (bd : Nat → Nat) (cI cT cJ : ClassId) (X : va_W) (S : fk_S) (b : Nat) (hb9 : b < 4) (q : Int32) (h0 : 0 ≤ q) : fk_C l D (fk_ty cI cT cJ) yX3_queueAt wsX3_queueAt rmX3_queueAt [.ref (bd 0), .int (nI b), .int q] (fk_mW bd cI S ++ X) (some (.int (fk_oI (mm_th (fk_up S 12 4 0) (nI b) (-1) q)))) (fk_mW bd cI (fk_up S 12 4 0) ++ X) := by
  refine fk_C_of (cc := cX3_queueAt) (maxL := 3) (ret := (some .int)) (own := RX3) (by decide) rfl rfl (Nat.le_of_ble_eq_true rfl) ?_
  intro p e s m below meth c A ls hx hb hr hlocks hml hts hown hA hP hK hD hl
  have hS : va_S A s.heap s.heap [] := va_S.rf
  have hl : lv_has ls 3 [(0, .ref (bd 0)), (1, .int (nI b)), (2, .int q)] := hl
  refine lv_aload_n hx hb dX3_queueAt_0 rfl (lv_at hl 0 rfl) ?_
  refine lv_iload_n hx hb dX3_queueAt_1 rfl (lv_at hl 1 rfl) ?_
  refine lv_if_lt (tgt := 18) hx hb dX3_queueAt_2 (by decide) (fun c_1 => absurd c_1 (nI_pos (by omega))) (fun c_1 => ?_)
  refine lv_iload_n hx hb dX3_queueAt_5 rfl (lv_at hl 1 rfl) ?_
  refine lv_iconst (v := 4) hx hb dX3_queueAt_6 (by decide) ?_
  refine lv_icmp_ge (tgt := 18) hx hb dX3_queueAt_7 (by decide) (fun c_2 => absurd c_2 (nI_ge (a := b) (b := 4) hb9 (by decide))) (fun c_2 => ?_)
  refine lv_iload_n hx hb dX3_queueAt_10 rfl (lv_at hl 2 rfl) ?_
  refine lv_if_lt (tgt := 18) hx hb dX3_queueAt_11 (by decide) (fun c_3 => absurd c_3 (Int32.not_lt.mpr h0)) (fun c_3 => ?_)
  refine lv_iconst (v := 1) hx hb dX3_queueAt_14 (by decide) ?_
  refine lv_goto (tgt := 19) hx hb dX3_queueAt_15 (by decide) ?_
  refine fk_callV (As := [.int 1]) (rest := []) ⟨hx, hb, hml, hown, hts⟩ (mc_asks_t l D bd cI cT cJ X S) (cwV 1 hts gX3_queueAt_X3_asks rfl rfl rfl (by decide +kernel) ⟨Nat.le_of_ble_eq_true rfl, Nat.le_of_ble_eq_true rfl⟩) (fk_rvM hK hP) hK hP hD hS hA rfl hl.1 rfl (Nat.le_of_ble_eq_true rfl) dX3_queueAt_19 ⟨Nat.le_of_ble_eq_true rfl, Nat.le_of_ble_eq_true rfl⟩ (fun H locs hP hD hS => ?_)
  refine W.eq (g2 := F0 m 22 ls [.int 1]) rfl ?_
  refine lv_if_eq (tgt := 35) hx hb dX3_queueAt_22 (by decide) (fun c => absurd c (by decide)) (fun _ => ?_)
  refine lv_aload_n hx hb dX3_queueAt_25 rfl (lv_at hl 0 rfl) ?_
  refine lv_iload_n hx hb dX3_queueAt_26 rfl (lv_at hl 1 rfl) ?_
  refine lv_iconst (v := (-1)) hx hb dX3_queueAt_27 (by decide) ?_
  refine lv_iload_n hx hb dX3_queueAt_28 rfl (lv_at hl 2 rfl) ?_
  refine fk_callV (As := [.int (nI b), .int (-1), .int q]) (rest := []) ⟨hx, hb, hml, hown, hts⟩ (mc_thread l D bd cI cT cJ X (fk_up S 12 4 0) (nI b) (-1) q) (cwV 3 hts gX3_queueAt_X3_thread rfl rfl rfl (by decide +kernel) ⟨Nat.le_of_ble_eq_true rfl, Nat.le_of_ble_eq_true rfl⟩) (fk_rvM hK hP) hK hP hD hS hA rfl hl.1 rfl (Nat.le_of_ble_eq_true rfl) dX3_queueAt_29 ⟨Nat.le_of_ble_eq_true rfl, Nat.le_of_ble_eq_true rfl⟩ (fun H locs hP hD hS => ?_)
  refine W.eq (g2 := F0 m 32 ls [.int (fk_oI (mm_th (fk_up S 12 4 0) (nI b) (-1) q))]) rfl ?_
  refine lv_goto (tgt := 36) hx hb dX3_queueAt_32 (by decide) ?_
  exact fk_iret hx hb hr hlocks hP hK hD hS (congrArg (fun z => fk_mW bd cI z ++ X) (by rfl)) (by rfl) dX3_queueAt_36

set_option maxHeartbeats 4000000 in
set_option maxRecDepth 100000 in
theorem mn_queueAt (l : Launch) (D : va_G) (bd : Nat → Nat) (cI cT cJ : ClassId) (X : va_W) (S : fk_S) (b q : Int32) (h : ¬ (0 ≤ b ∧ b < 4 ∧ 0 ≤ q)) : fk_C l D (fk_ty cI cT cJ) yX3_queueAt wsX3_queueAt rmX3_queueAt [.ref (bd 0), .int b, .int q] (fk_mW bd cI S ++ X) (some (.int 0)) (fk_mW bd cI (fk_up S 12 4 1) ++ X) := by
  refine fk_C_of (cc := cX3_queueAt) (maxL := 3) (ret := (some .int)) (own := RX3) (by decide) rfl rfl (Nat.le_of_ble_eq_true rfl) ?_
  intro p e s m below meth c A ls hx hb hr hlocks hml hts hown hA hP hK hD hl
  have hS : va_S A s.heap s.heap [] := va_S.rf
  have hl : lv_has ls 3 [(0, .ref (bd 0)), (1, .int b), (2, .int q)] := hl
  refine lv_aload_n hx hb dX3_queueAt_0 rfl (lv_at hl 0 rfl) ?_
  refine lv_iload_n hx hb dX3_queueAt_1 rfl (lv_at hl 1 rfl) ?_
  refine lv_if_lt (tgt := 18) hx hb dX3_queueAt_2 (by decide) (fun c_1 => ?_) (fun c_1 => ?_)
  · refine lv_iconst (v := 0) hx hb dX3_queueAt_18 (by decide) ?_
    refine fk_callV (As := [.int 0]) (rest := []) ⟨hx, hb, hml, hown, hts⟩ (mc_asks_f l D bd cI cT cJ X S) (cwV 1 hts gX3_queueAt_X3_asks rfl rfl rfl (by decide +kernel) ⟨Nat.le_of_ble_eq_true rfl, Nat.le_of_ble_eq_true rfl⟩) (fk_rvM hK hP) hK hP hD hS hA rfl hl.1 rfl (Nat.le_of_ble_eq_true rfl) dX3_queueAt_19 ⟨Nat.le_of_ble_eq_true rfl, Nat.le_of_ble_eq_true rfl⟩ (fun H locs hP hD hS => ?_)
    refine W.eq (g2 := F0 m 22 ls [.int 0]) rfl ?_
    refine lv_if_eq (tgt := 35) hx hb dX3_queueAt_22 (by decide) (fun _ => ?_) (fun c => absurd c (by decide))
    refine lv_iconst (v := 0) hx hb dX3_queueAt_35 (by decide) ?_
    exact fk_iret hx hb hr hlocks hP hK hD hS (congrArg (fun z => fk_mW bd cI z ++ X) (by rfl)) (by rfl) dX3_queueAt_36
  · refine lv_iload_n hx hb dX3_queueAt_5 rfl (lv_at hl 1 rfl) ?_
    refine lv_iconst (v := 4) hx hb dX3_queueAt_6 (by decide) ?_
    refine lv_icmp_ge (tgt := 18) hx hb dX3_queueAt_7 (by decide) (fun c_3 => ?_) (fun c_3 => ?_)
    · refine lv_iconst (v := 0) hx hb dX3_queueAt_18 (by decide) ?_
      refine fk_callV (As := [.int 0]) (rest := []) ⟨hx, hb, hml, hown, hts⟩ (mc_asks_f l D bd cI cT cJ X S) (cwV 1 hts gX3_queueAt_X3_asks rfl rfl rfl (by decide +kernel) ⟨Nat.le_of_ble_eq_true rfl, Nat.le_of_ble_eq_true rfl⟩) (fk_rvM hK hP) hK hP hD hS hA rfl hl.1 rfl (Nat.le_of_ble_eq_true rfl) dX3_queueAt_19 ⟨Nat.le_of_ble_eq_true rfl, Nat.le_of_ble_eq_true rfl⟩ (fun H locs hP hD hS => ?_)
      refine W.eq (g2 := F0 m 22 ls [.int 0]) rfl ?_
      refine lv_if_eq (tgt := 35) hx hb dX3_queueAt_22 (by decide) (fun _ => ?_) (fun c => absurd c (by decide))
      refine lv_iconst (v := 0) hx hb dX3_queueAt_35 (by decide) ?_
      exact fk_iret hx hb hr hlocks hP hK hD hS (congrArg (fun z => fk_mW bd cI z ++ X) (by rfl)) (by rfl) dX3_queueAt_36
    · refine lv_iload_n hx hb dX3_queueAt_10 rfl (lv_at hl 2 rfl) ?_
      refine lv_if_lt (tgt := 18) hx hb dX3_queueAt_11 (by decide) (fun c_5 => ?_) (fun c_5 => ?_)
      · refine lv_iconst (v := 0) hx hb dX3_queueAt_18 (by decide) ?_
        refine fk_callV (As := [.int 0]) (rest := []) ⟨hx, hb, hml, hown, hts⟩ (mc_asks_f l D bd cI cT cJ X S) (cwV 1 hts gX3_queueAt_X3_asks rfl rfl rfl (by decide +kernel) ⟨Nat.le_of_ble_eq_true rfl, Nat.le_of_ble_eq_true rfl⟩) (fk_rvM hK hP) hK hP hD hS hA rfl hl.1 rfl (Nat.le_of_ble_eq_true rfl) dX3_queueAt_19 ⟨Nat.le_of_ble_eq_true rfl, Nat.le_of_ble_eq_true rfl⟩ (fun H locs hP hD hS => ?_)
        refine W.eq (g2 := F0 m 22 ls [.int 0]) rfl ?_
        refine lv_if_eq (tgt := 35) hx hb dX3_queueAt_22 (by decide) (fun _ => ?_) (fun c => absurd c (by decide))
        refine lv_iconst (v := 0) hx hb dX3_queueAt_35 (by decide) ?_
        exact fk_iret hx hb hr hlocks hP hK hD hS (congrArg (fun z => fk_mW bd cI z ++ X) (by rfl)) (by rfl) dX3_queueAt_36
      · refine lv_iconst (v := 1) hx hb dX3_queueAt_14 (by decide) ?_
        refine lv_goto (tgt := 19) hx hb dX3_queueAt_15 (by decide) ?_
        exact absurd h (by simp [c_1, Int32.not_lt.mp c_1, c_3, Int32.not_le.mp c_3, c_5, Int32.not_lt.mp c_5])
