set_option maxHeartbeats 4000000 in
set_option maxRecDepth 100000 in
theorem law_c9 {p : Program} {l : Launch} {e : Env} {s : State} {m : MethodId} {below : List Frame} {meth : Method} {c : Code} {D : va_G} {ad bd : Nat → Nat} {cI cT cJ : ClassId} {b o L : Nat} {xs : Nat → Int32} {j : Nat} (hst : l.stackTraces = false) (C0 : lw_At p s m meth c b L xs) (hK : va_K D vwCl (fk_ty cI cT cJ) s) (hZ : fk_Zs (lw_A s) s s.heap) (hN : fk_Nc s) (hL : L ≤ 3584) (hj : 7 * j + 7 ≤ L) (hk : lw_Go p l e s m below meth c D ad bd cI cT cJ b o (j + 1) j 1818) : lw_Go p l e s m below meth c D ad bd cI cT cJ b o j j 944 := by
  obtain ⟨hx, hb, hr, hml, hown, hts0, hX, hbl, hlocks, hgv⟩ := C0
  have hts : ∀ w ∈ wsL_law, w.before #[Value.ref b] s = true := fun w h => hts0 w (wsL_law_in w h)
  have hA : ∀ q : Nat, s.heap.size ≤ q → lw_A s q := fun _ h => h
  have hbA : ¬ lw_A s b := Nat.not_le.mpr hbl
  intro M f H locs ls hI hP hD hS hl
  obtain ⟨k, M', f', r, hk3, h4, hI9, hf, hL9, hM9⟩ := op_locks (l := l) (D := D) (ad := ad) (bd := bd) (cI := cI) (cT := cT) (cJ := cJ) (o := o) (f := f) hI (by omega) (by omega) hst (xs (7 * j + 1))
  have hI9 : fk_I (8 * (j + 1)) (1000 * (j + 1)) M' := hI9.wk (by omega) (by omega)
  refine lv_aload_n hx hb dL_law_944 rfl (lv_at hl 2 rfl) ?_
  refine lv_aload_n hx hb dL_law_945 rfl (lv_at hl 1 rfl) ?_
  refine lv_iload hx hb dL_law_946 (lv_at hl 0 rfl) ?_
  refine lv_iconst (v := 1) hx hb dL_law_948 (by decide) ?_
  refine lv_iadd hx hb dL_law_949 ?_
  refine W.eq (g2 := F0 m 950 ls [.int (nI (7 * j + 1)), .ref b, .ref (ad 0)]) (by rw [show (1 : Int32) = nI 1 from rfl, nI_add]) ?_
  refine va_sld hx hb hX hbl hbA hS (vp_in_nI (show 7 * j + 1 < L by omega) (by omega)) dL_law_950 ?_
  refine W.eq (g2 := F0 m 951 ls [.int (xs (7 * j + 1)), .ref (ad 0)]) (by rw [nI_clamp (n := 7 * j + 1) (by omega)]) ?_
  refine lv_aload_n hx hb dL_law_951 rfl (lv_at hl 4 rfl) ?_
  refine fk_lcallS (As := [.ref (ad 0), .int (xs (7 * j + 1)), .ref o]) (rest := []) ⟨hx, hb, hml, hown, hts⟩ (hL9 (fk_mW bd cI M)) (vx_cwSW 3 hts gL_law_L_locks rfl rfl rfl (by decide +kernel) ⟨Nat.le_of_ble_eq_true rfl, Nat.le_of_ble_eq_true rfl⟩) hK hP hD hS hA hZ hN rfl hl.1 rfl (Nat.le_of_ble_eq_true rfl) dL_law_952 ⟨by show 60 + j + 1 ≤ 653130; omega, by show 900 + 6 * j + 6 ≤ 7136714; omega⟩ (fun H locs hP hD hS => ?_)
  refine W.eq (g2 := F0 m 955 ls [.int (nI k)]) rfl ?_
  have hP := fk_LWP.mp (show va_P D vwCl (fk_LW ad bd cI cT cJ (fk_kOf M') M o f') H from hP)
  have hD := fk_LWD.mp (show va_D (lw_A s) (fk_LW ad bd cI cT cJ (fk_kOf M') M o f') from hD)
  refine lv_istore (lv' := [(5, .int (nI k)), (4, .int (nI (7 * j))), (0, .ref b), (1, .ref (ad 0)), (2, .ref (bd 0)), (3, .ref o)]) hx hb dL_law_955 hl (by decide) rfl (fun ls hl => ?_)
  refine lv_aload_n hx hb dL_law_957 rfl (lv_at hl 4 rfl) ?_
  refine lv_aload_n hx hb dL_law_958 rfl (lv_at hl 2 rfl) ?_
  refine lv_iload hx hb dL_law_959 (lv_at hl 1 rfl) ?_
  refine lv_iconst (v := 1) hx hb dL_law_961 (by decide) ?_
  refine lv_iadd hx hb dL_law_962 ?_
  refine W.eq (g2 := F0 m 963 ls [.int (nI (7 * j + 1)), .ref b, .ref (bd 0)]) (by rw [show (1 : Int32) = nI 1 from rfl, nI_add]) ?_
  refine va_sld hx hb hX hbl hbA hS (vp_in_nI (show 7 * j + 1 < L by omega) (by omega)) dL_law_963 ?_
  refine W.eq (g2 := F0 m 964 ls [.int (xs (7 * j + 1)), .ref (bd 0)]) (by rw [nI_clamp (n := 7 * j + 1) (by omega)]) ?_
  refine fk_callV (As := [.int (xs (7 * j + 1))]) (rest := []) ⟨hx, hb, hml, hown, hts⟩ (hM9 _) (cwV 1 hts gL_law_X3_locks rfl rfl rfl (by decide +kernel) ⟨Nat.le_of_ble_eq_true rfl, Nat.le_of_ble_eq_true rfl⟩) (fk_rvM hK hP) hK hP hD hS hA rfl hl.1 rfl (Nat.le_of_ble_eq_true rfl) dL_law_964 ⟨by show 60 + j + 1 ≤ 653130; omega, by show 900 + 6 * j + 6 ≤ 7136714; omega⟩ (fun H locs hP hD hS => ?_)
  refine W.eq (g2 := F0 m 967 ls [.int r]) rfl ?_
  refine lv_istore (lv' := [(6, .int r), (5, .int (nI k)), (4, .int (nI (7 * j))), (0, .ref b), (1, .ref (ad 0)), (2, .ref (bd 0)), (3, .ref o)]) hx hb dL_law_967 hl (by decide) rfl (fun ls hl => ?_)
  refine lv_aload_n hx hb dL_law_969 rfl (lv_at hl 5 rfl) ?_
  refine fk_callV (As := []) (rest := []) ⟨hx, hb, hml, hown, hts⟩ (mc_thrown l D bd cI cT cJ _ M') (cwV 0 hts gL_law_X3_thrown rfl rfl rfl (by decide +kernel) ⟨Nat.le_of_ble_eq_true rfl, Nat.le_of_ble_eq_true rfl⟩) (fk_rvM hK hP) hK hP hD hS hA rfl hl.1 rfl (Nat.le_of_ble_eq_true rfl) dL_law_970 ⟨by show 60 + j + 1 ≤ 653130; omega, by show 900 + 6 * j + 6 ≤ 7136714; omega⟩ (fun H locs hP hD hS => ?_)
  refine W.eq (g2 := F0 m 973 ls [.int (nI k)]) (by rw [h4]; rfl) ?_
  have hP := fk_LWP.mpr hP
  have hD := fk_LWD.mpr hD
  refine lv_iload hx hb dL_law_973 (lv_at hl 1 rfl) ?_
  refine lv_icmp_eq (tgt := 980) hx hb dL_law_975 (by decide) (fun _ => ?_) (fun c => absurd rfl c)
  refine lv_iload hx hb dL_law_980 (lv_at hl 1 rfl) ?_
  refine lv_if_ne (tgt := 997) hx hb dL_law_982 (by decide) (fun _ => ?_) (fun ck => ?_)
  · refine lv_goto (tgt := 1818) hx hb dL_law_997 (by decide) ?_
    exact W.widen (k := 60 + (j + 1)) (n := 900 + 6 * (j + 1)) (by omega) (by omega) (hk _ _ H locs ls hI9 hP hD hS (lv_sub hl [2, 3, 4, 5, 6] rfl))
  · have hk0 : k = 0 := (nI_eq (a := k) (b := 0) (by omega) (by decide)).mp ck
    refine lv_aload_n hx hb dL_law_985 rfl (lv_at hl 6 rfl) ?_
    refine lv_iconst (v := 0) hx hb dL_law_986 (by decide) ?_
    refine va_lald hx hb hK hP 27 2 fk_at27 rfl fk_v01 dL_law_987 ?_
    refine W.eq (g2 := F0 m 988 ls [.long r.toInt64]) (by rw [← hf hk0]; rfl) ?_
    refine lv_iload hx hb dL_law_988 (lv_at hl 0 rfl) ?_
    refine lv_i2l hx hb dL_law_990 rfl ?_
    refine W.lcmp hx hb dL_law_991 ?_
    refine lv_if_eq (tgt := 997) hx hb dL_law_992 (by decide) (fun _ => ?_) (fun c => absurd (fk_lcmp_self _) c)
    refine lv_goto (tgt := 1818) hx hb dL_law_997 (by decide) ?_
    exact W.widen (k := 60 + (j + 1)) (n := 900 + 6 * (j + 1)) (by omega) (by omega) (hk _ _ H locs ls hI9 hP hD hS (lv_sub hl [2, 3, 4, 5, 6] rfl))

set_option maxHeartbeats 4000000 in
set_option maxRecDepth 100000 in
theorem law_c10 {p : Program} {l : Launch} {e : Env} {s : State} {m : MethodId} {below : List Frame} {meth : Method} {c : Code} {D : va_G} {ad bd : Nat → Nat} {cI cT cJ : ClassId} {b o L : Nat} {xs : Nat → Int32} {j : Nat} (hst : l.stackTraces = false) (C0 : lw_At p s m meth c b L xs) (hK : va_K D vwCl (fk_ty cI cT cJ) s) (hZ : fk_Zs (lw_A s) s s.heap) (hN : fk_Nc s) (hL : L ≤ 3584) (hj : 7 * j + 7 ≤ L) (hk : lw_Go p l e s m below meth c D ad bd cI cT cJ b o (j + 1) j 1818) : lw_Go p l e s m below meth c D ad bd cI cT cJ b o j j 1000 := by
  obtain ⟨hx, hb, hr, hml, hown, hts0, hX, hbl, hlocks, hgv⟩ := C0
  have hts : ∀ w ∈ wsL_law, w.before #[Value.ref b] s = true := fun w h => hts0 w (wsL_law_in w h)
  have hA : ∀ q : Nat, s.heap.size ≤ q → lw_A s q := fun _ h => h
  have hbA : ¬ lw_A s b := Nat.not_le.mpr hbl
  intro M f H locs ls hI hP hD hS hl
  obtain ⟨k, M', f', r, hk3, h4, hI9, hf, hL9, hM9⟩ := op_lockAt (l := l) (D := D) (ad := ad) (bd := bd) (cI := cI) (cT := cT) (cJ := cJ) (o := o) (f := f) hI (by omega) (by omega) hst (xs (7 * j + 1)) (xs (7 * j + 2))
  have hI9 : fk_I (8 * (j + 1)) (1000 * (j + 1)) M' := hI9.wk (by omega) (by omega)
  refine lv_aload_n hx hb dL_law_1000 rfl (lv_at hl 2 rfl) ?_
  refine lv_aload_n hx hb dL_law_1001 rfl (lv_at hl 1 rfl) ?_
  refine lv_iload hx hb dL_law_1002 (lv_at hl 0 rfl) ?_
  refine lv_iconst (v := 1) hx hb dL_law_1004 (by decide) ?_
  refine lv_iadd hx hb dL_law_1005 ?_
  refine W.eq (g2 := F0 m 1006 ls [.int (nI (7 * j + 1)), .ref b, .ref (ad 0)]) (by rw [show (1 : Int32) = nI 1 from rfl, nI_add]) ?_
  refine va_sld hx hb hX hbl hbA hS (vp_in_nI (show 7 * j + 1 < L by omega) (by omega)) dL_law_1006 ?_
  refine W.eq (g2 := F0 m 1007 ls [.int (xs (7 * j + 1)), .ref (ad 0)]) (by rw [nI_clamp (n := 7 * j + 1) (by omega)]) ?_
  refine lv_aload_n hx hb dL_law_1007 rfl (lv_at hl 1 rfl) ?_
  refine lv_iload hx hb dL_law_1008 (lv_at hl 0 rfl) ?_
  refine lv_iconst (v := 2) hx hb dL_law_1010 (by decide) ?_
  refine lv_iadd hx hb dL_law_1011 ?_
  refine W.eq (g2 := F0 m 1012 ls [.int (nI (7 * j + 2)), .ref b, .int (xs (7 * j + 1)), .ref (ad 0)]) (by rw [show (2 : Int32) = nI 2 from rfl, nI_add]) ?_
  refine va_sld hx hb hX hbl hbA hS (vp_in_nI (show 7 * j + 2 < L by omega) (by omega)) dL_law_1012 ?_
  refine W.eq (g2 := F0 m 1013 ls [.int (xs (7 * j + 2)), .int (xs (7 * j + 1)), .ref (ad 0)]) (by rw [nI_clamp (n := 7 * j + 2) (by omega)]) ?_
  refine lv_aload_n hx hb dL_law_1013 rfl (lv_at hl 4 rfl) ?_
  refine fk_lcallS (As := [.ref (ad 0), .int (xs (7 * j + 1)), .int (xs (7 * j + 2)), .ref o]) (rest := []) ⟨hx, hb, hml, hown, hts⟩ (hL9 (fk_mW bd cI M)) (vx_cwSW 4 hts gL_law_L_lockAt rfl rfl rfl (by decide +kernel) ⟨Nat.le_of_ble_eq_true rfl, Nat.le_of_ble_eq_true rfl⟩) hK hP hD hS hA hZ hN rfl hl.1 rfl (Nat.le_of_ble_eq_true rfl) dL_law_1014 ⟨by show 60 + j + 1 ≤ 653130; omega, by show 900 + 6 * j + 6 ≤ 7136714; omega⟩ (fun H locs hP hD hS => ?_)
  refine W.eq (g2 := F0 m 1017 ls [.int (nI k)]) rfl ?_
  have hP := fk_LWP.mp (show va_P D vwCl (fk_LW ad bd cI cT cJ (fk_kOf M') M o f') H from hP)
  have hD := fk_LWD.mp (show va_D (lw_A s) (fk_LW ad bd cI cT cJ (fk_kOf M') M o f') from hD)
  refine lv_istore (lv' := [(5, .int (nI k)), (4, .int (nI (7 * j))), (0, .ref b), (1, .ref (ad 0)), (2, .ref (bd 0)), (3, .ref o)]) hx hb dL_law_1017 hl (by decide) rfl (fun ls hl => ?_)
  refine lv_aload_n hx hb dL_law_1019 rfl (lv_at hl 4 rfl) ?_
  refine lv_aload_n hx hb dL_law_1020 rfl (lv_at hl 2 rfl) ?_
  refine lv_iload hx hb dL_law_1021 (lv_at hl 1 rfl) ?_
  refine lv_iconst (v := 1) hx hb dL_law_1023 (by decide) ?_
  refine lv_iadd hx hb dL_law_1024 ?_
  refine W.eq (g2 := F0 m 1025 ls [.int (nI (7 * j + 1)), .ref b, .ref (bd 0)]) (by rw [show (1 : Int32) = nI 1 from rfl, nI_add]) ?_
  refine va_sld hx hb hX hbl hbA hS (vp_in_nI (show 7 * j + 1 < L by omega) (by omega)) dL_law_1025 ?_
  refine W.eq (g2 := F0 m 1026 ls [.int (xs (7 * j + 1)), .ref (bd 0)]) (by rw [nI_clamp (n := 7 * j + 1) (by omega)]) ?_
  refine lv_aload_n hx hb dL_law_1026 rfl (lv_at hl 2 rfl) ?_
  refine lv_iload hx hb dL_law_1027 (lv_at hl 1 rfl) ?_
  refine lv_iconst (v := 2) hx hb dL_law_1029 (by decide) ?_
  refine lv_iadd hx hb dL_law_1030 ?_
  refine W.eq (g2 := F0 m 1031 ls [.int (nI (7 * j + 2)), .ref b, .int (xs (7 * j + 1)), .ref (bd 0)]) (by rw [show (2 : Int32) = nI 2 from rfl, nI_add]) ?_
  refine va_sld hx hb hX hbl hbA hS (vp_in_nI (show 7 * j + 2 < L by omega) (by omega)) dL_law_1031 ?_
  refine W.eq (g2 := F0 m 1032 ls [.int (xs (7 * j + 2)), .int (xs (7 * j + 1)), .ref (bd 0)]) (by rw [nI_clamp (n := 7 * j + 2) (by omega)]) ?_
  refine fk_callV (As := [.int (xs (7 * j + 1)), .int (xs (7 * j + 2))]) (rest := []) ⟨hx, hb, hml, hown, hts⟩ (hM9 _) (cwV 2 hts gL_law_X3_lockAt rfl rfl rfl (by decide +kernel) ⟨Nat.le_of_ble_eq_true rfl, Nat.le_of_ble_eq_true rfl⟩) (fk_rvM hK hP) hK hP hD hS hA rfl hl.1 rfl (Nat.le_of_ble_eq_true rfl) dL_law_1032 ⟨by show 60 + j + 1 ≤ 653130; omega, by show 900 + 6 * j + 6 ≤ 7136714; omega⟩ (fun H locs hP hD hS => ?_)
  refine W.eq (g2 := F0 m 1035 ls [.int r]) rfl ?_
  refine lv_istore (lv' := [(6, .int r), (5, .int (nI k)), (4, .int (nI (7 * j))), (0, .ref b), (1, .ref (ad 0)), (2, .ref (bd 0)), (3, .ref o)]) hx hb dL_law_1035 hl (by decide) rfl (fun ls hl => ?_)
  refine lv_aload_n hx hb dL_law_1037 rfl (lv_at hl 5 rfl) ?_
  refine fk_callV (As := []) (rest := []) ⟨hx, hb, hml, hown, hts⟩ (mc_thrown l D bd cI cT cJ _ M') (cwV 0 hts gL_law_X3_thrown rfl rfl rfl (by decide +kernel) ⟨Nat.le_of_ble_eq_true rfl, Nat.le_of_ble_eq_true rfl⟩) (fk_rvM hK hP) hK hP hD hS hA rfl hl.1 rfl (Nat.le_of_ble_eq_true rfl) dL_law_1038 ⟨by show 60 + j + 1 ≤ 653130; omega, by show 900 + 6 * j + 6 ≤ 7136714; omega⟩ (fun H locs hP hD hS => ?_)
  refine W.eq (g2 := F0 m 1041 ls [.int (nI k)]) (by rw [h4]; rfl) ?_
  have hP := fk_LWP.mpr hP
  have hD := fk_LWD.mpr hD
  refine lv_iload hx hb dL_law_1041 (lv_at hl 1 rfl) ?_
  refine lv_icmp_eq (tgt := 1048) hx hb dL_law_1043 (by decide) (fun _ => ?_) (fun c => absurd rfl c)
  refine lv_iload hx hb dL_law_1048 (lv_at hl 1 rfl) ?_
  refine lv_if_ne (tgt := 1065) hx hb dL_law_1050 (by decide) (fun _ => ?_) (fun ck => ?_)
  · refine lv_goto (tgt := 1818) hx hb dL_law_1065 (by decide) ?_
    exact W.widen (k := 60 + (j + 1)) (n := 900 + 6 * (j + 1)) (by omega) (by omega) (hk _ _ H locs ls hI9 hP hD hS (lv_sub hl [2, 3, 4, 5, 6] rfl))
  · have hk0 : k = 0 := (nI_eq (a := k) (b := 0) (by omega) (by decide)).mp ck
    refine lv_aload_n hx hb dL_law_1053 rfl (lv_at hl 6 rfl) ?_
    refine lv_iconst (v := 0) hx hb dL_law_1054 (by decide) ?_
    refine va_lald hx hb hK hP 27 2 fk_at27 rfl fk_v01 dL_law_1055 ?_
    refine W.eq (g2 := F0 m 1056 ls [.long r.toInt64]) (by rw [← hf hk0]; rfl) ?_
    refine lv_iload hx hb dL_law_1056 (lv_at hl 0 rfl) ?_
    refine lv_i2l hx hb dL_law_1058 rfl ?_
    refine W.lcmp hx hb dL_law_1059 ?_
    refine lv_if_eq (tgt := 1065) hx hb dL_law_1060 (by decide) (fun _ => ?_) (fun c => absurd (fk_lcmp_self _) c)
    refine lv_goto (tgt := 1818) hx hb dL_law_1065 (by decide) ?_
    exact W.widen (k := 60 + (j + 1)) (n := 900 + 6 * (j + 1)) (by omega) (by omega) (hk _ _ H locs ls hI9 hP hD hS (lv_sub hl [2, 3, 4, 5, 6] rfl))

set_option maxHeartbeats 4000000 in
set_option maxRecDepth 100000 in
theorem law_c11 {p : Program} {l : Launch} {e : Env} {s : State} {m : MethodId} {below : List Frame} {meth : Method} {c : Code} {D : va_G} {ad bd : Nat → Nat} {cI cT cJ : ClassId} {b o L : Nat} {xs : Nat → Int32} {j : Nat} (hst : l.stackTraces = false) (C0 : lw_At p s m meth c b L xs) (hK : va_K D vwCl (fk_ty cI cT cJ) s) (hZ : fk_Zs (lw_A s) s s.heap) (hN : fk_Nc s) (hL : L ≤ 3584) (hj : 7 * j + 7 ≤ L) (hk : lw_Go p l e s m below meth c D ad bd cI cT cJ b o (j + 1) j 1818) : lw_Go p l e s m below meth c D ad bd cI cT cJ b o j j 1068 := by
  obtain ⟨hx, hb, hr, hml, hown, hts0, hX, hbl, hlocks, hgv⟩ := C0
  have hts : ∀ w ∈ wsL_law, w.before #[Value.ref b] s = true := fun w h => hts0 w (wsL_law_in w h)
  have hA : ∀ q : Nat, s.heap.size ≤ q → lw_A s q := fun _ h => h
  have hbA : ¬ lw_A s b := Nat.not_le.mpr hbl
  intro M f H locs ls hI hP hD hS hl
  obtain ⟨k, M', f', r, hk3, h4, hI9, hf, hL9, hM9⟩ := op_blockedBy (l := l) (D := D) (ad := ad) (bd := bd) (cI := cI) (cT := cT) (cJ := cJ) (o := o) (f := f) hI (by omega) (by omega) hst (xs (7 * j + 1))
  have hI9 : fk_I (8 * (j + 1)) (1000 * (j + 1)) M' := hI9.wk (by omega) (by omega)
  refine lv_aload_n hx hb dL_law_1068 rfl (lv_at hl 2 rfl) ?_
  refine lv_aload_n hx hb dL_law_1069 rfl (lv_at hl 1 rfl) ?_
  refine lv_iload hx hb dL_law_1070 (lv_at hl 0 rfl) ?_
  refine lv_iconst (v := 1) hx hb dL_law_1072 (by decide) ?_
  refine lv_iadd hx hb dL_law_1073 ?_
  refine W.eq (g2 := F0 m 1074 ls [.int (nI (7 * j + 1)), .ref b, .ref (ad 0)]) (by rw [show (1 : Int32) = nI 1 from rfl, nI_add]) ?_
  refine va_sld hx hb hX hbl hbA hS (vp_in_nI (show 7 * j + 1 < L by omega) (by omega)) dL_law_1074 ?_
  refine W.eq (g2 := F0 m 1075 ls [.int (xs (7 * j + 1)), .ref (ad 0)]) (by rw [nI_clamp (n := 7 * j + 1) (by omega)]) ?_
  refine lv_aload_n hx hb dL_law_1075 rfl (lv_at hl 4 rfl) ?_
  refine fk_lcallS (As := [.ref (ad 0), .int (xs (7 * j + 1)), .ref o]) (rest := []) ⟨hx, hb, hml, hown, hts⟩ (hL9 (fk_mW bd cI M)) (vx_cwSW 3 hts gL_law_L_blockedBy rfl rfl rfl (by decide +kernel) ⟨Nat.le_of_ble_eq_true rfl, Nat.le_of_ble_eq_true rfl⟩) hK hP hD hS hA hZ hN rfl hl.1 rfl (Nat.le_of_ble_eq_true rfl) dL_law_1076 ⟨by show 60 + j + 1 ≤ 653130; omega, by show 900 + 6 * j + 6 ≤ 7136714; omega⟩ (fun H locs hP hD hS => ?_)
  refine W.eq (g2 := F0 m 1079 ls [.int (nI k)]) rfl ?_
  have hP := fk_LWP.mp (show va_P D vwCl (fk_LW ad bd cI cT cJ (fk_kOf M') M o f') H from hP)
  have hD := fk_LWD.mp (show va_D (lw_A s) (fk_LW ad bd cI cT cJ (fk_kOf M') M o f') from hD)
  refine lv_istore (lv' := [(5, .int (nI k)), (4, .int (nI (7 * j))), (0, .ref b), (1, .ref (ad 0)), (2, .ref (bd 0)), (3, .ref o)]) hx hb dL_law_1079 hl (by decide) rfl (fun ls hl => ?_)
  refine lv_aload_n hx hb dL_law_1081 rfl (lv_at hl 4 rfl) ?_
  refine lv_aload_n hx hb dL_law_1082 rfl (lv_at hl 2 rfl) ?_
  refine lv_iload hx hb dL_law_1083 (lv_at hl 1 rfl) ?_
  refine lv_iconst (v := 1) hx hb dL_law_1085 (by decide) ?_
  refine lv_iadd hx hb dL_law_1086 ?_
  refine W.eq (g2 := F0 m 1087 ls [.int (nI (7 * j + 1)), .ref b, .ref (bd 0)]) (by rw [show (1 : Int32) = nI 1 from rfl, nI_add]) ?_
  refine va_sld hx hb hX hbl hbA hS (vp_in_nI (show 7 * j + 1 < L by omega) (by omega)) dL_law_1087 ?_
  refine W.eq (g2 := F0 m 1088 ls [.int (xs (7 * j + 1)), .ref (bd 0)]) (by rw [nI_clamp (n := 7 * j + 1) (by omega)]) ?_
  refine fk_callV (As := [.int (xs (7 * j + 1))]) (rest := []) ⟨hx, hb, hml, hown, hts⟩ (hM9 _) (cwV 1 hts gL_law_X3_blockedBy rfl rfl rfl (by decide +kernel) ⟨Nat.le_of_ble_eq_true rfl, Nat.le_of_ble_eq_true rfl⟩) (fk_rvM hK hP) hK hP hD hS hA rfl hl.1 rfl (Nat.le_of_ble_eq_true rfl) dL_law_1088 ⟨by show 60 + j + 1 ≤ 653130; omega, by show 900 + 6 * j + 6 ≤ 7136714; omega⟩ (fun H locs hP hD hS => ?_)
  refine W.eq (g2 := F0 m 1091 ls [.int r]) rfl ?_
  refine lv_istore (lv' := [(6, .int r), (5, .int (nI k)), (4, .int (nI (7 * j))), (0, .ref b), (1, .ref (ad 0)), (2, .ref (bd 0)), (3, .ref o)]) hx hb dL_law_1091 hl (by decide) rfl (fun ls hl => ?_)
  refine lv_aload_n hx hb dL_law_1093 rfl (lv_at hl 5 rfl) ?_
  refine fk_callV (As := []) (rest := []) ⟨hx, hb, hml, hown, hts⟩ (mc_thrown l D bd cI cT cJ _ M') (cwV 0 hts gL_law_X3_thrown rfl rfl rfl (by decide +kernel) ⟨Nat.le_of_ble_eq_true rfl, Nat.le_of_ble_eq_true rfl⟩) (fk_rvM hK hP) hK hP hD hS hA rfl hl.1 rfl (Nat.le_of_ble_eq_true rfl) dL_law_1094 ⟨by show 60 + j + 1 ≤ 653130; omega, by show 900 + 6 * j + 6 ≤ 7136714; omega⟩ (fun H locs hP hD hS => ?_)
  refine W.eq (g2 := F0 m 1097 ls [.int (nI k)]) (by rw [h4]; rfl) ?_
  have hP := fk_LWP.mpr hP
  have hD := fk_LWD.mpr hD
  refine lv_iload hx hb dL_law_1097 (lv_at hl 1 rfl) ?_
  refine lv_icmp_eq (tgt := 1104) hx hb dL_law_1099 (by decide) (fun _ => ?_) (fun c => absurd rfl c)
  refine lv_iload hx hb dL_law_1104 (lv_at hl 1 rfl) ?_
  refine lv_if_ne (tgt := 1121) hx hb dL_law_1106 (by decide) (fun _ => ?_) (fun ck => ?_)
  · refine lv_goto (tgt := 1818) hx hb dL_law_1121 (by decide) ?_
    exact W.widen (k := 60 + (j + 1)) (n := 900 + 6 * (j + 1)) (by omega) (by omega) (hk _ _ H locs ls hI9 hP hD hS (lv_sub hl [2, 3, 4, 5, 6] rfl))
  · have hk0 : k = 0 := (nI_eq (a := k) (b := 0) (by omega) (by decide)).mp ck
    refine lv_aload_n hx hb dL_law_1109 rfl (lv_at hl 6 rfl) ?_
    refine lv_iconst (v := 0) hx hb dL_law_1110 (by decide) ?_
    refine va_lald hx hb hK hP 27 2 fk_at27 rfl fk_v01 dL_law_1111 ?_
    refine W.eq (g2 := F0 m 1112 ls [.long r.toInt64]) (by rw [← hf hk0]; rfl) ?_
    refine lv_iload hx hb dL_law_1112 (lv_at hl 0 rfl) ?_
    refine lv_i2l hx hb dL_law_1114 rfl ?_
    refine W.lcmp hx hb dL_law_1115 ?_
    refine lv_if_eq (tgt := 1121) hx hb dL_law_1116 (by decide) (fun _ => ?_) (fun c => absurd (fk_lcmp_self _) c)
    refine lv_goto (tgt := 1818) hx hb dL_law_1121 (by decide) ?_
    exact W.widen (k := 60 + (j + 1)) (n := 900 + 6 * (j + 1)) (by omega) (by omega) (hk _ _ H locs ls hI9 hP hD hS (lv_sub hl [2, 3, 4, 5, 6] rfl))

set_option maxHeartbeats 4000000 in
set_option maxRecDepth 100000 in
theorem law_c12 {p : Program} {l : Launch} {e : Env} {s : State} {m : MethodId} {below : List Frame} {meth : Method} {c : Code} {D : va_G} {ad bd : Nat → Nat} {cI cT cJ : ClassId} {b o L : Nat} {xs : Nat → Int32} {j : Nat} (hst : l.stackTraces = false) (C0 : lw_At p s m meth c b L xs) (hK : va_K D vwCl (fk_ty cI cT cJ) s) (hZ : fk_Zs (lw_A s) s s.heap) (hN : fk_Nc s) (hL : L ≤ 3584) (hj : 7 * j + 7 ≤ L) (hk : lw_Go p l e s m below meth c D ad bd cI cT cJ b o (j + 1) j 1818) : lw_Go p l e s m below meth c D ad bd cI cT cJ b o j j 1124 := by
  obtain ⟨hx, hb, hr, hml, hown, hts0, hX, hbl, hlocks, hgv⟩ := C0
  have hts : ∀ w ∈ wsL_law, w.before #[Value.ref b] s = true := fun w h => hts0 w (wsL_law_in w h)
  have hA : ∀ q : Nat, s.heap.size ≤ q → lw_A s q := fun _ h => h
  have hbA : ¬ lw_A s b := Nat.not_le.mpr hbl
  intro M f H locs ls hI hP hD hS hl
  obtain ⟨k, M', hk3, h4, hI9, hL9, hM9⟩ := op_interrupt (l := l) (D := D) (ad := ad) (bd := bd) (cI := cI) (cT := cT) (cJ := cJ) hI (by omega) (by omega) hst (xs (7 * j + 1))
  have hI9 : fk_I (8 * (j + 1)) (1000 * (j + 1)) M' := hI9.wk (by omega) (by omega)
  refine lv_aload_n hx hb dL_law_1124 rfl (lv_at hl 2 rfl) ?_
  refine lv_aload_n hx hb dL_law_1125 rfl (lv_at hl 1 rfl) ?_
  refine lv_iload hx hb dL_law_1126 (lv_at hl 0 rfl) ?_
  refine lv_iconst (v := 1) hx hb dL_law_1128 (by decide) ?_
  refine lv_iadd hx hb dL_law_1129 ?_
  refine W.eq (g2 := F0 m 1130 ls [.int (nI (7 * j + 1)), .ref b, .ref (ad 0)]) (by rw [show (1 : Int32) = nI 1 from rfl, nI_add]) ?_
  refine va_sld hx hb hX hbl hbA hS (vp_in_nI (show 7 * j + 1 < L by omega) (by omega)) dL_law_1130 ?_
  refine W.eq (g2 := F0 m 1131 ls [.int (xs (7 * j + 1)), .ref (ad 0)]) (by rw [nI_clamp (n := 7 * j + 1) (by omega)]) ?_
  refine fk_lcallS (As := [.ref (ad 0), .int (xs (7 * j + 1))]) (rest := []) ⟨hx, hb, hml, hown, hts⟩ (hL9 ((o, fk_ou cJ f) :: fk_mW bd cI M)) (vx_cwSW 2 hts gL_law_L_interrupt rfl rfl rfl (by decide +kernel) ⟨Nat.le_of_ble_eq_true rfl, Nat.le_of_ble_eq_true rfl⟩) hK hP hD hS hA hZ hN rfl hl.1 rfl (Nat.le_of_ble_eq_true rfl) dL_law_1131 ⟨by show 60 + j + 1 ≤ 653130; omega, by show 900 + 6 * j + 6 ≤ 7136714; omega⟩ (fun H locs hP hD hS => ?_)
  refine W.eq (g2 := F0 m 1134 ls [.int (nI k)]) rfl ?_
  have hP := fk_LWP.mp (show va_P D vwCl (fk_LW ad bd cI cT cJ (fk_kOf M') M o f) H from hP)
  have hD := fk_LWD.mp (show va_D (lw_A s) (fk_LW ad bd cI cT cJ (fk_kOf M') M o f) from hD)
  refine lv_istore (lv' := [(5, .int (nI k)), (4, .int (nI (7 * j))), (0, .ref b), (1, .ref (ad 0)), (2, .ref (bd 0)), (3, .ref o)]) hx hb dL_law_1134 hl (by decide) rfl (fun ls hl => ?_)
  refine lv_aload_n hx hb dL_law_1136 rfl (lv_at hl 4 rfl) ?_
  refine lv_aload_n hx hb dL_law_1137 rfl (lv_at hl 2 rfl) ?_
  refine lv_iload hx hb dL_law_1138 (lv_at hl 1 rfl) ?_
  refine lv_iconst (v := 1) hx hb dL_law_1140 (by decide) ?_
  refine lv_iadd hx hb dL_law_1141 ?_
  refine W.eq (g2 := F0 m 1142 ls [.int (nI (7 * j + 1)), .ref b, .ref (bd 0)]) (by rw [show (1 : Int32) = nI 1 from rfl, nI_add]) ?_
  refine va_sld hx hb hX hbl hbA hS (vp_in_nI (show 7 * j + 1 < L by omega) (by omega)) dL_law_1142 ?_
  refine W.eq (g2 := F0 m 1143 ls [.int (xs (7 * j + 1)), .ref (bd 0)]) (by rw [nI_clamp (n := 7 * j + 1) (by omega)]) ?_
  refine fk_callV (As := [.int (xs (7 * j + 1))]) (rest := []) ⟨hx, hb, hml, hown, hts⟩ (hM9 _) (cwV 1 hts gL_law_X3_interrupt rfl rfl rfl (by decide +kernel) ⟨Nat.le_of_ble_eq_true rfl, Nat.le_of_ble_eq_true rfl⟩) (fk_rvM hK hP) hK hP hD hS hA rfl hl.1 rfl (Nat.le_of_ble_eq_true rfl) dL_law_1143 ⟨by show 60 + j + 1 ≤ 653130; omega, by show 900 + 6 * j + 6 ≤ 7136714; omega⟩ (fun H locs hP hD hS => ?_)
  refine W.eq (g2 := F0 m 1146 ls []) rfl ?_
  refine lv_aload_n hx hb dL_law_1146 rfl (lv_at hl 4 rfl) ?_
  refine fk_callV (As := []) (rest := []) ⟨hx, hb, hml, hown, hts⟩ (mc_thrown l D bd cI cT cJ _ M') (cwV 0 hts gL_law_X3_thrown rfl rfl rfl (by decide +kernel) ⟨Nat.le_of_ble_eq_true rfl, Nat.le_of_ble_eq_true rfl⟩) (fk_rvM hK hP) hK hP hD hS hA rfl hl.1 rfl (Nat.le_of_ble_eq_true rfl) dL_law_1147 ⟨by show 60 + j + 1 ≤ 653130; omega, by show 900 + 6 * j + 6 ≤ 7136714; omega⟩ (fun H locs hP hD hS => ?_)
  refine W.eq (g2 := F0 m 1150 ls [.int (nI k)]) (by rw [h4]; rfl) ?_
  have hP := fk_LWP.mpr hP
  have hD := fk_LWD.mpr hD
  refine lv_iload hx hb dL_law_1150 (lv_at hl 0 rfl) ?_
  refine lv_icmp_eq (tgt := 1157) hx hb dL_law_1152 (by decide) (fun _ => ?_) (fun c => absurd rfl c)
  refine lv_goto (tgt := 1818) hx hb dL_law_1157 (by decide) ?_
  exact W.widen (k := 60 + (j + 1)) (n := 900 + 6 * (j + 1)) (by omega) (by omega) (hk _ _ H locs ls hI9 hP hD hS (lv_sub hl [1, 2, 3, 4, 5] rfl))

set_option maxHeartbeats 4000000 in
set_option maxRecDepth 100000 in
theorem law_c13 {p : Program} {l : Launch} {e : Env} {s : State} {m : MethodId} {below : List Frame} {meth : Method} {c : Code} {D : va_G} {ad bd : Nat → Nat} {cI cT cJ : ClassId} {b o L : Nat} {xs : Nat → Int32} {j : Nat} (hst : l.stackTraces = false) (C0 : lw_At p s m meth c b L xs) (hK : va_K D vwCl (fk_ty cI cT cJ) s) (hZ : fk_Zs (lw_A s) s s.heap) (hN : fk_Nc s) (hL : L ≤ 3584) (hj : 7 * j + 7 ≤ L) (hk : lw_Go p l e s m below meth c D ad bd cI cT cJ b o (j + 1) j 1818) : lw_Go p l e s m below meth c D ad bd cI cT cJ b o j j 1160 := by
  obtain ⟨hx, hb, hr, hml, hown, hts0, hX, hbl, hlocks, hgv⟩ := C0
  have hts : ∀ w ∈ wsL_law, w.before #[Value.ref b] s = true := fun w h => hts0 w (wsL_law_in w h)
  have hA : ∀ q : Nat, s.heap.size ≤ q → lw_A s q := fun _ h => h
  have hbA : ¬ lw_A s b := Nat.not_le.mpr hbl
  intro M f H locs ls hI hP hD hS hl
  obtain ⟨k, M', f', r, hk3, h4, hI9, hf, hL9, hM9⟩ := op_exit (l := l) (D := D) (ad := ad) (bd := bd) (cI := cI) (cT := cT) (cJ := cJ) (o := o) (f := f) hI (by omega) (by omega) hst (xs (7 * j + 1))
  have hI9 : fk_I (8 * (j + 1)) (1000 * (j + 1)) M' := hI9.wk (by omega) (by omega)
  refine lv_aload_n hx hb dL_law_1160 rfl (lv_at hl 2 rfl) ?_
  refine lv_aload_n hx hb dL_law_1161 rfl (lv_at hl 1 rfl) ?_
  refine lv_iload hx hb dL_law_1162 (lv_at hl 0 rfl) ?_
  refine lv_iconst (v := 1) hx hb dL_law_1164 (by decide) ?_
  refine lv_iadd hx hb dL_law_1165 ?_
  refine W.eq (g2 := F0 m 1166 ls [.int (nI (7 * j + 1)), .ref b, .ref (ad 0)]) (by rw [show (1 : Int32) = nI 1 from rfl, nI_add]) ?_
  refine va_sld hx hb hX hbl hbA hS (vp_in_nI (show 7 * j + 1 < L by omega) (by omega)) dL_law_1166 ?_
  refine W.eq (g2 := F0 m 1167 ls [.int (xs (7 * j + 1)), .ref (ad 0)]) (by rw [nI_clamp (n := 7 * j + 1) (by omega)]) ?_
  refine lv_aload_n hx hb dL_law_1167 rfl (lv_at hl 4 rfl) ?_
  refine fk_lcallS (As := [.ref (ad 0), .int (xs (7 * j + 1)), .ref o]) (rest := []) ⟨hx, hb, hml, hown, hts⟩ (hL9 (fk_mW bd cI M)) (vx_cwSW 3 hts gL_law_L_exit rfl rfl rfl (by decide +kernel) ⟨Nat.le_of_ble_eq_true rfl, Nat.le_of_ble_eq_true rfl⟩) hK hP hD hS hA hZ hN rfl hl.1 rfl (Nat.le_of_ble_eq_true rfl) dL_law_1168 ⟨by show 60 + j + 1 ≤ 653130; omega, by show 900 + 6 * j + 6 ≤ 7136714; omega⟩ (fun H locs hP hD hS => ?_)
  refine W.eq (g2 := F0 m 1171 ls [.int (nI k)]) rfl ?_
  have hP := fk_LWP.mp (show va_P D vwCl (fk_LW ad bd cI cT cJ (fk_kOf M') M o f') H from hP)
  have hD := fk_LWD.mp (show va_D (lw_A s) (fk_LW ad bd cI cT cJ (fk_kOf M') M o f') from hD)
  refine lv_istore (lv' := [(5, .int (nI k)), (4, .int (nI (7 * j))), (0, .ref b), (1, .ref (ad 0)), (2, .ref (bd 0)), (3, .ref o)]) hx hb dL_law_1171 hl (by decide) rfl (fun ls hl => ?_)
  refine lv_aload_n hx hb dL_law_1173 rfl (lv_at hl 4 rfl) ?_
  refine lv_aload_n hx hb dL_law_1174 rfl (lv_at hl 2 rfl) ?_
  refine lv_iload hx hb dL_law_1175 (lv_at hl 1 rfl) ?_
  refine lv_iconst (v := 1) hx hb dL_law_1177 (by decide) ?_
  refine lv_iadd hx hb dL_law_1178 ?_
  refine W.eq (g2 := F0 m 1179 ls [.int (nI (7 * j + 1)), .ref b, .ref (bd 0)]) (by rw [show (1 : Int32) = nI 1 from rfl, nI_add]) ?_
  refine va_sld hx hb hX hbl hbA hS (vp_in_nI (show 7 * j + 1 < L by omega) (by omega)) dL_law_1179 ?_
  refine W.eq (g2 := F0 m 1180 ls [.int (xs (7 * j + 1)), .ref (bd 0)]) (by rw [nI_clamp (n := 7 * j + 1) (by omega)]) ?_
  refine fk_callV (As := [.int (xs (7 * j + 1))]) (rest := []) ⟨hx, hb, hml, hown, hts⟩ (hM9 _) (cwV 1 hts gL_law_X3_exit rfl rfl rfl (by decide +kernel) ⟨Nat.le_of_ble_eq_true rfl, Nat.le_of_ble_eq_true rfl⟩) (fk_rvM hK hP) hK hP hD hS hA rfl hl.1 rfl (Nat.le_of_ble_eq_true rfl) dL_law_1180 ⟨by show 60 + j + 1 ≤ 653130; omega, by show 900 + 6 * j + 6 ≤ 7136714; omega⟩ (fun H locs hP hD hS => ?_)
  refine W.eq (g2 := F0 m 1183 ls [.int r]) rfl ?_
  refine lv_istore (lv' := [(6, .int r), (5, .int (nI k)), (4, .int (nI (7 * j))), (0, .ref b), (1, .ref (ad 0)), (2, .ref (bd 0)), (3, .ref o)]) hx hb dL_law_1183 hl (by decide) rfl (fun ls hl => ?_)
  refine lv_aload_n hx hb dL_law_1185 rfl (lv_at hl 5 rfl) ?_
  refine fk_callV (As := []) (rest := []) ⟨hx, hb, hml, hown, hts⟩ (mc_thrown l D bd cI cT cJ _ M') (cwV 0 hts gL_law_X3_thrown rfl rfl rfl (by decide +kernel) ⟨Nat.le_of_ble_eq_true rfl, Nat.le_of_ble_eq_true rfl⟩) (fk_rvM hK hP) hK hP hD hS hA rfl hl.1 rfl (Nat.le_of_ble_eq_true rfl) dL_law_1186 ⟨by show 60 + j + 1 ≤ 653130; omega, by show 900 + 6 * j + 6 ≤ 7136714; omega⟩ (fun H locs hP hD hS => ?_)
  refine W.eq (g2 := F0 m 1189 ls [.int (nI k)]) (by rw [h4]; rfl) ?_
  have hP := fk_LWP.mpr hP
  have hD := fk_LWD.mpr hD
  refine lv_iload hx hb dL_law_1189 (lv_at hl 1 rfl) ?_
  refine lv_icmp_eq (tgt := 1196) hx hb dL_law_1191 (by decide) (fun _ => ?_) (fun c => absurd rfl c)
  refine lv_iload hx hb dL_law_1196 (lv_at hl 1 rfl) ?_
  refine lv_if_ne (tgt := 1213) hx hb dL_law_1198 (by decide) (fun _ => ?_) (fun ck => ?_)
  · refine lv_goto (tgt := 1818) hx hb dL_law_1213 (by decide) ?_
    exact W.widen (k := 60 + (j + 1)) (n := 900 + 6 * (j + 1)) (by omega) (by omega) (hk _ _ H locs ls hI9 hP hD hS (lv_sub hl [2, 3, 4, 5, 6] rfl))
  · have hk0 : k = 0 := (nI_eq (a := k) (b := 0) (by omega) (by decide)).mp ck
    refine lv_aload_n hx hb dL_law_1201 rfl (lv_at hl 6 rfl) ?_
    refine lv_iconst (v := 0) hx hb dL_law_1202 (by decide) ?_
    refine va_lald hx hb hK hP 27 2 fk_at27 rfl fk_v01 dL_law_1203 ?_
    refine W.eq (g2 := F0 m 1204 ls [.long r.toInt64]) (by rw [← hf hk0]; rfl) ?_
    refine lv_iload hx hb dL_law_1204 (lv_at hl 0 rfl) ?_
    refine lv_i2l hx hb dL_law_1206 rfl ?_
    refine W.lcmp hx hb dL_law_1207 ?_
    refine lv_if_eq (tgt := 1213) hx hb dL_law_1208 (by decide) (fun _ => ?_) (fun c => absurd (fk_lcmp_self _) c)
    refine lv_goto (tgt := 1818) hx hb dL_law_1213 (by decide) ?_
    exact W.widen (k := 60 + (j + 1)) (n := 900 + 6 * (j + 1)) (by omega) (by omega) (hk _ _ H locs ls hI9 hP hD hS (lv_sub hl [2, 3, 4, 5, 6] rfl))
