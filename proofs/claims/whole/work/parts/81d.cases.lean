set_option maxHeartbeats 4000000 in
set_option maxRecDepth 100000 in
theorem law_c14 {p : Program} {l : Launch} {e : Env} {s : State} {m : MethodId} {below : List Frame} {meth : Method} {c : Code} {D : va_G} {ad bd : Nat → Nat} {cI cT cJ : ClassId} {b o L : Nat} {xs : Nat → Int32} {j : Nat} (hst : l.stackTraces = false) (C0 : lw_At p s m meth c b L xs) (hK : va_K D vwCl (fk_ty cI cT cJ) s) (hZ : fk_Zs (lw_A s) s s.heap) (hN : fk_Nc s) (hL : L ≤ 3584) (hj : 7 * j + 7 ≤ L) (hk : lw_Go p l e s m below meth c D ad bd cI cT cJ b o (j + 1) j 1818) : lw_Go p l e s m below meth c D ad bd cI cT cJ b o j j 1216 := by
  obtain ⟨hx, hb, hr, hml, hown, hts0, hX, hbl, hlocks, hgv⟩ := C0
  have hts : ∀ w ∈ wsL_law, w.before #[Value.ref b] s = true := fun w h => hts0 w (wsL_law_in w h)
  have hA : ∀ q : Nat, s.heap.size ≤ q → lw_A s q := fun _ h => h
  have hbA : ¬ lw_A s b := Nat.not_le.mpr hbl
  intro M f H locs ls hI hP hD hS hl
  obtain ⟨k, M', hk3, h4, hI9, hL9, hM9⟩ := op_start (l := l) (D := D) (ad := ad) (bd := bd) (cI := cI) (cT := cT) (cJ := cJ) hI (by omega) (by omega) hst (xs (7 * j + 1))
  have hI9 : fk_I (8 * (j + 1)) (1000 * (j + 1)) M' := hI9.wk (by omega) (by omega)
  refine lv_aload_n hx hb dL_law_1216 rfl (lv_at hl 2 rfl) ?_
  refine lv_aload_n hx hb dL_law_1217 rfl (lv_at hl 1 rfl) ?_
  refine lv_iload hx hb dL_law_1218 (lv_at hl 0 rfl) ?_
  refine lv_iconst (v := 1) hx hb dL_law_1220 (by decide) ?_
  refine lv_iadd hx hb dL_law_1221 ?_
  refine W.eq (g2 := F0 m 1222 ls [.int (nI (7 * j + 1)), .ref b, .ref (ad 0)]) (by rw [show (1 : Int32) = nI 1 from rfl, nI_add]) ?_
  refine va_sld hx hb hX hbl hbA hS (vp_in_nI (show 7 * j + 1 < L by omega) (by omega)) dL_law_1222 ?_
  refine W.eq (g2 := F0 m 1223 ls [.int (xs (7 * j + 1)), .ref (ad 0)]) (by rw [nI_clamp (n := 7 * j + 1) (by omega)]) ?_
  refine fk_lcallS (As := [.ref (ad 0), .int (xs (7 * j + 1))]) (rest := []) ⟨hx, hb, hml, hown, hts⟩ (hL9 ((o, fk_ou cJ f) :: fk_mW bd cI M)) (vx_cwSW 2 hts gL_law_L_start rfl rfl rfl (by decide +kernel) ⟨Nat.le_of_ble_eq_true rfl, Nat.le_of_ble_eq_true rfl⟩) hK hP hD hS hA hZ hN rfl hl.1 rfl (Nat.le_of_ble_eq_true rfl) dL_law_1223 ⟨by show 60 + j + 1 ≤ 653130; omega, by show 900 + 6 * j + 6 ≤ 7136714; omega⟩ (fun H locs hP hD hS => ?_)
  refine W.eq (g2 := F0 m 1226 ls [.int (nI k)]) rfl ?_
  have hP := fk_LWP.mp (show va_P D vwCl (fk_LW ad bd cI cT cJ (fk_kOf M') M o f) H from hP)
  have hD := fk_LWD.mp (show va_D (lw_A s) (fk_LW ad bd cI cT cJ (fk_kOf M') M o f) from hD)
  refine lv_istore (lv' := [(5, .int (nI k)), (4, .int (nI (7 * j))), (0, .ref b), (1, .ref (ad 0)), (2, .ref (bd 0)), (3, .ref o)]) hx hb dL_law_1226 hl (by decide) rfl (fun ls hl => ?_)
  refine lv_aload_n hx hb dL_law_1228 rfl (lv_at hl 4 rfl) ?_
  refine lv_aload_n hx hb dL_law_1229 rfl (lv_at hl 2 rfl) ?_
  refine lv_iload hx hb dL_law_1230 (lv_at hl 1 rfl) ?_
  refine lv_iconst (v := 1) hx hb dL_law_1232 (by decide) ?_
  refine lv_iadd hx hb dL_law_1233 ?_
  refine W.eq (g2 := F0 m 1234 ls [.int (nI (7 * j + 1)), .ref b, .ref (bd 0)]) (by rw [show (1 : Int32) = nI 1 from rfl, nI_add]) ?_
  refine va_sld hx hb hX hbl hbA hS (vp_in_nI (show 7 * j + 1 < L by omega) (by omega)) dL_law_1234 ?_
  refine W.eq (g2 := F0 m 1235 ls [.int (xs (7 * j + 1)), .ref (bd 0)]) (by rw [nI_clamp (n := 7 * j + 1) (by omega)]) ?_
  refine fk_callV (As := [.int (xs (7 * j + 1))]) (rest := []) ⟨hx, hb, hml, hown, hts⟩ (hM9 _) (cwV 1 hts gL_law_X3_start rfl rfl rfl (by decide +kernel) ⟨Nat.le_of_ble_eq_true rfl, Nat.le_of_ble_eq_true rfl⟩) (fk_rvM hK hP) hK hP hD hS hA rfl hl.1 rfl (Nat.le_of_ble_eq_true rfl) dL_law_1235 ⟨by show 60 + j + 1 ≤ 653130; omega, by show 900 + 6 * j + 6 ≤ 7136714; omega⟩ (fun H locs hP hD hS => ?_)
  refine W.eq (g2 := F0 m 1238 ls []) rfl ?_
  refine lv_aload_n hx hb dL_law_1238 rfl (lv_at hl 4 rfl) ?_
  refine fk_callV (As := []) (rest := []) ⟨hx, hb, hml, hown, hts⟩ (mc_thrown l D bd cI cT cJ _ M') (cwV 0 hts gL_law_X3_thrown rfl rfl rfl (by decide +kernel) ⟨Nat.le_of_ble_eq_true rfl, Nat.le_of_ble_eq_true rfl⟩) (fk_rvM hK hP) hK hP hD hS hA rfl hl.1 rfl (Nat.le_of_ble_eq_true rfl) dL_law_1239 ⟨by show 60 + j + 1 ≤ 653130; omega, by show 900 + 6 * j + 6 ≤ 7136714; omega⟩ (fun H locs hP hD hS => ?_)
  refine W.eq (g2 := F0 m 1242 ls [.int (nI k)]) (by rw [h4]; rfl) ?_
  have hP := fk_LWP.mpr hP
  have hD := fk_LWD.mpr hD
  refine lv_iload hx hb dL_law_1242 (lv_at hl 0 rfl) ?_
  refine lv_icmp_eq (tgt := 1249) hx hb dL_law_1244 (by decide) (fun _ => ?_) (fun c => absurd rfl c)
  refine lv_goto (tgt := 1818) hx hb dL_law_1249 (by decide) ?_
  exact W.widen (k := 60 + (j + 1)) (n := 900 + 6 * (j + 1)) (by omega) (by omega) (hk _ _ H locs ls hI9 hP hD hS (lv_sub hl [1, 2, 3, 4, 5] rfl))

set_option maxHeartbeats 4000000 in
set_option maxRecDepth 100000 in
theorem law_c15 {p : Program} {l : Launch} {e : Env} {s : State} {m : MethodId} {below : List Frame} {meth : Method} {c : Code} {D : va_G} {ad bd : Nat → Nat} {cI cT cJ : ClassId} {b o L : Nat} {xs : Nat → Int32} {j : Nat} (hst : l.stackTraces = false) (C0 : lw_At p s m meth c b L xs) (hK : va_K D vwCl (fk_ty cI cT cJ) s) (hZ : fk_Zs (lw_A s) s s.heap) (hN : fk_Nc s) (hL : L ≤ 3584) (hj : 7 * j + 7 ≤ L) (hk : lw_Go p l e s m below meth c D ad bd cI cT cJ b o (j + 1) j 1818) : lw_Go p l e s m below meth c D ad bd cI cT cJ b o j j 1252 := by
  obtain ⟨hx, hb, hr, hml, hown, hts0, hX, hbl, hlocks, hgv⟩ := C0
  have hts : ∀ w ∈ wsL_law, w.before #[Value.ref b] s = true := fun w h => hts0 w (wsL_law_in w h)
  have hA : ∀ q : Nat, s.heap.size ≤ q → lw_A s q := fun _ h => h
  have hbA : ¬ lw_A s b := Nat.not_le.mpr hbl
  intro M f H locs ls hI hP hD hS hl
  obtain ⟨k, M', f', r, hk3, h4, hI9, hf, hL9, hM9⟩ := op_setPriority (l := l) (D := D) (ad := ad) (bd := bd) (cI := cI) (cT := cT) (cJ := cJ) (o := o) (f := f) hI (by omega) (by omega) hst (xs (7 * j + 1)) (xs (7 * j + 2))
  have hI9 : fk_I (8 * (j + 1)) (1000 * (j + 1)) M' := hI9.wk (by omega) (by omega)
  refine lv_aload_n hx hb dL_law_1252 rfl (lv_at hl 2 rfl) ?_
  refine lv_aload_n hx hb dL_law_1253 rfl (lv_at hl 1 rfl) ?_
  refine lv_iload hx hb dL_law_1254 (lv_at hl 0 rfl) ?_
  refine lv_iconst (v := 1) hx hb dL_law_1256 (by decide) ?_
  refine lv_iadd hx hb dL_law_1257 ?_
  refine W.eq (g2 := F0 m 1258 ls [.int (nI (7 * j + 1)), .ref b, .ref (ad 0)]) (by rw [show (1 : Int32) = nI 1 from rfl, nI_add]) ?_
  refine va_sld hx hb hX hbl hbA hS (vp_in_nI (show 7 * j + 1 < L by omega) (by omega)) dL_law_1258 ?_
  refine W.eq (g2 := F0 m 1259 ls [.int (xs (7 * j + 1)), .ref (ad 0)]) (by rw [nI_clamp (n := 7 * j + 1) (by omega)]) ?_
  refine lv_aload_n hx hb dL_law_1259 rfl (lv_at hl 1 rfl) ?_
  refine lv_iload hx hb dL_law_1260 (lv_at hl 0 rfl) ?_
  refine lv_iconst (v := 2) hx hb dL_law_1262 (by decide) ?_
  refine lv_iadd hx hb dL_law_1263 ?_
  refine W.eq (g2 := F0 m 1264 ls [.int (nI (7 * j + 2)), .ref b, .int (xs (7 * j + 1)), .ref (ad 0)]) (by rw [show (2 : Int32) = nI 2 from rfl, nI_add]) ?_
  refine va_sld hx hb hX hbl hbA hS (vp_in_nI (show 7 * j + 2 < L by omega) (by omega)) dL_law_1264 ?_
  refine W.eq (g2 := F0 m 1265 ls [.int (xs (7 * j + 2)), .int (xs (7 * j + 1)), .ref (ad 0)]) (by rw [nI_clamp (n := 7 * j + 2) (by omega)]) ?_
  refine lv_aload_n hx hb dL_law_1265 rfl (lv_at hl 4 rfl) ?_
  refine fk_lcallS (As := [.ref (ad 0), .int (xs (7 * j + 1)), .int (xs (7 * j + 2)), .ref o]) (rest := []) ⟨hx, hb, hml, hown, hts⟩ (hL9 (fk_mW bd cI M)) (vx_cwSW 4 hts gL_law_L_setPriority rfl rfl rfl (by decide +kernel) ⟨Nat.le_of_ble_eq_true rfl, Nat.le_of_ble_eq_true rfl⟩) hK hP hD hS hA hZ hN rfl hl.1 rfl (Nat.le_of_ble_eq_true rfl) dL_law_1266 ⟨by show 60 + j + 1 ≤ 653130; omega, by show 900 + 6 * j + 6 ≤ 7136714; omega⟩ (fun H locs hP hD hS => ?_)
  refine W.eq (g2 := F0 m 1269 ls [.int (nI k)]) rfl ?_
  have hP := fk_LWP.mp (show va_P D vwCl (fk_LW ad bd cI cT cJ (fk_kOf M') M o f') H from hP)
  have hD := fk_LWD.mp (show va_D (lw_A s) (fk_LW ad bd cI cT cJ (fk_kOf M') M o f') from hD)
  refine lv_istore (lv' := [(5, .int (nI k)), (4, .int (nI (7 * j))), (0, .ref b), (1, .ref (ad 0)), (2, .ref (bd 0)), (3, .ref o)]) hx hb dL_law_1269 hl (by decide) rfl (fun ls hl => ?_)
  refine lv_aload_n hx hb dL_law_1271 rfl (lv_at hl 4 rfl) ?_
  refine lv_aload_n hx hb dL_law_1272 rfl (lv_at hl 2 rfl) ?_
  refine lv_iload hx hb dL_law_1273 (lv_at hl 1 rfl) ?_
  refine lv_iconst (v := 1) hx hb dL_law_1275 (by decide) ?_
  refine lv_iadd hx hb dL_law_1276 ?_
  refine W.eq (g2 := F0 m 1277 ls [.int (nI (7 * j + 1)), .ref b, .ref (bd 0)]) (by rw [show (1 : Int32) = nI 1 from rfl, nI_add]) ?_
  refine va_sld hx hb hX hbl hbA hS (vp_in_nI (show 7 * j + 1 < L by omega) (by omega)) dL_law_1277 ?_
  refine W.eq (g2 := F0 m 1278 ls [.int (xs (7 * j + 1)), .ref (bd 0)]) (by rw [nI_clamp (n := 7 * j + 1) (by omega)]) ?_
  refine lv_aload_n hx hb dL_law_1278 rfl (lv_at hl 2 rfl) ?_
  refine lv_iload hx hb dL_law_1279 (lv_at hl 1 rfl) ?_
  refine lv_iconst (v := 2) hx hb dL_law_1281 (by decide) ?_
  refine lv_iadd hx hb dL_law_1282 ?_
  refine W.eq (g2 := F0 m 1283 ls [.int (nI (7 * j + 2)), .ref b, .int (xs (7 * j + 1)), .ref (bd 0)]) (by rw [show (2 : Int32) = nI 2 from rfl, nI_add]) ?_
  refine va_sld hx hb hX hbl hbA hS (vp_in_nI (show 7 * j + 2 < L by omega) (by omega)) dL_law_1283 ?_
  refine W.eq (g2 := F0 m 1284 ls [.int (xs (7 * j + 2)), .int (xs (7 * j + 1)), .ref (bd 0)]) (by rw [nI_clamp (n := 7 * j + 2) (by omega)]) ?_
  refine fk_callV (As := [.int (xs (7 * j + 1)), .int (xs (7 * j + 2))]) (rest := []) ⟨hx, hb, hml, hown, hts⟩ (hM9 _) (cwV 2 hts gL_law_X3_setPriority rfl rfl rfl (by decide +kernel) ⟨Nat.le_of_ble_eq_true rfl, Nat.le_of_ble_eq_true rfl⟩) (fk_rvM hK hP) hK hP hD hS hA rfl hl.1 rfl (Nat.le_of_ble_eq_true rfl) dL_law_1284 ⟨by show 60 + j + 1 ≤ 653130; omega, by show 900 + 6 * j + 6 ≤ 7136714; omega⟩ (fun H locs hP hD hS => ?_)
  refine W.eq (g2 := F0 m 1287 ls [.int r]) rfl ?_
  refine lv_istore (lv' := [(6, .int r), (5, .int (nI k)), (4, .int (nI (7 * j))), (0, .ref b), (1, .ref (ad 0)), (2, .ref (bd 0)), (3, .ref o)]) hx hb dL_law_1287 hl (by decide) rfl (fun ls hl => ?_)
  refine lv_aload_n hx hb dL_law_1289 rfl (lv_at hl 5 rfl) ?_
  refine fk_callV (As := []) (rest := []) ⟨hx, hb, hml, hown, hts⟩ (mc_thrown l D bd cI cT cJ _ M') (cwV 0 hts gL_law_X3_thrown rfl rfl rfl (by decide +kernel) ⟨Nat.le_of_ble_eq_true rfl, Nat.le_of_ble_eq_true rfl⟩) (fk_rvM hK hP) hK hP hD hS hA rfl hl.1 rfl (Nat.le_of_ble_eq_true rfl) dL_law_1290 ⟨by show 60 + j + 1 ≤ 653130; omega, by show 900 + 6 * j + 6 ≤ 7136714; omega⟩ (fun H locs hP hD hS => ?_)
  refine W.eq (g2 := F0 m 1293 ls [.int (nI k)]) (by rw [h4]; rfl) ?_
  have hP := fk_LWP.mpr hP
  have hD := fk_LWD.mpr hD
  refine lv_iload hx hb dL_law_1293 (lv_at hl 1 rfl) ?_
  refine lv_icmp_eq (tgt := 1300) hx hb dL_law_1295 (by decide) (fun _ => ?_) (fun c => absurd rfl c)
  refine lv_iload hx hb dL_law_1300 (lv_at hl 1 rfl) ?_
  refine lv_if_ne (tgt := 1317) hx hb dL_law_1302 (by decide) (fun _ => ?_) (fun ck => ?_)
  · refine lv_goto (tgt := 1818) hx hb dL_law_1317 (by decide) ?_
    exact W.widen (k := 60 + (j + 1)) (n := 900 + 6 * (j + 1)) (by omega) (by omega) (hk _ _ H locs ls hI9 hP hD hS (lv_sub hl [2, 3, 4, 5, 6] rfl))
  · have hk0 : k = 0 := (nI_eq (a := k) (b := 0) (by omega) (by decide)).mp ck
    refine lv_aload_n hx hb dL_law_1305 rfl (lv_at hl 6 rfl) ?_
    refine lv_iconst (v := 0) hx hb dL_law_1306 (by decide) ?_
    refine va_lald hx hb hK hP 27 2 fk_at27 rfl fk_v01 dL_law_1307 ?_
    refine W.eq (g2 := F0 m 1308 ls [.long r.toInt64]) (by rw [← hf hk0]; rfl) ?_
    refine lv_iload hx hb dL_law_1308 (lv_at hl 0 rfl) ?_
    refine lv_i2l hx hb dL_law_1310 rfl ?_
    refine W.lcmp hx hb dL_law_1311 ?_
    refine lv_if_eq (tgt := 1317) hx hb dL_law_1312 (by decide) (fun _ => ?_) (fun c => absurd (fk_lcmp_self _) c)
    refine lv_goto (tgt := 1818) hx hb dL_law_1317 (by decide) ?_
    exact W.widen (k := 60 + (j + 1)) (n := 900 + 6 * (j + 1)) (by omega) (by omega) (hk _ _ H locs ls hI9 hP hD hS (lv_sub hl [2, 3, 4, 5, 6] rfl))

set_option maxHeartbeats 4000000 in
set_option maxRecDepth 100000 in
theorem law_c16 {p : Program} {l : Launch} {e : Env} {s : State} {m : MethodId} {below : List Frame} {meth : Method} {c : Code} {D : va_G} {ad bd : Nat → Nat} {cI cT cJ : ClassId} {b o L : Nat} {xs : Nat → Int32} {j : Nat} (hst : l.stackTraces = false) (C0 : lw_At p s m meth c b L xs) (hK : va_K D vwCl (fk_ty cI cT cJ) s) (hZ : fk_Zs (lw_A s) s s.heap) (hN : fk_Nc s) (hL : L ≤ 3584) (hj : 7 * j + 7 ≤ L) (hk : lw_Go p l e s m below meth c D ad bd cI cT cJ b o (j + 1) j 1818) : lw_Go p l e s m below meth c D ad bd cI cT cJ b o j j 1320 := by
  obtain ⟨hx, hb, hr, hml, hown, hts0, hX, hbl, hlocks, hgv⟩ := C0
  have hts : ∀ w ∈ wsL_law, w.before #[Value.ref b] s = true := fun w h => hts0 w (wsL_law_in w h)
  have hA : ∀ q : Nat, s.heap.size ≤ q → lw_A s q := fun _ h => h
  have hbA : ¬ lw_A s b := Nat.not_le.mpr hbl
  intro M f H locs ls hI hP hD hS hl
  obtain ⟨k, M', f', r, hk3, h4, hI9, hf, hL9, hM9⟩ := op_tick (l := l) (D := D) (ad := ad) (bd := bd) (cI := cI) (cT := cT) (cJ := cJ) (o := o) (f := f) hI (by omega) (by omega) hst (xs (7 * j + 1))
  have hI9 : fk_I (8 * (j + 1)) (1000 * (j + 1)) M' := hI9.wk (by omega) (by omega)
  refine lv_aload_n hx hb dL_law_1320 rfl (lv_at hl 2 rfl) ?_
  refine lv_aload_n hx hb dL_law_1321 rfl (lv_at hl 1 rfl) ?_
  refine lv_iload hx hb dL_law_1322 (lv_at hl 0 rfl) ?_
  refine lv_iconst (v := 1) hx hb dL_law_1324 (by decide) ?_
  refine lv_iadd hx hb dL_law_1325 ?_
  refine W.eq (g2 := F0 m 1326 ls [.int (nI (7 * j + 1)), .ref b, .ref (ad 0)]) (by rw [show (1 : Int32) = nI 1 from rfl, nI_add]) ?_
  refine va_sld hx hb hX hbl hbA hS (vp_in_nI (show 7 * j + 1 < L by omega) (by omega)) dL_law_1326 ?_
  refine W.eq (g2 := F0 m 1327 ls [.int (xs (7 * j + 1)), .ref (ad 0)]) (by rw [nI_clamp (n := 7 * j + 1) (by omega)]) ?_
  refine lv_aload_n hx hb dL_law_1327 rfl (lv_at hl 4 rfl) ?_
  refine fk_lcallS (As := [.ref (ad 0), .int (xs (7 * j + 1)), .ref o]) (rest := []) ⟨hx, hb, hml, hown, hts⟩ (hL9 (fk_mW bd cI M)) (vx_cwSW 3 hts gL_law_L_tick rfl rfl rfl (by decide +kernel) ⟨Nat.le_of_ble_eq_true rfl, Nat.le_of_ble_eq_true rfl⟩) hK hP hD hS hA hZ hN rfl hl.1 rfl (Nat.le_of_ble_eq_true rfl) dL_law_1328 ⟨by show 60 + j + 1 ≤ 653130; omega, by show 900 + 6 * j + 6 ≤ 7136714; omega⟩ (fun H locs hP hD hS => ?_)
  refine W.eq (g2 := F0 m 1331 ls [.int (nI k)]) rfl ?_
  have hP := fk_LWP.mp (show va_P D vwCl (fk_LW ad bd cI cT cJ (fk_kOf M') M o f') H from hP)
  have hD := fk_LWD.mp (show va_D (lw_A s) (fk_LW ad bd cI cT cJ (fk_kOf M') M o f') from hD)
  refine lv_istore (lv' := [(5, .int (nI k)), (4, .int (nI (7 * j))), (0, .ref b), (1, .ref (ad 0)), (2, .ref (bd 0)), (3, .ref o)]) hx hb dL_law_1331 hl (by decide) rfl (fun ls hl => ?_)
  refine lv_aload_n hx hb dL_law_1333 rfl (lv_at hl 4 rfl) ?_
  refine lv_aload_n hx hb dL_law_1334 rfl (lv_at hl 2 rfl) ?_
  refine lv_iload hx hb dL_law_1335 (lv_at hl 1 rfl) ?_
  refine lv_iconst (v := 1) hx hb dL_law_1337 (by decide) ?_
  refine lv_iadd hx hb dL_law_1338 ?_
  refine W.eq (g2 := F0 m 1339 ls [.int (nI (7 * j + 1)), .ref b, .ref (bd 0)]) (by rw [show (1 : Int32) = nI 1 from rfl, nI_add]) ?_
  refine va_sld hx hb hX hbl hbA hS (vp_in_nI (show 7 * j + 1 < L by omega) (by omega)) dL_law_1339 ?_
  refine W.eq (g2 := F0 m 1340 ls [.int (xs (7 * j + 1)), .ref (bd 0)]) (by rw [nI_clamp (n := 7 * j + 1) (by omega)]) ?_
  refine fk_callV (As := [.int (xs (7 * j + 1))]) (rest := []) ⟨hx, hb, hml, hown, hts⟩ (hM9 _) (cwV 1 hts gL_law_X3_tick rfl rfl rfl (by decide +kernel) ⟨Nat.le_of_ble_eq_true rfl, Nat.le_of_ble_eq_true rfl⟩) (fk_rvM hK hP) hK hP hD hS hA rfl hl.1 rfl (Nat.le_of_ble_eq_true rfl) dL_law_1340 ⟨by show 60 + j + 1 ≤ 653130; omega, by show 900 + 6 * j + 6 ≤ 7136714; omega⟩ (fun H locs hP hD hS => ?_)
  refine W.eq (g2 := F0 m 1343 ls [.int r]) rfl ?_
  refine lv_istore (lv' := [(6, .int r), (5, .int (nI k)), (4, .int (nI (7 * j))), (0, .ref b), (1, .ref (ad 0)), (2, .ref (bd 0)), (3, .ref o)]) hx hb dL_law_1343 hl (by decide) rfl (fun ls hl => ?_)
  refine lv_aload_n hx hb dL_law_1345 rfl (lv_at hl 5 rfl) ?_
  refine fk_callV (As := []) (rest := []) ⟨hx, hb, hml, hown, hts⟩ (mc_thrown l D bd cI cT cJ _ M') (cwV 0 hts gL_law_X3_thrown rfl rfl rfl (by decide +kernel) ⟨Nat.le_of_ble_eq_true rfl, Nat.le_of_ble_eq_true rfl⟩) (fk_rvM hK hP) hK hP hD hS hA rfl hl.1 rfl (Nat.le_of_ble_eq_true rfl) dL_law_1346 ⟨by show 60 + j + 1 ≤ 653130; omega, by show 900 + 6 * j + 6 ≤ 7136714; omega⟩ (fun H locs hP hD hS => ?_)
  refine W.eq (g2 := F0 m 1349 ls [.int (nI k)]) (by rw [h4]; rfl) ?_
  have hP := fk_LWP.mpr hP
  have hD := fk_LWD.mpr hD
  refine lv_iload hx hb dL_law_1349 (lv_at hl 1 rfl) ?_
  refine lv_icmp_eq (tgt := 1356) hx hb dL_law_1351 (by decide) (fun _ => ?_) (fun c => absurd rfl c)
  refine lv_iload hx hb dL_law_1356 (lv_at hl 1 rfl) ?_
  refine lv_if_ne (tgt := 1373) hx hb dL_law_1358 (by decide) (fun _ => ?_) (fun ck => ?_)
  · refine lv_goto (tgt := 1818) hx hb dL_law_1373 (by decide) ?_
    exact W.widen (k := 60 + (j + 1)) (n := 900 + 6 * (j + 1)) (by omega) (by omega) (hk _ _ H locs ls hI9 hP hD hS (lv_sub hl [2, 3, 4, 5, 6] rfl))
  · have hk0 : k = 0 := (nI_eq (a := k) (b := 0) (by omega) (by decide)).mp ck
    refine lv_aload_n hx hb dL_law_1361 rfl (lv_at hl 6 rfl) ?_
    refine lv_iconst (v := 0) hx hb dL_law_1362 (by decide) ?_
    refine va_lald hx hb hK hP 27 2 fk_at27 rfl fk_v01 dL_law_1363 ?_
    refine W.eq (g2 := F0 m 1364 ls [.long r.toInt64]) (by rw [← hf hk0]; rfl) ?_
    refine lv_iload hx hb dL_law_1364 (lv_at hl 0 rfl) ?_
    refine lv_i2l hx hb dL_law_1366 rfl ?_
    refine W.lcmp hx hb dL_law_1367 ?_
    refine lv_if_eq (tgt := 1373) hx hb dL_law_1368 (by decide) (fun _ => ?_) (fun c => absurd (fk_lcmp_self _) c)
    refine lv_goto (tgt := 1818) hx hb dL_law_1373 (by decide) ?_
    exact W.widen (k := 60 + (j + 1)) (n := 900 + 6 * (j + 1)) (by omega) (by omega) (hk _ _ H locs ls hI9 hP hD hS (lv_sub hl [2, 3, 4, 5, 6] rfl))

set_option maxHeartbeats 4000000 in
set_option maxRecDepth 100000 in
theorem law_c17 {p : Program} {l : Launch} {e : Env} {s : State} {m : MethodId} {below : List Frame} {meth : Method} {c : Code} {D : va_G} {ad bd : Nat → Nat} {cI cT cJ : ClassId} {b o L : Nat} {xs : Nat → Int32} {j : Nat} (hst : l.stackTraces = false) (C0 : lw_At p s m meth c b L xs) (hK : va_K D vwCl (fk_ty cI cT cJ) s) (hZ : fk_Zs (lw_A s) s s.heap) (hN : fk_Nc s) (hL : L ≤ 3584) (hj : 7 * j + 7 ≤ L) (hk : lw_Go p l e s m below meth c D ad bd cI cT cJ b o (j + 1) j 1818) : lw_Go p l e s m below meth c D ad bd cI cT cJ b o j j 1376 := by
  obtain ⟨hx, hb, hr, hml, hown, hts0, hX, hbl, hlocks, hgv⟩ := C0
  have hts : ∀ w ∈ wsL_law, w.before #[Value.ref b] s = true := fun w h => hts0 w (wsL_law_in w h)
  have hA : ∀ q : Nat, s.heap.size ≤ q → lw_A s q := fun _ h => h
  have hbA : ¬ lw_A s b := Nat.not_le.mpr hbl
  intro M f H locs ls hI hP hD hS hl
  have hI9 : fk_I (8 * (j + 1)) (1000 * (j + 1)) (fk_up M 12 4 0) := (fk_I0 hI 0).wk (by omega) (by omega)
  refine lv_aload_n hx hb dL_law_1376 rfl (lv_at hl 2 rfl) ?_
  refine fk_callV (As := []) (rest := []) ⟨hx, hb, hml, hown, hts⟩ (kc_now l D ad cI cT cJ _ (fk_kOf M)) (cwV 0 hts gL_law_X2_now rfl rfl rfl (by decide +kernel) ⟨Nat.le_of_ble_eq_true rfl, Nat.le_of_ble_eq_true rfl⟩) (fk_rvK hK hP) hK hP hD hS hA rfl hl.1 rfl (Nat.le_of_ble_eq_true rfl) dL_law_1377 ⟨by show 60 + j ≤ 653130; omega, by show 900 + 6 * j ≤ 7136714; omega⟩ (fun H locs hP hD hS => ?_)
  refine W.eq (g2 := F0 m 1380 ls [.int (M 12 0)]) (by rw [show fk_kOf M 12 0 = M 12 0 from fk_kf (by decide) (by decide) (by omega)]; rfl) ?_
  have hP := fk_LWP.mp (show va_P D vwCl (fk_LW ad bd cI cT cJ (fk_kOf M) M o f) H from hP)
  have hD := fk_LWD.mp (show va_D (lw_A s) (fk_LW ad bd cI cT cJ (fk_kOf M) M o f) from hD)
  refine lv_aload_n hx hb dL_law_1380 rfl (lv_at hl 3 rfl) ?_
  refine fk_callV (As := []) (rest := [.int (M 12 0)]) ⟨hx, hb, hml, hown, hts⟩ (mc_now l D bd cI cT cJ _ M) (cwV 0 hts gL_law_X3_now rfl rfl rfl (by decide +kernel) ⟨Nat.le_of_ble_eq_true rfl, Nat.le_of_ble_eq_true rfl⟩) (fk_rvM hK hP) hK hP hD hS hA rfl hl.1 rfl (Nat.le_of_ble_eq_true rfl) dL_law_1381 ⟨by show 60 + j ≤ 653130; omega, by show 900 + 6 * j ≤ 7136714; omega⟩ (fun H locs hP hD hS => ?_)
  refine W.eq (g2 := F0 m 1384 ls [.int (M 12 0), .int (M 12 0)]) rfl ?_
  have hP := fk_LWP.mpr hP
  have hD := fk_LWD.mpr hD
  rw [← fk_k_set M 0] at hP hD
  refine lv_icmp_eq (tgt := 1818) hx hb dL_law_1384 (by decide) (fun _ => ?_) (fun c => absurd rfl c)
  exact W.widen (k := 60 + (j + 1)) (n := 900 + 6 * (j + 1)) (by omega) (by omega) (hk _ _ H locs ls hI9 hP hD hS (lv_sub hl [0, 1, 2, 3, 4] rfl))

set_option maxHeartbeats 4000000 in
set_option maxRecDepth 100000 in
theorem law_c18 {p : Program} {l : Launch} {e : Env} {s : State} {m : MethodId} {below : List Frame} {meth : Method} {c : Code} {D : va_G} {ad bd : Nat → Nat} {cI cT cJ : ClassId} {b o L : Nat} {xs : Nat → Int32} {j : Nat} (hst : l.stackTraces = false) (C0 : lw_At p s m meth c b L xs) (hK : va_K D vwCl (fk_ty cI cT cJ) s) (hZ : fk_Zs (lw_A s) s s.heap) (hN : fk_Nc s) (hL : L ≤ 3584) (hj : 7 * j + 7 ≤ L) (hk : lw_Go p l e s m below meth c D ad bd cI cT cJ b o (j + 1) j 1818) : lw_Go p l e s m below meth c D ad bd cI cT cJ b o j j 1389 := by
  obtain ⟨hx, hb, hr, hml, hown, hts0, hX, hbl, hlocks, hgv⟩ := C0
  have hts : ∀ w ∈ wsL_law, w.before #[Value.ref b] s = true := fun w h => hts0 w (wsL_law_in w h)
  have hA : ∀ q : Nat, s.heap.size ≤ q → lw_A s q := fun _ h => h
  have hbA : ¬ lw_A s b := Nat.not_le.mpr hbl
  intro M f H locs ls hI hP hD hS hl
  have hI9 : fk_I (8 * (j + 1)) (1000 * (j + 1)) (fk_up M 12 4 0) := (fk_I0 hI 0).wk (by omega) (by omega)
  refine lv_aload_n hx hb dL_law_1389 rfl (lv_at hl 2 rfl) ?_
  refine fk_callV (As := []) (rest := []) ⟨hx, hb, hml, hown, hts⟩ (kc_nextTimeout l D ad cI cT cJ _ (fk_kOf M)) (cwV 0 hts gL_law_X2_nextTimeout rfl rfl rfl (by decide +kernel) ⟨Nat.le_of_ble_eq_true rfl, Nat.le_of_ble_eq_true rfl⟩) (fk_rvK hK hP) hK hP hD hS hA rfl hl.1 rfl (Nat.le_of_ble_eq_true rfl) dL_law_1390 ⟨by show 60 + j ≤ 653130; omega, by show 900 + 6 * j ≤ 7136714; omega⟩ (fun H locs hP hD hS => ?_)
  refine W.eq (g2 := F0 m 1393 ls [.int (kk_nextR (fk_kOf M))]) rfl ?_
  have hP := fk_LWP.mp (show va_P D vwCl (fk_LW ad bd cI cT cJ (fk_kOf M) M o f) H from hP)
  have hD := fk_LWD.mp (show va_D (lw_A s) (fk_LW ad bd cI cT cJ (fk_kOf M) M o f) from hD)
  refine lv_aload_n hx hb dL_law_1393 rfl (lv_at hl 3 rfl) ?_
  refine fk_callV (As := []) (rest := [.int (kk_nextR (fk_kOf M))]) ⟨hx, hb, hml, hown, hts⟩ (mc_nextTimeout l D bd cI cT cJ _ M) (cwV 0 hts gL_law_X3_nextTimeout rfl rfl rfl (by decide +kernel) ⟨Nat.le_of_ble_eq_true rfl, Nat.le_of_ble_eq_true rfl⟩) (fk_rvM hK hP) hK hP hD hS hA rfl hl.1 rfl (Nat.le_of_ble_eq_true rfl) dL_law_1394 ⟨by show 60 + j ≤ 653130; omega, by show 900 + 6 * j ≤ 7136714; omega⟩ (fun H locs hP hD hS => ?_)
  refine W.eq (g2 := F0 m 1397 ls [.int (kk_nextR (fk_kOf M)), .int (kk_nextR (fk_kOf M))]) (by have h9 := kk_nextR_k (fk_I0 hI 0) (by omega); rw [fk_k_set] at h9; rw [h9]; rfl) ?_
  have hP := fk_LWP.mpr hP
  have hD := fk_LWD.mpr hD
  rw [← fk_k_set M 0] at hP hD
  refine lv_icmp_eq (tgt := 1818) hx hb dL_law_1397 (by decide) (fun _ => ?_) (fun c => absurd rfl c)
  exact W.widen (k := 60 + (j + 1)) (n := 900 + 6 * (j + 1)) (by omega) (by omega) (hk _ _ H locs ls hI9 hP hD hS (lv_sub hl [0, 1, 2, 3, 4] rfl))

set_option maxHeartbeats 4000000 in
set_option maxRecDepth 100000 in
theorem law_c19 {p : Program} {l : Launch} {e : Env} {s : State} {m : MethodId} {below : List Frame} {meth : Method} {c : Code} {D : va_G} {ad bd : Nat → Nat} {cI cT cJ : ClassId} {b o L : Nat} {xs : Nat → Int32} {j : Nat} (hst : l.stackTraces = false) (C0 : lw_At p s m meth c b L xs) (hK : va_K D vwCl (fk_ty cI cT cJ) s) (hZ : fk_Zs (lw_A s) s s.heap) (hN : fk_Nc s) (hL : L ≤ 3584) (hj : 7 * j + 7 ≤ L) (hk : lw_Go p l e s m below meth c D ad bd cI cT cJ b o (j + 1) j 1818) : lw_Go p l e s m below meth c D ad bd cI cT cJ b o j j 1402 := by
  obtain ⟨hx, hb, hr, hml, hown, hts0, hX, hbl, hlocks, hgv⟩ := C0
  have hts : ∀ w ∈ wsL_law, w.before #[Value.ref b] s = true := fun w h => hts0 w (wsL_law_in w h)
  have hA : ∀ q : Nat, s.heap.size ≤ q → lw_A s q := fun _ h => h
  have hbA : ¬ lw_A s b := Nat.not_le.mpr hbl
  intro M f H locs ls hI hP hD hS hl
  obtain ⟨k, M', f', r, hk3, h4, hI9, hf, hL9, hM9⟩ := op_stateOf (l := l) (D := D) (ad := ad) (bd := bd) (cI := cI) (cT := cT) (cJ := cJ) (o := o) (f := f) hI (by omega) (by omega) hst (xs (7 * j + 1))
  have hI9 : fk_I (8 * (j + 1)) (1000 * (j + 1)) M' := hI9.wk (by omega) (by omega)
  refine lv_aload_n hx hb dL_law_1402 rfl (lv_at hl 2 rfl) ?_
  refine lv_aload_n hx hb dL_law_1403 rfl (lv_at hl 1 rfl) ?_
  refine lv_iload hx hb dL_law_1404 (lv_at hl 0 rfl) ?_
  refine lv_iconst (v := 1) hx hb dL_law_1406 (by decide) ?_
  refine lv_iadd hx hb dL_law_1407 ?_
  refine W.eq (g2 := F0 m 1408 ls [.int (nI (7 * j + 1)), .ref b, .ref (ad 0)]) (by rw [show (1 : Int32) = nI 1 from rfl, nI_add]) ?_
  refine va_sld hx hb hX hbl hbA hS (vp_in_nI (show 7 * j + 1 < L by omega) (by omega)) dL_law_1408 ?_
  refine W.eq (g2 := F0 m 1409 ls [.int (xs (7 * j + 1)), .ref (ad 0)]) (by rw [nI_clamp (n := 7 * j + 1) (by omega)]) ?_
  refine lv_aload_n hx hb dL_law_1409 rfl (lv_at hl 4 rfl) ?_
  refine fk_lcallS (As := [.ref (ad 0), .int (xs (7 * j + 1)), .ref o]) (rest := []) ⟨hx, hb, hml, hown, hts⟩ (hL9 (fk_mW bd cI M)) (vx_cwSW 3 hts gL_law_L_stateOf rfl rfl rfl (by decide +kernel) ⟨Nat.le_of_ble_eq_true rfl, Nat.le_of_ble_eq_true rfl⟩) hK hP hD hS hA hZ hN rfl hl.1 rfl (Nat.le_of_ble_eq_true rfl) dL_law_1410 ⟨by show 60 + j + 1 ≤ 653130; omega, by show 900 + 6 * j + 6 ≤ 7136714; omega⟩ (fun H locs hP hD hS => ?_)
  refine W.eq (g2 := F0 m 1413 ls [.int (nI k)]) rfl ?_
  have hP := fk_LWP.mp (show va_P D vwCl (fk_LW ad bd cI cT cJ (fk_kOf M') M o f') H from hP)
  have hD := fk_LWD.mp (show va_D (lw_A s) (fk_LW ad bd cI cT cJ (fk_kOf M') M o f') from hD)
  refine lv_istore (lv' := [(5, .int (nI k)), (4, .int (nI (7 * j))), (0, .ref b), (1, .ref (ad 0)), (2, .ref (bd 0)), (3, .ref o)]) hx hb dL_law_1413 hl (by decide) rfl (fun ls hl => ?_)
  refine lv_aload_n hx hb dL_law_1415 rfl (lv_at hl 4 rfl) ?_
  refine lv_aload_n hx hb dL_law_1416 rfl (lv_at hl 2 rfl) ?_
  refine lv_iload hx hb dL_law_1417 (lv_at hl 1 rfl) ?_
  refine lv_iconst (v := 1) hx hb dL_law_1419 (by decide) ?_
  refine lv_iadd hx hb dL_law_1420 ?_
  refine W.eq (g2 := F0 m 1421 ls [.int (nI (7 * j + 1)), .ref b, .ref (bd 0)]) (by rw [show (1 : Int32) = nI 1 from rfl, nI_add]) ?_
  refine va_sld hx hb hX hbl hbA hS (vp_in_nI (show 7 * j + 1 < L by omega) (by omega)) dL_law_1421 ?_
  refine W.eq (g2 := F0 m 1422 ls [.int (xs (7 * j + 1)), .ref (bd 0)]) (by rw [nI_clamp (n := 7 * j + 1) (by omega)]) ?_
  refine fk_callV (As := [.int (xs (7 * j + 1))]) (rest := []) ⟨hx, hb, hml, hown, hts⟩ (hM9 _) (cwV 1 hts gL_law_X3_stateOf rfl rfl rfl (by decide +kernel) ⟨Nat.le_of_ble_eq_true rfl, Nat.le_of_ble_eq_true rfl⟩) (fk_rvM hK hP) hK hP hD hS hA rfl hl.1 rfl (Nat.le_of_ble_eq_true rfl) dL_law_1422 ⟨by show 60 + j + 1 ≤ 653130; omega, by show 900 + 6 * j + 6 ≤ 7136714; omega⟩ (fun H locs hP hD hS => ?_)
  refine W.eq (g2 := F0 m 1425 ls [.int r]) rfl ?_
  refine lv_istore (lv' := [(6, .int r), (5, .int (nI k)), (4, .int (nI (7 * j))), (0, .ref b), (1, .ref (ad 0)), (2, .ref (bd 0)), (3, .ref o)]) hx hb dL_law_1425 hl (by decide) rfl (fun ls hl => ?_)
  refine lv_aload_n hx hb dL_law_1427 rfl (lv_at hl 5 rfl) ?_
  refine fk_callV (As := []) (rest := []) ⟨hx, hb, hml, hown, hts⟩ (mc_thrown l D bd cI cT cJ _ M') (cwV 0 hts gL_law_X3_thrown rfl rfl rfl (by decide +kernel) ⟨Nat.le_of_ble_eq_true rfl, Nat.le_of_ble_eq_true rfl⟩) (fk_rvM hK hP) hK hP hD hS hA rfl hl.1 rfl (Nat.le_of_ble_eq_true rfl) dL_law_1428 ⟨by show 60 + j + 1 ≤ 653130; omega, by show 900 + 6 * j + 6 ≤ 7136714; omega⟩ (fun H locs hP hD hS => ?_)
  refine W.eq (g2 := F0 m 1431 ls [.int (nI k)]) (by rw [h4]; rfl) ?_
  have hP := fk_LWP.mpr hP
  have hD := fk_LWD.mpr hD
  refine lv_iload hx hb dL_law_1431 (lv_at hl 1 rfl) ?_
  refine lv_icmp_eq (tgt := 1438) hx hb dL_law_1433 (by decide) (fun _ => ?_) (fun c => absurd rfl c)
  refine lv_iload hx hb dL_law_1438 (lv_at hl 1 rfl) ?_
  refine lv_if_ne (tgt := 1455) hx hb dL_law_1440 (by decide) (fun _ => ?_) (fun ck => ?_)
  · refine lv_goto (tgt := 1818) hx hb dL_law_1455 (by decide) ?_
    exact W.widen (k := 60 + (j + 1)) (n := 900 + 6 * (j + 1)) (by omega) (by omega) (hk _ _ H locs ls hI9 hP hD hS (lv_sub hl [2, 3, 4, 5, 6] rfl))
  · have hk0 : k = 0 := (nI_eq (a := k) (b := 0) (by omega) (by decide)).mp ck
    refine lv_aload_n hx hb dL_law_1443 rfl (lv_at hl 6 rfl) ?_
    refine lv_iconst (v := 0) hx hb dL_law_1444 (by decide) ?_
    refine va_lald hx hb hK hP 27 2 fk_at27 rfl fk_v01 dL_law_1445 ?_
    refine W.eq (g2 := F0 m 1446 ls [.long r.toInt64]) (by rw [← hf hk0]; rfl) ?_
    refine lv_iload hx hb dL_law_1446 (lv_at hl 0 rfl) ?_
    refine lv_i2l hx hb dL_law_1448 rfl ?_
    refine W.lcmp hx hb dL_law_1449 ?_
    refine lv_if_eq (tgt := 1455) hx hb dL_law_1450 (by decide) (fun _ => ?_) (fun c => absurd (fk_lcmp_self _) c)
    refine lv_goto (tgt := 1818) hx hb dL_law_1455 (by decide) ?_
    exact W.widen (k := 60 + (j + 1)) (n := 900 + 6 * (j + 1)) (by omega) (by omega) (hk _ _ H locs ls hI9 hP hD hS (lv_sub hl [2, 3, 4, 5, 6] rfl))
