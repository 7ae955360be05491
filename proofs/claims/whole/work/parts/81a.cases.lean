/-! the law's walk: what holds on the way -/
def lw_A (s : State) : Nat → Prop := fun q => s.heap.size ≤ q
/-- from the instruction pc, with j calls behind it (and the index at call i), the law comes to its end -/
def lw_Go (p : Program) (l : Launch) (e : Env) (s : State) (m : MethodId) (below : List Frame) (meth : Method) (c : Code) (D : va_G) (ad bd : Nat → Nat) (cI cT cJ : ClassId) (b o j i pc : Nat) : Prop :=
  ∀ (M : fk_S) (f : Nat → Int64) (H : Heap) (locs : List Loc) (ls : Array Slot), fk_I (8 * j) (1000 * j) M → va_P D vwCl (fk_LW ad bd cI cT cJ (fk_kOf M) M o f) H → va_D (lw_A s) (fk_LW ad bd cI cT cJ (fk_kOf M) M o f) → va_S (lw_A s) s.heap H locs →
    lv_has ls 7 [(4, .int (nI (7 * i))), (0, .ref b), (1, .ref (ad 0)), (2, .ref (bd 0)), (3, .ref o)] → W p l e room_1 s m #[Value.ref b] below meth c H locs (60 + j) (900 + 6 * j) (lw_Z below #[Value.ref b] s) (F0 m pc ls [])
theorem fk_lcmp_self (x : Int64) : lg_cmp x x = 0 := by
  unfold lg_cmp
  rw [if_neg (Int64.lt_irrefl), if_pos rfl]
set_option maxHeartbeats 4000000 in
set_option maxRecDepth 100000 in
theorem law_c0 {p : Program} {l : Launch} {e : Env} {s : State} {m : MethodId} {below : List Frame} {meth : Method} {c : Code} {D : va_G} {ad bd : Nat → Nat} {cI cT cJ : ClassId} {b o L : Nat} {xs : Nat → Int32} {j : Nat} (hst : l.stackTraces = false) (C0 : lw_At p s m meth c b L xs) (hK : va_K D vwCl (fk_ty cI cT cJ) s) (hZ : fk_Zs (lw_A s) s s.heap) (hN : fk_Nc s) (hL : L ≤ 3584) (hj : 7 * j + 7 ≤ L) (hk : lw_Go p l e s m below meth c D ad bd cI cT cJ b o (j + 1) j 1818) : lw_Go p l e s m below meth c D ad bd cI cT cJ b o j j 160 := by
  obtain ⟨hx, hb, hr, hml, hown, hts0, hX, hbl, hlocks, hgv⟩ := C0
  have hts : ∀ w ∈ wsL_law, w.before #[Value.ref b] s = true := fun w h => hts0 w (wsL_law_in w h)
  have hA : ∀ q : Nat, s.heap.size ≤ q → lw_A s q := fun _ h => h
  have hbA : ¬ lw_A s b := Nat.not_le.mpr hbl
  intro M f H locs ls hI hP hD hS hl
  obtain ⟨k, M', f', r, hk3, h4, hI9, hf, hL9, hM9⟩ := op_store (l := l) (D := D) (ad := ad) (bd := bd) (cI := cI) (cT := cT) (cJ := cJ) (o := o) (f := f) hI (by omega) (by omega) hst (xs (7 * j + 1)) (xs (7 * j + 2)) (xs (7 * j + 3))
  have hI9 : fk_I (8 * (j + 1)) (1000 * (j + 1)) M' := hI9.wk (by omega) (by omega)
  refine lv_aload_n hx hb dL_law_160 rfl (lv_at hl 2 rfl) ?_
  refine lv_aload_n hx hb dL_law_161 rfl (lv_at hl 1 rfl) ?_
  refine lv_iload hx hb dL_law_162 (lv_at hl 0 rfl) ?_
  refine lv_iconst (v := 1) hx hb dL_law_164 (by decide) ?_
  refine lv_iadd hx hb dL_law_165 ?_
  refine W.eq (g2 := F0 m 166 ls [.int (nI (7 * j + 1)), .ref b, .ref (ad 0)]) (by rw [show (1 : Int32) = nI 1 from rfl, nI_add]) ?_
  refine va_sld hx hb hX hbl hbA hS (vp_in_nI (show 7 * j + 1 < L by omega) (by omega)) dL_law_166 ?_
  refine W.eq (g2 := F0 m 167 ls [.int (xs (7 * j + 1)), .ref (ad 0)]) (by rw [nI_clamp (n := 7 * j + 1) (by omega)]) ?_
  refine lv_aload_n hx hb dL_law_167 rfl (lv_at hl 1 rfl) ?_
  refine lv_iload hx hb dL_law_168 (lv_at hl 0 rfl) ?_
  refine lv_iconst (v := 2) hx hb dL_law_170 (by decide) ?_
  refine lv_iadd hx hb dL_law_171 ?_
  refine W.eq (g2 := F0 m 172 ls [.int (nI (7 * j + 2)), .ref b, .int (xs (7 * j + 1)), .ref (ad 0)]) (by rw [show (2 : Int32) = nI 2 from rfl, nI_add]) ?_
  refine va_sld hx hb hX hbl hbA hS (vp_in_nI (show 7 * j + 2 < L by omega) (by omega)) dL_law_172 ?_
  refine W.eq (g2 := F0 m 173 ls [.int (xs (7 * j + 2)), .int (xs (7 * j + 1)), .ref (ad 0)]) (by rw [nI_clamp (n := 7 * j + 2) (by omega)]) ?_
  refine lv_aload_n hx hb dL_law_173 rfl (lv_at hl 1 rfl) ?_
  refine lv_iload hx hb dL_law_174 (lv_at hl 0 rfl) ?_
  refine lv_iconst (v := 3) hx hb dL_law_176 (by decide) ?_
  refine lv_iadd hx hb dL_law_177 ?_
  refine W.eq (g2 := F0 m 178 ls [.int (nI (7 * j + 3)), .ref b, .int (xs (7 * j + 2)), .int (xs (7 * j + 1)), .ref (ad 0)]) (by rw [show (3 : Int32) = nI 3 from rfl, nI_add]) ?_
  refine va_sld hx hb hX hbl hbA hS (vp_in_nI (show 7 * j + 3 < L by omega) (by omega)) dL_law_178 ?_
  refine W.eq (g2 := F0 m 179 ls [.int (xs (7 * j + 3)), .int (xs (7 * j + 2)), .int (xs (7 * j + 1)), .ref (ad 0)]) (by rw [nI_clamp (n := 7 * j + 3) (by omega)]) ?_
  refine lv_aload_n hx hb dL_law_179 rfl (lv_at hl 4 rfl) ?_
  refine fk_lcallS (As := [.ref (ad 0), .int (xs (7 * j + 1)), .int (xs (7 * j + 2)), .int (xs (7 * j + 3)), .ref o]) (rest := []) ⟨hx, hb, hml, hown, hts⟩ (hL9 (fk_mW bd cI M)) (vx_cwSW 5 hts gL_law_L_store rfl rfl rfl (by decide +kernel) ⟨Nat.le_of_ble_eq_true rfl, Nat.le_of_ble_eq_true rfl⟩) hK hP hD hS hA hZ hN rfl hl.1 rfl (Nat.le_of_ble_eq_true rfl) dL_law_180 ⟨by show 60 + j + 1 ≤ 653130; omega, by show 900 + 6 * j + 6 ≤ 7136714; omega⟩ (fun H locs hP hD hS => ?_)
  refine W.eq (g2 := F0 m 183 ls [.int (nI k)]) rfl ?_
  have hP := fk_LWP.mp (show va_P D vwCl (fk_LW ad bd cI cT cJ (fk_kOf M') M o f') H from hP)
  have hD := fk_LWD.mp (show va_D (lw_A s) (fk_LW ad bd cI cT cJ (fk_kOf M') M o f') from hD)
  refine lv_istore (lv' := [(5, .int (nI k)), (4, .int (nI (7 * j))), (0, .ref b), (1, .ref (ad 0)), (2, .ref (bd 0)), (3, .ref o)]) hx hb dL_law_183 hl (by decide) rfl (fun ls hl => ?_)
  refine lv_aload_n hx hb dL_law_185 rfl (lv_at hl 4 rfl) ?_
  refine lv_aload_n hx hb dL_law_186 rfl (lv_at hl 2 rfl) ?_
  refine lv_iload hx hb dL_law_187 (lv_at hl 1 rfl) ?_
  refine lv_iconst (v := 1) hx hb dL_law_189 (by decide) ?_
  refine lv_iadd hx hb dL_law_190 ?_
  refine W.eq (g2 := F0 m 191 ls [.int (nI (7 * j + 1)), .ref b, .ref (bd 0)]) (by rw [show (1 : Int32) = nI 1 from rfl, nI_add]) ?_
  refine va_sld hx hb hX hbl hbA hS (vp_in_nI (show 7 * j + 1 < L by omega) (by omega)) dL_law_191 ?_
  refine W.eq (g2 := F0 m 192 ls [.int (xs (7 * j + 1)), .ref (bd 0)]) (by rw [nI_clamp (n := 7 * j + 1) (by omega)]) ?_
  refine lv_aload_n hx hb dL_law_192 rfl (lv_at hl 2 rfl) ?_
  refine lv_iload hx hb dL_law_193 (lv_at hl 1 rfl) ?_
  refine lv_iconst (v := 2) hx hb dL_law_195 (by decide) ?_
  refine lv_iadd hx hb dL_law_196 ?_
  refine W.eq (g2 := F0 m 197 ls [.int (nI (7 * j + 2)), .ref b, .int (xs (7 * j + 1)), .ref (bd 0)]) (by rw [show (2 : Int32) = nI 2 from rfl, nI_add]) ?_
  refine va_sld hx hb hX hbl hbA hS (vp_in_nI (show 7 * j + 2 < L by omega) (by omega)) dL_law_197 ?_
  refine W.eq (g2 := F0 m 198 ls [.int (xs (7 * j + 2)), .int (xs (7 * j + 1)), .ref (bd 0)]) (by rw [nI_clamp (n := 7 * j + 2) (by omega)]) ?_
  refine lv_aload_n hx hb dL_law_198 rfl (lv_at hl 2 rfl) ?_
  refine lv_iload hx hb dL_law_199 (lv_at hl 1 rfl) ?_
  refine lv_iconst (v := 3) hx hb dL_law_201 (by decide) ?_
  refine lv_iadd hx hb dL_law_202 ?_
  refine W.eq (g2 := F0 m 203 ls [.int (nI (7 * j + 3)), .ref b, .int (xs (7 * j + 2)), .int (xs (7 * j + 1)), .ref (bd 0)]) (by rw [show (3 : Int32) = nI 3 from rfl, nI_add]) ?_
  refine va_sld hx hb hX hbl hbA hS (vp_in_nI (show 7 * j + 3 < L by omega) (by omega)) dL_law_203 ?_
  refine W.eq (g2 := F0 m 204 ls [.int (xs (7 * j + 3)), .int (xs (7 * j + 2)), .int (xs (7 * j + 1)), .ref (bd 0)]) (by rw [nI_clamp (n := 7 * j + 3) (by omega)]) ?_
  refine fk_callV (As := [.int (xs (7 * j + 1)), .int (xs (7 * j + 2)), .int (xs (7 * j + 3))]) (rest := []) ⟨hx, hb, hml, hown, hts⟩ (hM9 _) (cwV 3 hts gL_law_X3_store rfl rfl rfl (by decide +kernel) ⟨Nat.le_of_ble_eq_true rfl, Nat.le_of_ble_eq_true rfl⟩) (fk_rvM hK hP) hK hP hD hS hA rfl hl.1 rfl (Nat.le_of_ble_eq_true rfl) dL_law_204 ⟨by show 60 + j + 1 ≤ 653130; omega, by show 900 + 6 * j + 6 ≤ 7136714; omega⟩ (fun H locs hP hD hS => ?_)
  refine W.eq (g2 := F0 m 207 ls [.int r]) rfl ?_
  refine lv_istore (lv' := [(6, .int r), (5, .int (nI k)), (4, .int (nI (7 * j))), (0, .ref b), (1, .ref (ad 0)), (2, .ref (bd 0)), (3, .ref o)]) hx hb dL_law_207 hl (by decide) rfl (fun ls hl => ?_)
  refine lv_aload_n hx hb dL_law_209 rfl (lv_at hl 5 rfl) ?_
  refine fk_callV (As := []) (rest := []) ⟨hx, hb, hml, hown, hts⟩ (mc_thrown l D bd cI cT cJ _ M') (cwV 0 hts gL_law_X3_thrown rfl rfl rfl (by decide +kernel) ⟨Nat.le_of_ble_eq_true rfl, Nat.le_of_ble_eq_true rfl⟩) (fk_rvM hK hP) hK hP hD hS hA rfl hl.1 rfl (Nat.le_of_ble_eq_true rfl) dL_law_210 ⟨by show 60 + j + 1 ≤ 653130; omega, by show 900 + 6 * j + 6 ≤ 7136714; omega⟩ (fun H locs hP hD hS => ?_)
  refine W.eq (g2 := F0 m 213 ls [.int (nI k)]) (by rw [h4]; rfl) ?_
  have hP := fk_LWP.mpr hP
  have hD := fk_LWD.mpr hD
  refine lv_iload hx hb dL_law_213 (lv_at hl 1 rfl) ?_
  refine lv_icmp_eq (tgt := 220) hx hb dL_law_215 (by decide) (fun _ => ?_) (fun c => absurd rfl c)
  refine lv_iload hx hb dL_law_220 (lv_at hl 1 rfl) ?_
  refine lv_if_ne (tgt := 237) hx hb dL_law_222 (by decide) (fun _ => ?_) (fun ck => ?_)
  · refine lv_goto (tgt := 1818) hx hb dL_law_237 (by decide) ?_
    exact W.widen (k := 60 + (j + 1)) (n := 900 + 6 * (j + 1)) (by omega) (by omega) (hk _ _ H locs ls hI9 hP hD hS (lv_sub hl [2, 3, 4, 5, 6] rfl))
  · have hk0 : k = 0 := (nI_eq (a := k) (b := 0) (by omega) (by decide)).mp ck
    refine lv_aload_n hx hb dL_law_225 rfl (lv_at hl 6 rfl) ?_
    refine lv_iconst (v := 0) hx hb dL_law_226 (by decide) ?_
    refine va_lald hx hb hK hP 27 2 fk_at27 rfl fk_v01 dL_law_227 ?_
    refine W.eq (g2 := F0 m 228 ls [.long r.toInt64]) (by rw [← hf hk0]; rfl) ?_
    refine lv_iload hx hb dL_law_228 (lv_at hl 0 rfl) ?_
    refine lv_i2l hx hb dL_law_230 rfl ?_
    refine W.lcmp hx hb dL_law_231 ?_
    refine lv_if_eq (tgt := 237) hx hb dL_law_232 (by decide) (fun _ => ?_) (fun c => absurd (fk_lcmp_self _) c)
    refine lv_goto (tgt := 1818) hx hb dL_law_237 (by decide) ?_
    exact W.widen (k := 60 + (j + 1)) (n := 900 + 6 * (j + 1)) (by omega) (by omega) (hk _ _ H locs ls hI9 hP hD hS (lv_sub hl [2, 3, 4, 5, 6] rfl))

set_option maxHeartbeats 4000000 in
set_option maxRecDepth 100000 in
theorem law_c1 {p : Program} {l : Launch} {e : Env} {s : State} {m : MethodId} {below : List Frame} {meth : Method} {c : Code} {D : va_G} {ad bd : Nat → Nat} {cI cT cJ : ClassId} {b o L : Nat} {xs : Nat → Int32} {j : Nat} (hst : l.stackTraces = false) (C0 : lw_At p s m meth c b L xs) (hK : va_K D vwCl (fk_ty cI cT cJ) s) (hZ : fk_Zs (lw_A s) s s.heap) (hN : fk_Nc s) (hL : L ≤ 3584) (hj : 7 * j + 7 ≤ L) (hk : lw_Go p l e s m below meth c D ad bd cI cT cJ b o (j + 1) j 1818) : lw_Go p l e s m below meth c D ad bd cI cT cJ b o j j 240 := by
  obtain ⟨hx, hb, hr, hml, hown, hts0, hX, hbl, hlocks, hgv⟩ := C0
  have hts : ∀ w ∈ wsL_law, w.before #[Value.ref b] s = true := fun w h => hts0 w (wsL_law_in w h)
  have hA : ∀ q : Nat, s.heap.size ≤ q → lw_A s q := fun _ h => h
  have hbA : ¬ lw_A s b := Nat.not_le.mpr hbl
  intro M f H locs ls hI hP hD hS hl
  obtain ⟨k, M', f', r, hk3, h4, hI9, hf, hL9, hM9⟩ := op_compareAndSet (l := l) (D := D) (ad := ad) (bd := bd) (cI := cI) (cT := cT) (cJ := cJ) (o := o) (f := f) hI (by omega) (by omega) hst (xs (7 * j + 1)) (xs (7 * j + 2)) (xs (7 * j + 3)) (xs (7 * j + 4))
  have hI9 : fk_I (8 * (j + 1)) (1000 * (j + 1)) M' := hI9.wk (by omega) (by omega)
  refine lv_aload_n hx hb dL_law_240 rfl (lv_at hl 2 rfl) ?_
  refine lv_aload_n hx hb dL_law_241 rfl (lv_at hl 1 rfl) ?_
  refine lv_iload hx hb dL_law_242 (lv_at hl 0 rfl) ?_
  refine lv_iconst (v := 1) hx hb dL_law_244 (by decide) ?_
  refine lv_iadd hx hb dL_law_245 ?_
  refine W.eq (g2 := F0 m 246 ls [.int (nI (7 * j + 1)), .ref b, .ref (ad 0)]) (by rw [show (1 : Int32) = nI 1 from rfl, nI_add]) ?_
  refine va_sld hx hb hX hbl hbA hS (vp_in_nI (show 7 * j + 1 < L by omega) (by omega)) dL_law_246 ?_
  refine W.eq (g2 := F0 m 247 ls [.int (xs (7 * j + 1)), .ref (ad 0)]) (by rw [nI_clamp (n := 7 * j + 1) (by omega)]) ?_
  refine lv_aload_n hx hb dL_law_247 rfl (lv_at hl 1 rfl) ?_
  refine lv_iload hx hb dL_law_248 (lv_at hl 0 rfl) ?_
  refine lv_iconst (v := 2) hx hb dL_law_250 (by decide) ?_
  refine lv_iadd hx hb dL_law_251 ?_
  refine W.eq (g2 := F0 m 252 ls [.int (nI (7 * j + 2)), .ref b, .int (xs (7 * j + 1)), .ref (ad 0)]) (by rw [show (2 : Int32) = nI 2 from rfl, nI_add]) ?_
  refine va_sld hx hb hX hbl hbA hS (vp_in_nI (show 7 * j + 2 < L by omega) (by omega)) dL_law_252 ?_
  refine W.eq (g2 := F0 m 253 ls [.int (xs (7 * j + 2)), .int (xs (7 * j + 1)), .ref (ad 0)]) (by rw [nI_clamp (n := 7 * j + 2) (by omega)]) ?_
  refine lv_aload_n hx hb dL_law_253 rfl (lv_at hl 1 rfl) ?_
  refine lv_iload hx hb dL_law_254 (lv_at hl 0 rfl) ?_
  refine lv_iconst (v := 3) hx hb dL_law_256 (by decide) ?_
  refine lv_iadd hx hb dL_law_257 ?_
  refine W.eq (g2 := F0 m 258 ls [.int (nI (7 * j + 3)), .ref b, .int (xs (7 * j + 2)), .int (xs (7 * j + 1)), .ref (ad 0)]) (by rw [show (3 : Int32) = nI 3 from rfl, nI_add]) ?_
  refine va_sld hx hb hX hbl hbA hS (vp_in_nI (show 7 * j + 3 < L by omega) (by omega)) dL_law_258 ?_
  refine W.eq (g2 := F0 m 259 ls [.int (xs (7 * j + 3)), .int (xs (7 * j + 2)), .int (xs (7 * j + 1)), .ref (ad 0)]) (by rw [nI_clamp (n := 7 * j + 3) (by omega)]) ?_
  refine lv_aload_n hx hb dL_law_259 rfl (lv_at hl 1 rfl) ?_
  refine lv_iload hx hb dL_law_260 (lv_at hl 0 rfl) ?_
  refine lv_iconst (v := 4) hx hb dL_law_262 (by decide) ?_
  refine lv_iadd hx hb dL_law_263 ?_
  refine W.eq (g2 := F0 m 264 ls [.int (nI (7 * j + 4)), .ref b, .int (xs (7 * j + 3)), .int (xs (7 * j + 2)), .int (xs (7 * j + 1)), .ref (ad 0)]) (by rw [show (4 : Int32) = nI 4 from rfl, nI_add]) ?_
  refine va_sld hx hb hX hbl hbA hS (vp_in_nI (show 7 * j + 4 < L by omega) (by omega)) dL_law_264 ?_
  refine W.eq (g2 := F0 m 265 ls [.int (xs (7 * j + 4)), .int (xs (7 * j + 3)), .int (xs (7 * j + 2)), .int (xs (7 * j + 1)), .ref (ad 0)]) (by rw [nI_clamp (n := 7 * j + 4) (by omega)]) ?_
  refine lv_aload_n hx hb dL_law_265 rfl (lv_at hl 4 rfl) ?_
  refine fk_lcallS (As := [.ref (ad 0), .int (xs (7 * j + 1)), .int (xs (7 * j + 2)), .int (xs (7 * j + 3)), .int (xs (7 * j + 4)), .ref o]) (rest := []) ⟨hx, hb, hml, hown, hts⟩ (hL9 (fk_mW bd cI M)) (vx_cwSW 6 hts gL_law_L_compareAndSet rfl rfl rfl (by decide +kernel) ⟨Nat.le_of_ble_eq_true rfl, Nat.le_of_ble_eq_true rfl⟩) hK hP hD hS hA hZ hN rfl hl.1 rfl (Nat.le_of_ble_eq_true rfl) dL_law_266 ⟨by show 60 + j + 1 ≤ 653130; omega, by show 900 + 6 * j + 6 ≤ 7136714; omega⟩ (fun H locs hP hD hS => ?_)
  refine W.eq (g2 := F0 m 269 ls [.int (nI k)]) rfl ?_
  have hP := fk_LWP.mp (show va_P D vwCl (fk_LW ad bd cI cT cJ (fk_kOf M') M o f') H from hP)
  have hD := fk_LWD.mp (show va_D (lw_A s) (fk_LW ad bd cI cT cJ (fk_kOf M') M o f') from hD)
  refine lv_istore (lv' := [(5, .int (nI k)), (4, .int (nI (7 * j))), (0, .ref b), (1, .ref (ad 0)), (2, .ref (bd 0)), (3, .ref o)]) hx hb dL_law_269 hl (by decide) rfl (fun ls hl => ?_)
  refine lv_aload_n hx hb dL_law_271 rfl (lv_at hl 4 rfl) ?_
  refine lv_aload_n hx hb dL_law_272 rfl (lv_at hl 2 rfl) ?_
  refine lv_iload hx hb dL_law_273 (lv_at hl 1 rfl) ?_
  refine lv_iconst (v := 1) hx hb dL_law_275 (by decide) ?_
  refine lv_iadd hx hb dL_law_276 ?_
  refine W.eq (g2 := F0 m 277 ls [.int (nI (7 * j + 1)), .ref b, .ref (bd 0)]) (by rw [show (1 : Int32) = nI 1 from rfl, nI_add]) ?_
  refine va_sld hx hb hX hbl hbA hS (vp_in_nI (show 7 * j + 1 < L by omega) (by omega)) dL_law_277 ?_
  refine W.eq (g2 := F0 m 278 ls [.int (xs (7 * j + 1)), .ref (bd 0)]) (by rw [nI_clamp (n := 7 * j + 1) (by omega)]) ?_
  refine lv_aload_n hx hb dL_law_278 rfl (lv_at hl 2 rfl) ?_
  refine lv_iload hx hb dL_law_279 (lv_at hl 1 rfl) ?_
  refine lv_iconst (v := 2) hx hb dL_law_281 (by decide) ?_
  refine lv_iadd hx hb dL_law_282 ?_
  refine W.eq (g2 := F0 m 283 ls [.int (nI (7 * j + 2)), .ref b, .int (xs (7 * j + 1)), .ref (bd 0)]) (by rw [show (2 : Int32) = nI 2 from rfl, nI_add]) ?_
  refine va_sld hx hb hX hbl hbA hS (vp_in_nI (show 7 * j + 2 < L by omega) (by omega)) dL_law_283 ?_
  refine W.eq (g2 := F0 m 284 ls [.int (xs (7 * j + 2)), .int (xs (7 * j + 1)), .ref (bd 0)]) (by rw [nI_clamp (n := 7 * j + 2) (by omega)]) ?_
  refine lv_aload_n hx hb dL_law_284 rfl (lv_at hl 2 rfl) ?_
  refine lv_iload hx hb dL_law_285 (lv_at hl 1 rfl) ?_
  refine lv_iconst (v := 3) hx hb dL_law_287 (by decide) ?_
  refine lv_iadd hx hb dL_law_288 ?_
  refine W.eq (g2 := F0 m 289 ls [.int (nI (7 * j + 3)), .ref b, .int (xs (7 * j + 2)), .int (xs (7 * j + 1)), .ref (bd 0)]) (by rw [show (3 : Int32) = nI 3 from rfl, nI_add]) ?_
  refine va_sld hx hb hX hbl hbA hS (vp_in_nI (show 7 * j + 3 < L by omega) (by omega)) dL_law_289 ?_
  refine W.eq (g2 := F0 m 290 ls [.int (xs (7 * j + 3)), .int (xs (7 * j + 2)), .int (xs (7 * j + 1)), .ref (bd 0)]) (by rw [nI_clamp (n := 7 * j + 3) (by omega)]) ?_
  refine lv_aload_n hx hb dL_law_290 rfl (lv_at hl 2 rfl) ?_
  refine lv_iload hx hb dL_law_291 (lv_at hl 1 rfl) ?_
  refine lv_iconst (v := 4) hx hb dL_law_293 (by decide) ?_
  refine lv_iadd hx hb dL_law_294 ?_
  refine W.eq (g2 := F0 m 295 ls [.int (nI (7 * j + 4)), .ref b, .int (xs (7 * j + 3)), .int (xs (7 * j + 2)), .int (xs (7 * j + 1)), .ref (bd 0)]) (by rw [show (4 : Int32) = nI 4 from rfl, nI_add]) ?_
  refine va_sld hx hb hX hbl hbA hS (vp_in_nI (show 7 * j + 4 < L by omega) (by omega)) dL_law_295 ?_
  refine W.eq (g2 := F0 m 296 ls [.int (xs (7 * j + 4)), .int (xs (7 * j + 3)), .int (xs (7 * j + 2)), .int (xs (7 * j + 1)), .ref (bd 0)]) (by rw [nI_clamp (n := 7 * j + 4) (by omega)]) ?_
  refine fk_callV (As := [.int (xs (7 * j + 1)), .int (xs (7 * j + 2)), .int (xs (7 * j + 3)), .int (xs (7 * j + 4))]) (rest := []) ⟨hx, hb, hml, hown, hts⟩ (hM9 _) (cwV 4 hts gL_law_X3_compareAndSet rfl rfl rfl (by decide +kernel) ⟨Nat.le_of_ble_eq_true rfl, Nat.le_of_ble_eq_true rfl⟩) (fk_rvM hK hP) hK hP hD hS hA rfl hl.1 rfl (Nat.le_of_ble_eq_true rfl) dL_law_296 ⟨by show 60 + j + 1 ≤ 653130; omega, by show 900 + 6 * j + 6 ≤ 7136714; omega⟩ (fun H locs hP hD hS => ?_)
  refine W.eq (g2 := F0 m 299 ls [.int (fk_b r)]) rfl ?_
  refine lv_istore (lv' := [(6, .int (fk_b r)), (5, .int (nI k)), (4, .int (nI (7 * j))), (0, .ref b), (1, .ref (ad 0)), (2, .ref (bd 0)), (3, .ref o)]) hx hb dL_law_299 hl (by decide) rfl (fun ls hl => ?_)
  refine lv_aload_n hx hb dL_law_301 rfl (lv_at hl 5 rfl) ?_
  refine fk_callV (As := []) (rest := []) ⟨hx, hb, hml, hown, hts⟩ (mc_thrown l D bd cI cT cJ _ M') (cwV 0 hts gL_law_X3_thrown rfl rfl rfl (by decide +kernel) ⟨Nat.le_of_ble_eq_true rfl, Nat.le_of_ble_eq_true rfl⟩) (fk_rvM hK hP) hK hP hD hS hA rfl hl.1 rfl (Nat.le_of_ble_eq_true rfl) dL_law_302 ⟨by show 60 + j + 1 ≤ 653130; omega, by show 900 + 6 * j + 6 ≤ 7136714; omega⟩ (fun H locs hP hD hS => ?_)
  refine W.eq (g2 := F0 m 305 ls [.int (nI k)]) (by rw [h4]; rfl) ?_
  have hP := fk_LWP.mpr hP
  have hD := fk_LWD.mpr hD
  refine lv_iload hx hb dL_law_305 (lv_at hl 1 rfl) ?_
  refine lv_icmp_eq (tgt := 312) hx hb dL_law_307 (by decide) (fun _ => ?_) (fun c => absurd rfl c)
  refine lv_iload hx hb dL_law_312 (lv_at hl 1 rfl) ?_
  refine lv_if_ne (tgt := 336) hx hb dL_law_314 (by decide) (fun _ => ?_) (fun ck => ?_)
  · refine lv_goto (tgt := 1818) hx hb dL_law_336 (by decide) ?_
    exact W.widen (k := 60 + (j + 1)) (n := 900 + 6 * (j + 1)) (by omega) (by omega) (hk _ _ H locs ls hI9 hP hD hS (lv_sub hl [2, 3, 4, 5, 6] rfl))
  · have hk0 : k = 0 := (nI_eq (a := k) (b := 0) (by omega) (by decide)).mp ck
    refine lv_aload_n hx hb dL_law_317 rfl (lv_at hl 6 rfl) ?_
    refine lv_iconst (v := 0) hx hb dL_law_318 (by decide) ?_
    refine va_lald hx hb hK hP 27 2 fk_at27 rfl fk_v01 dL_law_319 ?_
    refine W.eq (g2 := F0 m 320 ls [.long (fk_lb r)]) (by rw [← hf hk0]; rfl) ?_
    cases r with
    | true =>
      have hl : lv_has ls 7 [(6, .int 1), (5, .int (nI k)), (4, .int (nI (7 * j))), (0, .ref b), (1, .ref (ad 0)), (2, .ref (bd 0)), (3, .ref o)] := hl
      refine W.eq (g2 := F0 m 320 ls [.long 1]) rfl ?_
      refine lv_iload hx hb dL_law_320 (lv_at hl 0 rfl) ?_
      refine lv_if_eq (tgt := 329) hx hb dL_law_322 (by decide) (fun c => absurd c (by decide)) (fun _ => ?_)
      refine lv_lconst (v := 1) hx hb dL_law_325 (by decide) ?_
      refine lv_goto (tgt := 330) hx hb dL_law_326 (by decide) ?_
      refine W.lcmp hx hb dL_law_330 ?_
      refine lv_if_eq (tgt := 336) hx hb dL_law_331 (by decide) (fun _ => ?_) (fun c => absurd (fk_lcmp_self _) c)
      refine lv_goto (tgt := 1818) hx hb dL_law_336 (by decide) ?_
      exact W.widen (k := 60 + (j + 1)) (n := 900 + 6 * (j + 1)) (by omega) (by omega) (hk _ _ H locs ls hI9 hP hD hS (lv_sub hl [2, 3, 4, 5, 6] rfl))
    | false =>
      have hl : lv_has ls 7 [(6, .int 0), (5, .int (nI k)), (4, .int (nI (7 * j))), (0, .ref b), (1, .ref (ad 0)), (2, .ref (bd 0)), (3, .ref o)] := hl
      refine W.eq (g2 := F0 m 320 ls [.long 0]) rfl ?_
      refine lv_iload hx hb dL_law_320 (lv_at hl 0 rfl) ?_
      refine lv_if_eq (tgt := 329) hx hb dL_law_322 (by decide) (fun _ => ?_) (fun c => absurd rfl c)
      refine lv_lconst (v := 0) hx hb dL_law_329 (by decide) ?_
      refine W.lcmp hx hb dL_law_330 ?_
      refine lv_if_eq (tgt := 336) hx hb dL_law_331 (by decide) (fun _ => ?_) (fun c => absurd (fk_lcmp_self _) c)
      refine lv_goto (tgt := 1818) hx hb dL_law_336 (by decide) ?_
      exact W.widen (k := 60 + (j + 1)) (n := 900 + 6 * (j + 1)) (by omega) (by omega) (hk _ _ H locs ls hI9 hP hD hS (lv_sub hl [2, 3, 4, 5, 6] rfl))

set_option maxHeartbeats 4000000 in
set_option maxRecDepth 100000 in
theorem law_c2 {p : Program} {l : Launch} {e : Env} {s : State} {m : MethodId} {below : List Frame} {meth : Method} {c : Code} {D : va_G} {ad bd : Nat → Nat} {cI cT cJ : ClassId} {b o L : Nat} {xs : Nat → Int32} {j : Nat} (hst : l.stackTraces = false) (C0 : lw_At p s m meth c b L xs) (hK : va_K D vwCl (fk_ty cI cT cJ) s) (hZ : fk_Zs (lw_A s) s s.heap) (hN : fk_Nc s) (hL : L ≤ 3584) (hj : 7 * j + 7 ≤ L) (hk : lw_Go p l e s m below meth c D ad bd cI cT cJ b o (j + 1) j 1818) : lw_Go p l e s m below meth c D ad bd cI cT cJ b o j j 339 := by
  obtain ⟨hx, hb, hr, hml, hown, hts0, hX, hbl, hlocks, hgv⟩ := C0
  have hts : ∀ w ∈ wsL_law, w.before #[Value.ref b] s = true := fun w h => hts0 w (wsL_law_in w h)
  have hA : ∀ q : Nat, s.heap.size ≤ q → lw_A s q := fun _ h => h
  have hbA : ¬ lw_A s b := Nat.not_le.mpr hbl
  intro M f H locs ls hI hP hD hS hl
  obtain ⟨k, M', f', r, hk3, h4, hI9, hf, hL9, hM9⟩ := op_fetchAdd (l := l) (D := D) (ad := ad) (bd := bd) (cI := cI) (cT := cT) (cJ := cJ) (o := o) (f := f) hI (by omega) (by omega) hst (xs (7 * j + 1)) (xs (7 * j + 2)) (xs (7 * j + 3))
  have hI9 : fk_I (8 * (j + 1)) (1000 * (j + 1)) M' := hI9.wk (by omega) (by omega)
  refine lv_aload_n hx hb dL_law_339 rfl (lv_at hl 2 rfl) ?_
  refine lv_aload_n hx hb dL_law_340 rfl (lv_at hl 1 rfl) ?_
  refine lv_iload hx hb dL_law_341 (lv_at hl 0 rfl) ?_
  refine lv_iconst (v := 1) hx hb dL_law_343 (by decide) ?_
  refine lv_iadd hx hb dL_law_344 ?_
  refine W.eq (g2 := F0 m 345 ls [.int (nI (7 * j + 1)), .ref b, .ref (ad 0)]) (by rw [show (1 : Int32) = nI 1 from rfl, nI_add]) ?_
  refine va_sld hx hb hX hbl hbA hS (vp_in_nI (show 7 * j + 1 < L by omega) (by omega)) dL_law_345 ?_
  refine W.eq (g2 := F0 m 346 ls [.int (xs (7 * j + 1)), .ref (ad 0)]) (by rw [nI_clamp (n := 7 * j + 1) (by omega)]) ?_
  refine lv_aload_n hx hb dL_law_346 rfl (lv_at hl 1 rfl) ?_
  refine lv_iload hx hb dL_law_347 (lv_at hl 0 rfl) ?_
  refine lv_iconst (v := 2) hx hb dL_law_349 (by decide) ?_
  refine lv_iadd hx hb dL_law_350 ?_
  refine W.eq (g2 := F0 m 351 ls [.int (nI (7 * j + 2)), .ref b, .int (xs (7 * j + 1)), .ref (ad 0)]) (by rw [show (2 : Int32) = nI 2 from rfl, nI_add]) ?_
  refine va_sld hx hb hX hbl hbA hS (vp_in_nI (show 7 * j + 2 < L by omega) (by omega)) dL_law_351 ?_
  refine W.eq (g2 := F0 m 352 ls [.int (xs (7 * j + 2)), .int (xs (7 * j + 1)), .ref (ad 0)]) (by rw [nI_clamp (n := 7 * j + 2) (by omega)]) ?_
  refine lv_aload_n hx hb dL_law_352 rfl (lv_at hl 1 rfl) ?_
  refine lv_iload hx hb dL_law_353 (lv_at hl 0 rfl) ?_
  refine lv_iconst (v := 3) hx hb dL_law_355 (by decide) ?_
  refine lv_iadd hx hb dL_law_356 ?_
  refine W.eq (g2 := F0 m 357 ls [.int (nI (7 * j + 3)), .ref b, .int (xs (7 * j + 2)), .int (xs (7 * j + 1)), .ref (ad 0)]) (by rw [show (3 : Int32) = nI 3 from rfl, nI_add]) ?_
  refine va_sld hx hb hX hbl hbA hS (vp_in_nI (show 7 * j + 3 < L by omega) (by omega)) dL_law_357 ?_
  refine W.eq (g2 := F0 m 358 ls [.int (xs (7 * j + 3)), .int (xs (7 * j + 2)), .int (xs (7 * j + 1)), .ref (ad 0)]) (by rw [nI_clamp (n := 7 * j + 3) (by omega)]) ?_
  refine lv_aload_n hx hb dL_law_358 rfl (lv_at hl 4 rfl) ?_
  refine fk_lcallS (As := [.ref (ad 0), .int (xs (7 * j + 1)), .int (xs (7 * j + 2)), .int (xs (7 * j + 3)), .ref o]) (rest := []) ⟨hx, hb, hml, hown, hts⟩ (hL9 (fk_mW bd cI M)) (vx_cwSW 5 hts gL_law_L_fetchAdd rfl rfl rfl (by decide +kernel) ⟨Nat.le_of_ble_eq_true rfl, Nat.le_of_ble_eq_true rfl⟩) hK hP hD hS hA hZ hN rfl hl.1 rfl (Nat.le_of_ble_eq_true rfl) dL_law_359 ⟨by show 60 + j + 1 ≤ 653130; omega, by show 900 + 6 * j + 6 ≤ 7136714; omega⟩ (fun H locs hP hD hS => ?_)
  refine W.eq (g2 := F0 m 362 ls [.int (nI k)]) rfl ?_
  have hP := fk_LWP.mp (show va_P D vwCl (fk_LW ad bd cI cT cJ (fk_kOf M') M o f') H from hP)
  have hD := fk_LWD.mp (show va_D (lw_A s) (fk_LW ad bd cI cT cJ (fk_kOf M') M o f') from hD)
  refine lv_istore (lv' := [(5, .int (nI k)), (4, .int (nI (7 * j))), (0, .ref b), (1, .ref (ad 0)), (2, .ref (bd 0)), (3, .ref o)]) hx hb dL_law_362 hl (by decide) rfl (fun ls hl => ?_)
  refine lv_aload_n hx hb dL_law_364 rfl (lv_at hl 4 rfl) ?_
  refine lv_aload_n hx hb dL_law_365 rfl (lv_at hl 2 rfl) ?_
  refine lv_iload hx hb dL_law_366 (lv_at hl 1 rfl) ?_
  refine lv_iconst (v := 1) hx hb dL_law_368 (by decide) ?_
  refine lv_iadd hx hb dL_law_369 ?_
  refine W.eq (g2 := F0 m 370 ls [.int (nI (7 * j + 1)), .ref b, .ref (bd 0)]) (by rw [show (1 : Int32) = nI 1 from rfl, nI_add]) ?_
  refine va_sld hx hb hX hbl hbA hS (vp_in_nI (show 7 * j + 1 < L by omega) (by omega)) dL_law_370 ?_
  refine W.eq (g2 := F0 m 371 ls [.int (xs (7 * j + 1)), .ref (bd 0)]) (by rw [nI_clamp (n := 7 * j + 1) (by omega)]) ?_
  refine lv_aload_n hx hb dL_law_371 rfl (lv_at hl 2 rfl) ?_
  refine lv_iload hx hb dL_law_372 (lv_at hl 1 rfl) ?_
  refine lv_iconst (v := 2) hx hb dL_law_374 (by decide) ?_
  refine lv_iadd hx hb dL_law_375 ?_
  refine W.eq (g2 := F0 m 376 ls [.int (nI (7 * j + 2)), .ref b, .int (xs (7 * j + 1)), .ref (bd 0)]) (by rw [show (2 : Int32) = nI 2 from rfl, nI_add]) ?_
  refine va_sld hx hb hX hbl hbA hS (vp_in_nI (show 7 * j + 2 < L by omega) (by omega)) dL_law_376 ?_
  refine W.eq (g2 := F0 m 377 ls [.int (xs (7 * j + 2)), .int (xs (7 * j + 1)), .ref (bd 0)]) (by rw [nI_clamp (n := 7 * j + 2) (by omega)]) ?_
  refine lv_aload_n hx hb dL_law_377 rfl (lv_at hl 2 rfl) ?_
  refine lv_iload hx hb dL_law_378 (lv_at hl 1 rfl) ?_
  refine lv_iconst (v := 3) hx hb dL_law_380 (by decide) ?_
  refine lv_iadd hx hb dL_law_381 ?_
  refine W.eq (g2 := F0 m 382 ls [.int (nI (7 * j + 3)), .ref b, .int (xs (7 * j + 2)), .int (xs (7 * j + 1)), .ref (bd 0)]) (by rw [show (3 : Int32) = nI 3 from rfl, nI_add]) ?_
  refine va_sld hx hb hX hbl hbA hS (vp_in_nI (show 7 * j + 3 < L by omega) (by omega)) dL_law_382 ?_
  refine W.eq (g2 := F0 m 383 ls [.int (xs (7 * j + 3)), .int (xs (7 * j + 2)), .int (xs (7 * j + 1)), .ref (bd 0)]) (by rw [nI_clamp (n := 7 * j + 3) (by omega)]) ?_
  refine fk_callV (As := [.int (xs (7 * j + 1)), .int (xs (7 * j + 2)), .int (xs (7 * j + 3))]) (rest := []) ⟨hx, hb, hml, hown, hts⟩ (hM9 _) (cwV 3 hts gL_law_X3_fetchAdd rfl rfl rfl (by decide +kernel) ⟨Nat.le_of_ble_eq_true rfl, Nat.le_of_ble_eq_true rfl⟩) (fk_rvM hK hP) hK hP hD hS hA rfl hl.1 rfl (Nat.le_of_ble_eq_true rfl) dL_law_383 ⟨by show 60 + j + 1 ≤ 653130; omega, by show 900 + 6 * j + 6 ≤ 7136714; omega⟩ (fun H locs hP hD hS => ?_)
  refine W.eq (g2 := F0 m 386 ls [.int r]) rfl ?_
  refine lv_istore (lv' := [(6, .int r), (5, .int (nI k)), (4, .int (nI (7 * j))), (0, .ref b), (1, .ref (ad 0)), (2, .ref (bd 0)), (3, .ref o)]) hx hb dL_law_386 hl (by decide) rfl (fun ls hl => ?_)
  refine lv_aload_n hx hb dL_law_388 rfl (lv_at hl 5 rfl) ?_
  refine fk_callV (As := []) (rest := []) ⟨hx, hb, hml, hown, hts⟩ (mc_thrown l D bd cI cT cJ _ M') (cwV 0 hts gL_law_X3_thrown rfl rfl rfl (by decide +kernel) ⟨Nat.le_of_ble_eq_true rfl, Nat.le_of_ble_eq_true rfl⟩) (fk_rvM hK hP) hK hP hD hS hA rfl hl.1 rfl (Nat.le_of_ble_eq_true rfl) dL_law_389 ⟨by show 60 + j + 1 ≤ 653130; omega, by show 900 + 6 * j + 6 ≤ 7136714; omega⟩ (fun H locs hP hD hS => ?_)
  refine W.eq (g2 := F0 m 392 ls [.int (nI k)]) (by rw [h4]; rfl) ?_
  have hP := fk_LWP.mpr hP
  have hD := fk_LWD.mpr hD
  refine lv_iload hx hb dL_law_392 (lv_at hl 1 rfl) ?_
  refine lv_icmp_eq (tgt := 399) hx hb dL_law_394 (by decide) (fun _ => ?_) (fun c => absurd rfl c)
  refine lv_iload hx hb dL_law_399 (lv_at hl 1 rfl) ?_
  refine lv_if_ne (tgt := 416) hx hb dL_law_401 (by decide) (fun _ => ?_) (fun ck => ?_)
  · refine lv_goto (tgt := 1818) hx hb dL_law_416 (by decide) ?_
    exact W.widen (k := 60 + (j + 1)) (n := 900 + 6 * (j + 1)) (by omega) (by omega) (hk _ _ H locs ls hI9 hP hD hS (lv_sub hl [2, 3, 4, 5, 6] rfl))
  · have hk0 : k = 0 := (nI_eq (a := k) (b := 0) (by omega) (by decide)).mp ck
    refine lv_aload_n hx hb dL_law_404 rfl (lv_at hl 6 rfl) ?_
    refine lv_iconst (v := 0) hx hb dL_law_405 (by decide) ?_
    refine va_lald hx hb hK hP 27 2 fk_at27 rfl fk_v01 dL_law_406 ?_
    refine W.eq (g2 := F0 m 407 ls [.long r.toInt64]) (by rw [← hf hk0]; rfl) ?_
    refine lv_iload hx hb dL_law_407 (lv_at hl 0 rfl) ?_
    refine lv_i2l hx hb dL_law_409 rfl ?_
    refine W.lcmp hx hb dL_law_410 ?_
    refine lv_if_eq (tgt := 416) hx hb dL_law_411 (by decide) (fun _ => ?_) (fun c => absurd (fk_lcmp_self _) c)
    refine lv_goto (tgt := 1818) hx hb dL_law_416 (by decide) ?_
    exact W.widen (k := 60 + (j + 1)) (n := 900 + 6 * (j + 1)) (by omega) (by omega) (hk _ _ H locs ls hI9 hP hD hS (lv_sub hl [2, 3, 4, 5, 6] rfl))

set_option maxHeartbeats 4000000 in
set_option maxRecDepth 100000 in
theorem law_c3 {p : Program} {l : Launch} {e : Env} {s : State} {m : MethodId} {below : List Frame} {meth : Method} {c : Code} {D : va_G} {ad bd : Nat → Nat} {cI cT cJ : ClassId} {b o L : Nat} {xs : Nat → Int32} {j : Nat} (hst : l.stackTraces = false) (C0 : lw_At p s m meth c b L xs) (hK : va_K D vwCl (fk_ty cI cT cJ) s) (hZ : fk_Zs (lw_A s) s s.heap) (hN : fk_Nc s) (hL : L ≤ 3584) (hj : 7 * j + 7 ≤ L) (hk : lw_Go p l e s m below meth c D ad bd cI cT cJ b o (j + 1) j 1818) : lw_Go p l e s m below meth c D ad bd cI cT cJ b o j j 419 := by
  obtain ⟨hx, hb, hr, hml, hown, hts0, hX, hbl, hlocks, hgv⟩ := C0
  have hts : ∀ w ∈ wsL_law, w.before #[Value.ref b] s = true := fun w h => hts0 w (wsL_law_in w h)
  have hA : ∀ q : Nat, s.heap.size ≤ q → lw_A s q := fun _ h => h
  have hbA : ¬ lw_A s b := Nat.not_le.mpr hbl
  intro M f H locs ls hI hP hD hS hl
  obtain ⟨k, M', f', r, hk3, h4, hI9, hf, hL9, hM9⟩ := op_word (l := l) (D := D) (ad := ad) (bd := bd) (cI := cI) (cT := cT) (cJ := cJ) (o := o) (f := f) hI (by omega) (by omega) hst (xs (7 * j + 1))
  have hI9 : fk_I (8 * (j + 1)) (1000 * (j + 1)) M' := hI9.wk (by omega) (by omega)
  refine lv_aload_n hx hb dL_law_419 rfl (lv_at hl 2 rfl) ?_
  refine lv_aload_n hx hb dL_law_420 rfl (lv_at hl 1 rfl) ?_
  refine lv_iload hx hb dL_law_421 (lv_at hl 0 rfl) ?_
  refine lv_iconst (v := 1) hx hb dL_law_423 (by decide) ?_
  refine lv_iadd hx hb dL_law_424 ?_
  refine W.eq (g2 := F0 m 425 ls [.int (nI (7 * j + 1)), .ref b, .ref (ad 0)]) (by rw [show (1 : Int32) = nI 1 from rfl, nI_add]) ?_
  refine va_sld hx hb hX hbl hbA hS (vp_in_nI (show 7 * j + 1 < L by omega) (by omega)) dL_law_425 ?_
  refine W.eq (g2 := F0 m 426 ls [.int (xs (7 * j + 1)), .ref (ad 0)]) (by rw [nI_clamp (n := 7 * j + 1) (by omega)]) ?_
  refine lv_aload_n hx hb dL_law_426 rfl (lv_at hl 4 rfl) ?_
  refine fk_lcallS (As := [.ref (ad 0), .int (xs (7 * j + 1)), .ref o]) (rest := []) ⟨hx, hb, hml, hown, hts⟩ (hL9 (fk_mW bd cI M)) (vx_cwSW 3 hts gL_law_L_word rfl rfl rfl (by decide +kernel) ⟨Nat.le_of_ble_eq_true rfl, Nat.le_of_ble_eq_true rfl⟩) hK hP hD hS hA hZ hN rfl hl.1 rfl (Nat.le_of_ble_eq_true rfl) dL_law_427 ⟨by show 60 + j + 1 ≤ 653130; omega, by show 900 + 6 * j + 6 ≤ 7136714; omega⟩ (fun H locs hP hD hS => ?_)
  refine W.eq (g2 := F0 m 430 ls [.int (nI k)]) rfl ?_
  have hP := fk_LWP.mp (show va_P D vwCl (fk_LW ad bd cI cT cJ (fk_kOf M') M o f') H from hP)
  have hD := fk_LWD.mp (show va_D (lw_A s) (fk_LW ad bd cI cT cJ (fk_kOf M') M o f') from hD)
  refine lv_istore (lv' := [(5, .int (nI k)), (4, .int (nI (7 * j))), (0, .ref b), (1, .ref (ad 0)), (2, .ref (bd 0)), (3, .ref o)]) hx hb dL_law_430 hl (by decide) rfl (fun ls hl => ?_)
  refine lv_aload_n hx hb dL_law_432 rfl (lv_at hl 4 rfl) ?_
  refine lv_aload_n hx hb dL_law_433 rfl (lv_at hl 2 rfl) ?_
  refine lv_iload hx hb dL_law_434 (lv_at hl 1 rfl) ?_
  refine lv_iconst (v := 1) hx hb dL_law_436 (by decide) ?_
  refine lv_iadd hx hb dL_law_437 ?_
  refine W.eq (g2 := F0 m 438 ls [.int (nI (7 * j + 1)), .ref b, .ref (bd 0)]) (by rw [show (1 : Int32) = nI 1 from rfl, nI_add]) ?_
  refine va_sld hx hb hX hbl hbA hS (vp_in_nI (show 7 * j + 1 < L by omega) (by omega)) dL_law_438 ?_
  refine W.eq (g2 := F0 m 439 ls [.int (xs (7 * j + 1)), .ref (bd 0)]) (by rw [nI_clamp (n := 7 * j + 1) (by omega)]) ?_
  refine fk_callV (As := [.int (xs (7 * j + 1))]) (rest := []) ⟨hx, hb, hml, hown, hts⟩ (hM9 _) (cwV 1 hts gL_law_X3_word rfl rfl rfl (by decide +kernel) ⟨Nat.le_of_ble_eq_true rfl, Nat.le_of_ble_eq_true rfl⟩) (fk_rvM hK hP) hK hP hD hS hA rfl hl.1 rfl (Nat.le_of_ble_eq_true rfl) dL_law_439 ⟨by show 60 + j + 1 ≤ 653130; omega, by show 900 + 6 * j + 6 ≤ 7136714; omega⟩ (fun H locs hP hD hS => ?_)
  refine W.eq (g2 := F0 m 442 ls [.int r]) rfl ?_
  refine lv_istore (lv' := [(6, .int r), (5, .int (nI k)), (4, .int (nI (7 * j))), (0, .ref b), (1, .ref (ad 0)), (2, .ref (bd 0)), (3, .ref o)]) hx hb dL_law_442 hl (by decide) rfl (fun ls hl => ?_)
  refine lv_aload_n hx hb dL_law_444 rfl (lv_at hl 5 rfl) ?_
  refine fk_callV (As := []) (rest := []) ⟨hx, hb, hml, hown, hts⟩ (mc_thrown l D bd cI cT cJ _ M') (cwV 0 hts gL_law_X3_thrown rfl rfl rfl (by decide +kernel) ⟨Nat.le_of_ble_eq_true rfl, Nat.le_of_ble_eq_true rfl⟩) (fk_rvM hK hP) hK hP hD hS hA rfl hl.1 rfl (Nat.le_of_ble_eq_true rfl) dL_law_445 ⟨by show 60 + j + 1 ≤ 653130; omega, by show 900 + 6 * j + 6 ≤ 7136714; omega⟩ (fun H locs hP hD hS => ?_)
  refine W.eq (g2 := F0 m 448 ls [.int (nI k)]) (by rw [h4]; rfl) ?_
  have hP := fk_LWP.mpr hP
  have hD := fk_LWD.mpr hD
  refine lv_iload hx hb dL_law_448 (lv_at hl 1 rfl) ?_
  refine lv_icmp_eq (tgt := 455) hx hb dL_law_450 (by decide) (fun _ => ?_) (fun c => absurd rfl c)
  refine lv_iload hx hb dL_law_455 (lv_at hl 1 rfl) ?_
  refine lv_if_ne (tgt := 472) hx hb dL_law_457 (by decide) (fun _ => ?_) (fun ck => ?_)
  · refine lv_goto (tgt := 1818) hx hb dL_law_472 (by decide) ?_
    exact W.widen (k := 60 + (j + 1)) (n := 900 + 6 * (j + 1)) (by omega) (by omega) (hk _ _ H locs ls hI9 hP hD hS (lv_sub hl [2, 3, 4, 5, 6] rfl))
  · have hk0 : k = 0 := (nI_eq (a := k) (b := 0) (by omega) (by decide)).mp ck
    refine lv_aload_n hx hb dL_law_460 rfl (lv_at hl 6 rfl) ?_
    refine lv_iconst (v := 0) hx hb dL_law_461 (by decide) ?_
    refine va_lald hx hb hK hP 27 2 fk_at27 rfl fk_v01 dL_law_462 ?_
    refine W.eq (g2 := F0 m 463 ls [.long r.toInt64]) (by rw [← hf hk0]; rfl) ?_
    refine lv_iload hx hb dL_law_463 (lv_at hl 0 rfl) ?_
    refine lv_i2l hx hb dL_law_465 rfl ?_
    refine W.lcmp hx hb dL_law_466 ?_
    refine lv_if_eq (tgt := 472) hx hb dL_law_467 (by decide) (fun _ => ?_) (fun c => absurd (fk_lcmp_self _) c)
    refine lv_goto (tgt := 1818) hx hb dL_law_472 (by decide) ?_
    exact W.widen (k := 60 + (j + 1)) (n := 900 + 6 * (j + 1)) (by omega) (by omega) (hk _ _ H locs ls hI9 hP hD hS (lv_sub hl [2, 3, 4, 5, 6] rfl))

set_option maxHeartbeats 4000000 in
set_option maxRecDepth 100000 in
theorem law_c4 {p : Program} {l : Launch} {e : Env} {s : State} {m : MethodId} {below : List Frame} {meth : Method} {c : Code} {D : va_G} {ad bd : Nat → Nat} {cI cT cJ : ClassId} {b o L : Nat} {xs : Nat → Int32} {j : Nat} (hst : l.stackTraces = false) (C0 : lw_At p s m meth c b L xs) (hK : va_K D vwCl (fk_ty cI cT cJ) s) (hZ : fk_Zs (lw_A s) s s.heap) (hN : fk_Nc s) (hL : L ≤ 3584) (hj : 7 * j + 7 ≤ L) (hk : lw_Go p l e s m below meth c D ad bd cI cT cJ b o (j + 1) j 1818) : lw_Go p l e s m below meth c D ad bd cI cT cJ b o j j 475 := by
  obtain ⟨hx, hb, hr, hml, hown, hts0, hX, hbl, hlocks, hgv⟩ := C0
  have hts : ∀ w ∈ wsL_law, w.before #[Value.ref b] s = true := fun w h => hts0 w (wsL_law_in w h)
  have hA : ∀ q : Nat, s.heap.size ≤ q → lw_A s q := fun _ h => h
  have hbA : ¬ lw_A s b := Nat.not_le.mpr hbl
  intro M f H locs ls hI hP hD hS hl
  obtain ⟨k, M', f', r, hk3, h4, hI9, hf, hL9, hM9⟩ := op_await (l := l) (D := D) (ad := ad) (bd := bd) (cI := cI) (cT := cT) (cJ := cJ) (o := o) (f := f) hI (by omega) (by omega) hst (xs (7 * j + 1)) (xs (7 * j + 2)) (xs (7 * j + 3)) (xs (7 * j + 4)) (xs (7 * j + 5))
  have hI9 : fk_I (8 * (j + 1)) (1000 * (j + 1)) M' := hI9.wk (by omega) (by omega)
  refine lv_aload_n hx hb dL_law_475 rfl (lv_at hl 2 rfl) ?_
  refine lv_aload_n hx hb dL_law_476 rfl (lv_at hl 1 rfl) ?_
  refine lv_iload hx hb dL_law_477 (lv_at hl 0 rfl) ?_
  refine lv_iconst (v := 1) hx hb dL_law_479 (by decide) ?_
  refine lv_iadd hx hb dL_law_480 ?_
  refine W.eq (g2 := F0 m 481 ls [.int (nI (7 * j + 1)), .ref b, .ref (ad 0)]) (by rw [show (1 : Int32) = nI 1 from rfl, nI_add]) ?_
  refine va_sld hx hb hX hbl hbA hS (vp_in_nI (show 7 * j + 1 < L by omega) (by omega)) dL_law_481 ?_
  refine W.eq (g2 := F0 m 482 ls [.int (xs (7 * j + 1)), .ref (ad 0)]) (by rw [nI_clamp (n := 7 * j + 1) (by omega)]) ?_
  refine lv_aload_n hx hb dL_law_482 rfl (lv_at hl 1 rfl) ?_
  refine lv_iload hx hb dL_law_483 (lv_at hl 0 rfl) ?_
  refine lv_iconst (v := 2) hx hb dL_law_485 (by decide) ?_
  refine lv_iadd hx hb dL_law_486 ?_
  refine W.eq (g2 := F0 m 487 ls [.int (nI (7 * j + 2)), .ref b, .int (xs (7 * j + 1)), .ref (ad 0)]) (by rw [show (2 : Int32) = nI 2 from rfl, nI_add]) ?_
  refine va_sld hx hb hX hbl hbA hS (vp_in_nI (show 7 * j + 2 < L by omega) (by omega)) dL_law_487 ?_
  refine W.eq (g2 := F0 m 488 ls [.int (xs (7 * j + 2)), .int (xs (7 * j + 1)), .ref (ad 0)]) (by rw [nI_clamp (n := 7 * j + 2) (by omega)]) ?_
  refine lv_aload_n hx hb dL_law_488 rfl (lv_at hl 1 rfl) ?_
  refine lv_iload hx hb dL_law_489 (lv_at hl 0 rfl) ?_
  refine lv_iconst (v := 3) hx hb dL_law_491 (by decide) ?_
  refine lv_iadd hx hb dL_law_492 ?_
  refine W.eq (g2 := F0 m 493 ls [.int (nI (7 * j + 3)), .ref b, .int (xs (7 * j + 2)), .int (xs (7 * j + 1)), .ref (ad 0)]) (by rw [show (3 : Int32) = nI 3 from rfl, nI_add]) ?_
  refine va_sld hx hb hX hbl hbA hS (vp_in_nI (show 7 * j + 3 < L by omega) (by omega)) dL_law_493 ?_
  refine W.eq (g2 := F0 m 494 ls [.int (xs (7 * j + 3)), .int (xs (7 * j + 2)), .int (xs (7 * j + 1)), .ref (ad 0)]) (by rw [nI_clamp (n := 7 * j + 3) (by omega)]) ?_
  refine lv_aload_n hx hb dL_law_494 rfl (lv_at hl 1 rfl) ?_
  refine lv_iload hx hb dL_law_495 (lv_at hl 0 rfl) ?_
  refine lv_iconst (v := 4) hx hb dL_law_497 (by decide) ?_
  refine lv_iadd hx hb dL_law_498 ?_
  refine W.eq (g2 := F0 m 499 ls [.int (nI (7 * j + 4)), .ref b, .int (xs (7 * j + 3)), .int (xs (7 * j + 2)), .int (xs (7 * j + 1)), .ref (ad 0)]) (by rw [show (4 : Int32) = nI 4 from rfl, nI_add]) ?_
  refine va_sld hx hb hX hbl hbA hS (vp_in_nI (show 7 * j + 4 < L by omega) (by omega)) dL_law_499 ?_
  refine W.eq (g2 := F0 m 500 ls [.int (xs (7 * j + 4)), .int (xs (7 * j + 3)), .int (xs (7 * j + 2)), .int (xs (7 * j + 1)), .ref (ad 0)]) (by rw [nI_clamp (n := 7 * j + 4) (by omega)]) ?_
  refine lv_aload_n hx hb dL_law_500 rfl (lv_at hl 1 rfl) ?_
  refine lv_iload hx hb dL_law_501 (lv_at hl 0 rfl) ?_
  refine lv_iconst (v := 5) hx hb dL_law_503 (by decide) ?_
  refine lv_iadd hx hb dL_law_504 ?_
  refine W.eq (g2 := F0 m 505 ls [.int (nI (7 * j + 5)), .ref b, .int (xs (7 * j + 4)), .int (xs (7 * j + 3)), .int (xs (7 * j + 2)), .int (xs (7 * j + 1)), .ref (ad 0)]) (by rw [show (5 : Int32) = nI 5 from rfl, nI_add]) ?_
  refine va_sld hx hb hX hbl hbA hS (vp_in_nI (show 7 * j + 5 < L by omega) (by omega)) dL_law_505 ?_
  refine W.eq (g2 := F0 m 506 ls [.int (xs (7 * j + 5)), .int (xs (7 * j + 4)), .int (xs (7 * j + 3)), .int (xs (7 * j + 2)), .int (xs (7 * j + 1)), .ref (ad 0)]) (by rw [nI_clamp (n := 7 * j + 5) (by omega)]) ?_
  refine lv_aload_n hx hb dL_law_506 rfl (lv_at hl 4 rfl) ?_
  refine fk_lcallS (As := [.ref (ad 0), .int (xs (7 * j + 1)), .int (xs (7 * j + 2)), .int (xs (7 * j + 3)), .int (xs (7 * j + 4)), .int (xs (7 * j + 5)), .ref o]) (rest := []) ⟨hx, hb, hml, hown, hts⟩ (hL9 (fk_mW bd cI M)) (vx_cwSW 7 hts gL_law_L_await rfl rfl rfl (by decide +kernel) ⟨Nat.le_of_ble_eq_true rfl, Nat.le_of_ble_eq_true rfl⟩) hK hP hD hS hA hZ hN rfl hl.1 rfl (Nat.le_of_ble_eq_true rfl) dL_law_507 ⟨by show 60 + j + 1 ≤ 653130; omega, by show 900 + 6 * j + 6 ≤ 7136714; omega⟩ (fun H locs hP hD hS => ?_)
  refine W.eq (g2 := F0 m 510 ls [.int (nI k)]) rfl ?_
  have hP := fk_LWP.mp (show va_P D vwCl (fk_LW ad bd cI cT cJ (fk_kOf M') M o f') H from hP)
  have hD := fk_LWD.mp (show va_D (lw_A s) (fk_LW ad bd cI cT cJ (fk_kOf M') M o f') from hD)
  refine lv_istore (lv' := [(5, .int (nI k)), (4, .int (nI (7 * j))), (0, .ref b), (1, .ref (ad 0)), (2, .ref (bd 0)), (3, .ref o)]) hx hb dL_law_510 hl (by decide) rfl (fun ls hl => ?_)
  refine lv_aload_n hx hb dL_law_512 rfl (lv_at hl 4 rfl) ?_
  refine lv_aload_n hx hb dL_law_513 rfl (lv_at hl 2 rfl) ?_
  refine lv_iload hx hb dL_law_514 (lv_at hl 1 rfl) ?_
  refine lv_iconst (v := 1) hx hb dL_law_516 (by decide) ?_
  refine lv_iadd hx hb dL_law_517 ?_
  refine W.eq (g2 := F0 m 518 ls [.int (nI (7 * j + 1)), .ref b, .ref (bd 0)]) (by rw [show (1 : Int32) = nI 1 from rfl, nI_add]) ?_
  refine va_sld hx hb hX hbl hbA hS (vp_in_nI (show 7 * j + 1 < L by omega) (by omega)) dL_law_518 ?_
  refine W.eq (g2 := F0 m 519 ls [.int (xs (7 * j + 1)), .ref (bd 0)]) (by rw [nI_clamp (n := 7 * j + 1) (by omega)]) ?_
  refine lv_aload_n hx hb dL_law_519 rfl (lv_at hl 2 rfl) ?_
  refine lv_iload hx hb dL_law_520 (lv_at hl 1 rfl) ?_
  refine lv_iconst (v := 2) hx hb dL_law_522 (by decide) ?_
  refine lv_iadd hx hb dL_law_523 ?_
  refine W.eq (g2 := F0 m 524 ls [.int (nI (7 * j + 2)), .ref b, .int (xs (7 * j + 1)), .ref (bd 0)]) (by rw [show (2 : Int32) = nI 2 from rfl, nI_add]) ?_
  refine va_sld hx hb hX hbl hbA hS (vp_in_nI (show 7 * j + 2 < L by omega) (by omega)) dL_law_524 ?_
  refine W.eq (g2 := F0 m 525 ls [.int (xs (7 * j + 2)), .int (xs (7 * j + 1)), .ref (bd 0)]) (by rw [nI_clamp (n := 7 * j + 2) (by omega)]) ?_
  refine lv_aload_n hx hb dL_law_525 rfl (lv_at hl 2 rfl) ?_
  refine lv_iload hx hb dL_law_526 (lv_at hl 1 rfl) ?_
  refine lv_iconst (v := 3) hx hb dL_law_528 (by decide) ?_
  refine lv_iadd hx hb dL_law_529 ?_
  refine W.eq (g2 := F0 m 530 ls [.int (nI (7 * j + 3)), .ref b, .int (xs (7 * j + 2)), .int (xs (7 * j + 1)), .ref (bd 0)]) (by rw [show (3 : Int32) = nI 3 from rfl, nI_add]) ?_
  refine va_sld hx hb hX hbl hbA hS (vp_in_nI (show 7 * j + 3 < L by omega) (by omega)) dL_law_530 ?_
  refine W.eq (g2 := F0 m 531 ls [.int (xs (7 * j + 3)), .int (xs (7 * j + 2)), .int (xs (7 * j + 1)), .ref (bd 0)]) (by rw [nI_clamp (n := 7 * j + 3) (by omega)]) ?_
  refine lv_aload_n hx hb dL_law_531 rfl (lv_at hl 2 rfl) ?_
  refine lv_iload hx hb dL_law_532 (lv_at hl 1 rfl) ?_
  refine lv_iconst (v := 4) hx hb dL_law_534 (by decide) ?_
  refine lv_iadd hx hb dL_law_535 ?_
  refine W.eq (g2 := F0 m 536 ls [.int (nI (7 * j + 4)), .ref b, .int (xs (7 * j + 3)), .int (xs (7 * j + 2)), .int (xs (7 * j + 1)), .ref (bd 0)]) (by rw [show (4 : Int32) = nI 4 from rfl, nI_add]) ?_
  refine va_sld hx hb hX hbl hbA hS (vp_in_nI (show 7 * j + 4 < L by omega) (by omega)) dL_law_536 ?_
  refine W.eq (g2 := F0 m 537 ls [.int (xs (7 * j + 4)), .int (xs (7 * j + 3)), .int (xs (7 * j + 2)), .int (xs (7 * j + 1)), .ref (bd 0)]) (by rw [nI_clamp (n := 7 * j + 4) (by omega)]) ?_
  refine lv_aload_n hx hb dL_law_537 rfl (lv_at hl 2 rfl) ?_
  refine lv_iload hx hb dL_law_538 (lv_at hl 1 rfl) ?_
  refine lv_iconst (v := 5) hx hb dL_law_540 (by decide) ?_
  refine lv_iadd hx hb dL_law_541 ?_
  refine W.eq (g2 := F0 m 542 ls [.int (nI (7 * j + 5)), .ref b, .int (xs (7 * j + 4)), .int (xs (7 * j + 3)), .int (xs (7 * j + 2)), .int (xs (7 * j + 1)), .ref (bd 0)]) (by rw [show (5 : Int32) = nI 5 from rfl, nI_add]) ?_
  refine va_sld hx hb hX hbl hbA hS (vp_in_nI (show 7 * j + 5 < L by omega) (by omega)) dL_law_542 ?_
  refine W.eq (g2 := F0 m 543 ls [.int (xs (7 * j + 5)), .int (xs (7 * j + 4)), .int (xs (7 * j + 3)), .int (xs (7 * j + 2)), .int (xs (7 * j + 1)), .ref (bd 0)]) (by rw [nI_clamp (n := 7 * j + 5) (by omega)]) ?_
  refine fk_callV (As := [.int (xs (7 * j + 1)), .int (xs (7 * j + 2)), .int (xs (7 * j + 3)), .int (xs (7 * j + 4)), .int (xs (7 * j + 5))]) (rest := []) ⟨hx, hb, hml, hown, hts⟩ (hM9 _) (cwV 5 hts gL_law_X3_await rfl rfl rfl (by decide +kernel) ⟨Nat.le_of_ble_eq_true rfl, Nat.le_of_ble_eq_true rfl⟩) (fk_rvM hK hP) hK hP hD hS hA rfl hl.1 rfl (Nat.le_of_ble_eq_true rfl) dL_law_543 ⟨by show 60 + j + 1 ≤ 653130; omega, by show 900 + 6 * j + 6 ≤ 7136714; omega⟩ (fun H locs hP hD hS => ?_)
  refine W.eq (g2 := F0 m 546 ls [.int (fk_b r)]) rfl ?_
  refine lv_istore (lv' := [(6, .int (fk_b r)), (5, .int (nI k)), (4, .int (nI (7 * j))), (0, .ref b), (1, .ref (ad 0)), (2, .ref (bd 0)), (3, .ref o)]) hx hb dL_law_546 hl (by decide) rfl (fun ls hl => ?_)
  refine lv_aload_n hx hb dL_law_548 rfl (lv_at hl 5 rfl) ?_
  refine fk_callV (As := []) (rest := []) ⟨hx, hb, hml, hown, hts⟩ (mc_thrown l D bd cI cT cJ _ M') (cwV 0 hts gL_law_X3_thrown rfl rfl rfl (by decide +kernel) ⟨Nat.le_of_ble_eq_true rfl, Nat.le_of_ble_eq_true rfl⟩) (fk_rvM hK hP) hK hP hD hS hA rfl hl.1 rfl (Nat.le_of_ble_eq_true rfl) dL_law_549 ⟨by show 60 + j + 1 ≤ 653130; omega, by show 900 + 6 * j + 6 ≤ 7136714; omega⟩ (fun H locs hP hD hS => ?_)
  refine W.eq (g2 := F0 m 552 ls [.int (nI k)]) (by rw [h4]; rfl) ?_
  have hP := fk_LWP.mpr hP
  have hD := fk_LWD.mpr hD
  refine lv_iload hx hb dL_law_552 (lv_at hl 1 rfl) ?_
  refine lv_icmp_eq (tgt := 559) hx hb dL_law_554 (by decide) (fun _ => ?_) (fun c => absurd rfl c)
  refine lv_iload hx hb dL_law_559 (lv_at hl 1 rfl) ?_
  refine lv_if_ne (tgt := 583) hx hb dL_law_561 (by decide) (fun _ => ?_) (fun ck => ?_)
  · refine lv_goto (tgt := 1818) hx hb dL_law_583 (by decide) ?_
    exact W.widen (k := 60 + (j + 1)) (n := 900 + 6 * (j + 1)) (by omega) (by omega) (hk _ _ H locs ls hI9 hP hD hS (lv_sub hl [2, 3, 4, 5, 6] rfl))
  · have hk0 : k = 0 := (nI_eq (a := k) (b := 0) (by omega) (by decide)).mp ck
    refine lv_aload_n hx hb dL_law_564 rfl (lv_at hl 6 rfl) ?_
    refine lv_iconst (v := 0) hx hb dL_law_565 (by decide) ?_
    refine va_lald hx hb hK hP 27 2 fk_at27 rfl fk_v01 dL_law_566 ?_
    refine W.eq (g2 := F0 m 567 ls [.long (fk_lb r)]) (by rw [← hf hk0]; rfl) ?_
    cases r with
    | true =>
      have hl : lv_has ls 7 [(6, .int 1), (5, .int (nI k)), (4, .int (nI (7 * j))), (0, .ref b), (1, .ref (ad 0)), (2, .ref (bd 0)), (3, .ref o)] := hl
      refine W.eq (g2 := F0 m 567 ls [.long 1]) rfl ?_
      refine lv_iload hx hb dL_law_567 (lv_at hl 0 rfl) ?_
      refine lv_if_eq (tgt := 576) hx hb dL_law_569 (by decide) (fun c => absurd c (by decide)) (fun _ => ?_)
      refine lv_lconst (v := 1) hx hb dL_law_572 (by decide) ?_
      refine lv_goto (tgt := 577) hx hb dL_law_573 (by decide) ?_
      refine W.lcmp hx hb dL_law_577 ?_
      refine lv_if_eq (tgt := 583) hx hb dL_law_578 (by decide) (fun _ => ?_) (fun c => absurd (fk_lcmp_self _) c)
      refine lv_goto (tgt := 1818) hx hb dL_law_583 (by decide) ?_
      exact W.widen (k := 60 + (j + 1)) (n := 900 + 6 * (j + 1)) (by omega) (by omega) (hk _ _ H locs ls hI9 hP hD hS (lv_sub hl [2, 3, 4, 5, 6] rfl))
    | false =>
      have hl : lv_has ls 7 [(6, .int 0), (5, .int (nI k)), (4, .int (nI (7 * j))), (0, .ref b), (1, .ref (ad 0)), (2, .ref (bd 0)), (3, .ref o)] := hl
      refine W.eq (g2 := F0 m 567 ls [.long 0]) rfl ?_
      refine lv_iload hx hb dL_law_567 (lv_at hl 0 rfl) ?_
      refine lv_if_eq (tgt := 576) hx hb dL_law_569 (by decide) (fun _ => ?_) (fun c => absurd rfl c)
      refine lv_lconst (v := 0) hx hb dL_law_576 (by decide) ?_
      refine W.lcmp hx hb dL_law_577 ?_
      refine lv_if_eq (tgt := 583) hx hb dL_law_578 (by decide) (fun _ => ?_) (fun c => absurd (fk_lcmp_self _) c)
      refine lv_goto (tgt := 1818) hx hb dL_law_583 (by decide) ?_
      exact W.widen (k := 60 + (j + 1)) (n := 900 + 6 * (j + 1)) (by omega) (by omega) (hk _ _ H locs ls hI9 hP hD hS (lv_sub hl [2, 3, 4, 5, 6] rfl))
