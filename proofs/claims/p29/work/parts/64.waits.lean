theorem fk_wA {v lo hi : Int32} (h : v < lo) : fk_btw v lo hi = false := by
  unfold fk_btw
  rw [decide_eq_false (Int32.not_le.mpr h)]
  rfl
theorem fk_wB {v lo hi : Int32} (h : hi < v) : fk_btw v lo hi = false := by
  unfold fk_btw
  rw [decide_eq_false (p := v ≤ hi) (Int32.not_le.mpr h), Bool.and_false]
theorem fk_wC {v lo hi : Int32} (h : ¬ v ≤ hi) : fk_btw v lo hi = false := by
  unfold fk_btw
  rw [decide_eq_false (p := v ≤ hi) h, Bool.and_false]
theorem fk_wE {v lo hi : Int32} (h1 : ¬ v < lo) (h2 : ¬ hi < v) : fk_btw v lo hi = true := by
  unfold fk_btw
  rw [decide_eq_true (Int32.not_lt.mp h1), decide_eq_true (Int32.not_lt.mp h2)]
  rfl
theorem fk_wF {v lo hi : Int32} (h1 : ¬ v < lo) (h2 : v ≤ hi) : fk_btw v lo hi = true := by
  unfold fk_btw
  rw [decide_eq_true (Int32.not_lt.mp h1), decide_eq_true h2]
  rfl
section
variable (l : Launch) (D : va_G) (ad : Nat → Nat) (cI cT cJ : ClassId) (X : va_W) (S : fk_S)
theorem kl_awaitT (t : Nat) (ht : t < 8) (a : Nat) (ha : a < 16) (x mk to : Int32) (hr0 : S 1 t = 0) (hm : (fk_btw mk 1 255 && fk_btw to 0 10000) = true) (hw : S 0 a = x) : fk_C l D (fk_ty cI cT cJ) yX2_await wsX2_await rmX2_await [.ref (ad 0), .int (nI t), .int (nI a), .int x, .int mk, .int to] (fk_kW ad cI cT S ++ X) (some (.int (fk_b true))) (fk_kW ad cI cT (kk_begin S t 1 (nI a) mk to) ++ X) := by
  rw [Bool.and_eq_true] at hm
  have h := kc_await l D ad cI cT cJ X S t ht a ha x mk to hr0 hm.1 hm.2
  unfold kk_await at h
  rw [if_pos hw, decide_eq_true hw] at h
  exact h
theorem kl_awaitF (t : Nat) (ht : t < 8) (a : Nat) (ha : a < 16) (x mk to : Int32) (hr0 : S 1 t = 0) (hm : (fk_btw mk 1 255 && fk_btw to 0 10000) = true) (hw : ¬ S 0 a = x) : fk_C l D (fk_ty cI cT cJ) yX2_await wsX2_await rmX2_await [.ref (ad 0), .int (nI t), .int (nI a), .int x, .int mk, .int to] (fk_kW ad cI cT S ++ X) (some (.int (fk_b false))) (fk_kW ad cI cT S ++ X) := by
  rw [Bool.and_eq_true] at hm
  have h := kc_await l D ad cI cT cJ X S t ht a ha x mk to hr0 hm.1 hm.2
  unfold kk_await at h
  rw [if_neg hw, decide_eq_false hw] at h
  exact h
end

set_option maxHeartbeats 8000000 in
set_option maxRecDepth 100000 in
theorem el_waits (l : Launch) (D : va_G) (ad : Nat → Nat) (cI cT cJ : ClassId) (X : va_W) (S : fk_S) (q : Nat) (P : Nat → Int32) (n : Nat) (hst : l.stackTraces = false) (hG : kq_G n S P) (hn : n < 2 ^ 16) (od y : Int32)  : fk_E l D (fk_ty cI cT cJ) yL_waits wsL_waits rm_E [.ref (ad 0), .ref q, .int y, .int od] (fk_kW ad cI cT S ++ (q, fk_pr cI P) :: X) (kq_Phi ad cI cT q X (n + 20)) := by
  refine fk_E_of (cc := cL_waits) (maxL := 21) (ret := (some .boolean)) (own := RL) (by decide) rfl rfl (Nat.le_of_ble_eq_true rfl) ?_
  intro p e s m below meth c A ls hx hb hr hlocks hml hts hown hA hP hK hD hZ hN hl
  have hS : va_S A s.heap s.heap [] := va_S.rf
  have hl : lv_has ls 21 [(0, .ref (ad 0)), (1, .ref q), (2, .int y), (3, .int od)] := hl
  have jn25 : ∀ (th : Int32), ∀ (H : Heap) (locs : List Loc) (ls : Array Slot), va_P D vwCl (fk_kW ad cI cT S ++ (q, fk_pr cI P) :: X) H → va_D A (fk_kW ad cI cT S ++ (q, fk_pr cI P) :: X) → va_S A s.heap H locs → lv_has ls 21 [(0, .ref (ad 0)), (1, .ref q), (2, .int y), (3, .int od)] → W p l e rm_E s m ([.ref (ad 0), .ref q, .int y, .int od] : List Value).toArray below meth c H locs 0 0 (MQ below (fk_QE D (fk_ty cI cT cJ) A (kq_Phi ad cI cT q X (n + 20))) ([.ref (ad 0), .ref q, .int y, .int od] : List Value).toArray s 2 12 A) (F0 m 25 ls [.int th]) := by
    intro th H locs ls hP hD hS hl
    refine lv_istore (lv' := [(4, .int th), (0, .ref (ad 0)), (1, .ref q), (2, .int y), (3, .int od)]) hx hb dL_waits_25 hl (by decide) rfl (fun ls hl => ?_)
    have jn53 : ∀ (av : Int32), ∀ (H : Heap) (locs : List Loc) (ls : Array Slot), va_P D vwCl (fk_kW ad cI cT S ++ (q, fk_pr cI P) :: X) H → va_D A (fk_kW ad cI cT S ++ (q, fk_pr cI P) :: X) → va_S A s.heap H locs → lv_has ls 21 [(4, .int th), (0, .ref (ad 0)), (1, .ref q), (2, .int y), (3, .int od)] → W p l e rm_E s m ([.ref (ad 0), .ref q, .int y, .int od] : List Value).toArray below meth c H locs 0 0 (MQ below (fk_QE D (fk_ty cI cT cJ) A (kq_Phi ad cI cT q X (n + 20))) ([.ref (ad 0), .ref q, .int y, .int od] : List Value).toArray s 2 12 A) (F0 m 53 ls [.int av]) := by
      intro av H locs ls hP hD hS hl
      refine lv_istore (lv' := [(5, .int av), (4, .int th), (0, .ref (ad 0)), (1, .ref q), (2, .int y), (3, .int od)]) hx hb dL_waits_53 hl (by decide) rfl (fun ls hl => ?_)
      have jn84 : ∀ (ov : Int32), ov = fk_b (!(fk_isT th && fk_isA av)) → ∀ (H : Heap) (locs : List Loc) (ls : Array Slot), va_P D vwCl (fk_kW ad cI cT S ++ (q, fk_pr cI P) :: X) H → va_D A (fk_kW ad cI cT S ++ (q, fk_pr cI P) :: X) → va_S A s.heap H locs → lv_has ls 21 [(5, .int av), (4, .int th), (0, .ref (ad 0)), (1, .ref q), (2, .int y), (3, .int od)] → W p l e rm_E s m ([.ref (ad 0), .ref q, .int y, .int od] : List Value).toArray below meth c H locs 0 0 (MQ below (fk_QE D (fk_ty cI cT cJ) A (kq_Phi ad cI cT q X (n + 20))) ([.ref (ad 0), .ref q, .int y, .int od] : List Value).toArray s 2 12 A) (F0 m 84 ls [.int ov]) := by
        intro ov h_ov H locs ls hP hD hS hl
        refine lv_istore (lv' := [(6, .int ov), (5, .int av), (4, .int th), (0, .ref (ad 0)), (1, .ref q), (2, .int y), (3, .int od)]) hx hb dL_waits_84 hl (by decide) rfl (fun ls hl => ?_)
        by_cases hout : (fk_isT th && fk_isA av) = true
        · have hov : ov = 0 := by rw [h_ov, hout]; rfl
          simp only [Bool.and_eq_true] at hout
          obtain ⟨t, ht, eth⟩ := fk_isT_of hout.1
          obtain ⟨a, ha, eav⟩ := fk_isA_of hout.2
          have hl : lv_has ls 21 [(6, .int 0), (5, .int (nI a)), (4, .int (nI t)), (0, .ref (ad 0)), (1, .ref q), (2, .int y), (3, .int od)] := by rw [hov, eth, eav] at hl; exact hl
          have jn117 : ∀ (mk : Int32), ∀ (H : Heap) (locs : List Loc) (ls : Array Slot), va_P D vwCl (fk_kW ad cI cT S ++ (q, fk_pr cI P) :: X) H → va_D A (fk_kW ad cI cT S ++ (q, fk_pr cI P) :: X) → va_S A s.heap H locs → lv_has ls 21 [(6, .int 0), (5, .int (nI a)), (4, .int (nI t)), (0, .ref (ad 0)), (1, .ref q), (2, .int y), (3, .int od)] → W p l e rm_E s m ([.ref (ad 0), .ref q, .int y, .int od] : List Value).toArray below meth c H locs 0 0 (MQ below (fk_QE D (fk_ty cI cT cJ) A (kq_Phi ad cI cT q X (n + 20))) ([.ref (ad 0), .ref q, .int y, .int od] : List Value).toArray s 2 12 A) (F0 m 117 ls [.int mk]) := by
            intro mk H locs ls hP hD hS hl
            refine lv_istore (lv' := [(7, .int mk), (6, .int 0), (5, .int (nI a)), (4, .int (nI t)), (0, .ref (ad 0)), (1, .ref q), (2, .int y), (3, .int od)]) hx hb dL_waits_117 hl (by decide) rfl (fun ls hl => ?_)
            have jn164 : ∀ (to : Int32), ∀ (H : Heap) (locs : List Loc) (ls : Array Slot), va_P D vwCl (fk_kW ad cI cT S ++ (q, fk_pr cI P) :: X) H → va_D A (fk_kW ad cI cT S ++ (q, fk_pr cI P) :: X) → va_S A s.heap H locs → lv_has ls 21 [(7, .int mk), (6, .int 0), (5, .int (nI a)), (4, .int (nI t)), (0, .ref (ad 0)), (1, .ref q), (2, .int y), (3, .int od)] → W p l e rm_E s m ([.ref (ad 0), .ref q, .int y, .int od] : List Value).toArray below meth c H locs 0 0 (MQ below (fk_QE D (fk_ty cI cT cJ) A (kq_Phi ad cI cT q X (n + 20))) ([.ref (ad 0), .ref q, .int y, .int od] : List Value).toArray s 2 12 A) (F0 m 164 ls [.int to]) := by
              intro to H locs ls hP hD hS hl
              refine lv_istore (lv' := [(8, .int to), (7, .int mk), (6, .int 0), (5, .int (nI a)), (4, .int (nI t)), (0, .ref (ad 0)), (1, .ref q), (2, .int y), (3, .int od)]) hx hb dL_waits_164 hl (by decide) rfl (fun ls hl => ?_)
              have jn198 : ∀ (xv : Int32), ∀ (H : Heap) (locs : List Loc) (ls : Array Slot), va_P D vwCl (fk_kW ad cI cT S ++ (q, fk_pr cI P) :: X) H → va_D A (fk_kW ad cI cT S ++ (q, fk_pr cI P) :: X) → va_S A s.heap H locs → lv_has ls 21 [(8, .int to), (7, .int mk), (6, .int 0), (5, .int (nI a)), (4, .int (nI t)), (0, .ref (ad 0)), (1, .ref q), (2, .int y), (3, .int od)] → W p l e rm_E s m ([.ref (ad 0), .ref q, .int y, .int od] : List Value).toArray below meth c H locs 0 0 (MQ below (fk_QE D (fk_ty cI cT cJ) A (kq_Phi ad cI cT q X (n + 20))) ([.ref (ad 0), .ref q, .int y, .int od] : List Value).toArray s 2 12 A) (F0 m 198 ls [.int xv]) := by
                intro xv H locs ls hP hD hS hl
                refine lv_istore (lv' := [(9, .int xv), (8, .int to), (7, .int mk), (6, .int 0), (5, .int (nI a)), (4, .int (nI t)), (0, .ref (ad 0)), (1, .ref q), (2, .int y), (3, .int od)]) hx hb dL_waits_198 hl (by decide) rfl (fun ls hl => ?_)
                have jn232 : ∀ (bv : Int32), bv = fk_b (!(fk_btw mk 1 255 && fk_btw to 0 10000)) → ∀ (H : Heap) (locs : List Loc) (ls : Array Slot), va_P D vwCl (fk_kW ad cI cT S ++ (q, fk_pr cI P) :: X) H → va_D A (fk_kW ad cI cT S ++ (q, fk_pr cI P) :: X) → va_S A s.heap H locs → lv_has ls 21 [(9, .int xv), (8, .int to), (7, .int mk), (6, .int 0), (5, .int (nI a)), (4, .int (nI t)), (0, .ref (ad 0)), (1, .ref q), (2, .int y), (3, .int od)] → W p l e rm_E s m ([.ref (ad 0), .ref q, .int y, .int od] : List Value).toArray below meth c H locs 0 0 (MQ below (fk_QE D (fk_ty cI cT cJ) A (kq_Phi ad cI cT q X (n + 20))) ([.ref (ad 0), .ref q, .int y, .int od] : List Value).toArray s 2 12 A) (F0 m 232 ls [.int bv]) := by
                  intro bv h_bv H locs ls hP hD hS hl
                  refine lv_istore (lv' := [(10, .int bv), (9, .int xv), (8, .int to), (7, .int mk), (6, .int 0), (5, .int (nI a)), (4, .int (nI t)), (0, .ref (ad 0)), (1, .ref q), (2, .int y), (3, .int od)]) hx hb dL_waits_232 hl (by decide) rfl (fun ls hl => ?_)
                  by_cases hbad : (fk_btw mk 1 255 && fk_btw to 0 10000) = true
                  · have hbad9 : bv = 0 := by rw [h_bv, hbad]; rfl
                    have hl : lv_has ls 21 [(10, .int 0), (9, .int xv), (8, .int to), (7, .int mk), (6, .int 0), (5, .int (nI a)), (4, .int (nI t)), (0, .ref (ad 0)), (1, .ref q), (2, .int y), (3, .int od)] := by rw [hbad9] at hl; exact hl
                    by_cases hs0 : S 1 t = 0
                    · refine lv_iload hx hb dL_waits_234 (lv_at hl 4 rfl) ?_
                      refine lv_if_ne (tgt := 257) hx hb dL_waits_236 (by decide) (fun c => absurd c (by decide)) (fun _ => ?_)
                      refine lv_iload hx hb dL_waits_239 (lv_at hl 0 rfl) ?_
                      refine lv_if_ne (tgt := 257) hx hb dL_waits_241 (by decide) (fun c => absurd c (by decide)) (fun _ => ?_)
                      refine lv_aload_n hx hb dL_waits_244 rfl (lv_at hl 7 rfl) ?_
                      refine lv_iload hx hb dL_waits_245 (lv_at hl 6 rfl) ?_
                      refine fk_callV (As := [.int (nI t)]) (rest := []) ⟨hx, hb, hml, hown, hts⟩ (kc_stateOf l D ad cI cT cJ _ S t ht) (cwV 1 hts gL_waits_X2_stateOf rfl rfl rfl (by decide +kernel) ⟨Nat.le_of_ble_eq_true rfl, Nat.le_of_ble_eq_true rfl⟩) (fk_rvK hK hP) hK hP hD hS hA rfl hl.1 rfl (Nat.le_of_ble_eq_true rfl) dL_waits_247 ⟨Nat.le_of_ble_eq_true rfl, Nat.le_of_ble_eq_true rfl⟩ (fun H locs hP hD hS => ?_)
                      refine W.eq (g2 := F0 m 250 ls [.int (S 1 t)]) rfl ?_
                      refine W.eq (g2 := F0 m 250 ls [.int 0]) (by rw [show (S 1 t) = (0 : Int32) from hs0]) ?_
                      refine lv_if_ne (tgt := 257) hx hb dL_waits_250 (by decide) (fun c => absurd c (by decide)) (fun _ => ?_)
                      refine lv_iconst (v := 1) hx hb dL_waits_253 (by decide) ?_
                      refine lv_goto (tgt := 258) hx hb dL_waits_254 (by decide) ?_
                      refine lv_istore (lv' := [(11, .int 1), (10, .int 0), (9, .int xv), (8, .int to), (7, .int mk), (6, .int 0), (5, .int (nI a)), (4, .int (nI t)), (0, .ref (ad 0)), (1, .ref q), (2, .int y), (3, .int od)]) hx hb dL_waits_258 hl (by decide) rfl (fun ls hl => ?_)
                      refine lv_aload_n hx hb dL_waits_260 rfl (lv_at hl 8 rfl) ?_
                      refine fk_callV (As := []) (rest := []) ⟨hx, hb, hml, hown, hts⟩ (kc_nextTimeout l D ad cI cT cJ _ S) (cwV 0 hts gL_waits_X2_nextTimeout rfl rfl rfl (by decide +kernel) ⟨Nat.le_of_ble_eq_true rfl, Nat.le_of_ble_eq_true rfl⟩) (fk_rvK hK hP) hK hP hD hS hA rfl hl.1 rfl (Nat.le_of_ble_eq_true rfl) dL_waits_261 ⟨Nat.le_of_ble_eq_true rfl, Nat.le_of_ble_eq_true rfl⟩ (fun H locs hP hD hS => ?_)
                      refine W.eq (g2 := F0 m 264 ls [.int (kk_nextR S)]) rfl ?_
                      refine lv_istore (lv' := [(12, .int (kk_nextR S)), (11, .int 1), (10, .int 0), (9, .int xv), (8, .int to), (7, .int mk), (6, .int 0), (5, .int (nI a)), (4, .int (nI t)), (0, .ref (ad 0)), (1, .ref q), (2, .int y), (3, .int od)]) hx hb dL_waits_264 hl (by decide) rfl (fun ls hl => ?_)
                      refine lv_iload hx hb dL_waits_266 (lv_at hl 6 rfl) ?_
                      refine lv_if_eq (tgt := 275) hx hb dL_waits_268 (by decide) (fun _ => ?_) (fun c => absurd c (by decide))
                      refine lv_aload_n hx hb dL_waits_275 rfl (lv_at hl 9 rfl) ?_
                      refine lv_iload hx hb dL_waits_276 (lv_at hl 8 rfl) ?_
                      refine fk_callV (As := [.int (nI t)]) (rest := []) ⟨hx, hb, hml, hown, hts⟩ (kc_resultOf l D ad cI cT cJ _ S t ht) (cwV 1 hts gL_waits_X2_resultOf rfl rfl rfl (by decide +kernel) ⟨Nat.le_of_ble_eq_true rfl, Nat.le_of_ble_eq_true rfl⟩) (fk_rvK hK hP) hK hP hD hS hA rfl hl.1 rfl (Nat.le_of_ble_eq_true rfl) dL_waits_278 ⟨Nat.le_of_ble_eq_true rfl, Nat.le_of_ble_eq_true rfl⟩ (fun H locs hP hD hS => ?_)
                      refine W.eq (g2 := F0 m 281 ls [.int (S 8 t)]) rfl ?_
                      refine lv_istore (lv' := [(13, .int (S 8 t)), (12, .int (kk_nextR S)), (11, .int 1), (10, .int 0), (9, .int xv), (8, .int to), (7, .int mk), (6, .int 0), (5, .int (nI a)), (4, .int (nI t)), (0, .ref (ad 0)), (1, .ref q), (2, .int y), (3, .int od)]) hx hb dL_waits_281 hl (by decide) rfl (fun ls hl => ?_)
                      refine lv_aload_n hx hb dL_waits_283 rfl (lv_at hl 10 rfl) ?_
                      refine lv_iconst (v := (-1)) hx hb dL_waits_284 (by decide) ?_
                      refine fk_callS (As := [.ref (ad 0), .int (-1)]) (rest := []) ⟨hx, hb, hml, hown, hts⟩ (kl_threads l D ad cI cT cJ _ S hG.1.sz hG.1.J (-1)) (va_cwS 2 hts gL_waits_L_threads rfl rfl rfl (by decide +kernel) ⟨Nat.le_of_ble_eq_true rfl, Nat.le_of_ble_eq_true rfl⟩) hK hP hD hS hA rfl hl.1 rfl (Nat.le_of_ble_eq_true rfl) dL_waits_285 ⟨Nat.le_of_ble_eq_true rfl, Nat.le_of_ble_eq_true rfl⟩ (fun H locs hP hD hS => ?_)
                      refine W.eq (g2 := F0 m 288 ls [.long (pl_thr S (-1))]) rfl ?_
                      refine lv_lstore (lv' := [(14, .long (pl_thr S (-1))), (13, .int (S 8 t)), (12, .int (kk_nextR S)), (11, .int 1), (10, .int 0), (9, .int xv), (8, .int to), (7, .int mk), (6, .int 0), (5, .int (nI a)), (4, .int (nI t)), (0, .ref (ad 0)), (1, .ref q), (2, .int y), (3, .int od)]) hx hb dL_waits_288 hl (by decide) rfl (fun ls hl => ?_)
                      refine lv_aload_n hx hb dL_waits_290 rfl (lv_at hl 11 rfl) ?_
                      refine lv_iload hx hb dL_waits_291 (lv_at hl 3 rfl) ?_
                      refine lv_if_eq (tgt := 301) hx hb dL_waits_293 (by decide) (fun c => absurd c (by decide)) (fun _ => ?_)
                      refine lv_iload hx hb dL_waits_296 (lv_at hl 10 rfl) ?_
                      refine lv_goto (tgt := 302) hx hb dL_waits_298 (by decide) ?_
                      refine fk_callS (As := [.ref (ad 0), .int (nI t)]) (rest := []) ⟨hx, hb, hml, hown, hts⟩ (kl_threads l D ad cI cT cJ _ S hG.1.sz hG.1.J (nI t)) (va_cwS 2 hts gL_waits_L_threads rfl rfl rfl (by decide +kernel) ⟨Nat.le_of_ble_eq_true rfl, Nat.le_of_ble_eq_true rfl⟩) hK hP hD hS hA rfl hl.1 rfl (Nat.le_of_ble_eq_true rfl) dL_waits_302 ⟨Nat.le_of_ble_eq_true rfl, Nat.le_of_ble_eq_true rfl⟩ (fun H locs hP hD hS => ?_)
                      refine W.eq (g2 := F0 m 305 ls [.long (pl_thr S (nI t))]) rfl ?_
                      refine lv_lstore (lv' := [(16, .long (pl_thr S (nI t))), (14, .long (pl_thr S (-1))), (13, .int (S 8 t)), (12, .int (kk_nextR S)), (11, .int 1), (10, .int 0), (9, .int xv), (8, .int to), (7, .int mk), (6, .int 0), (5, .int (nI a)), (4, .int (nI t)), (0, .ref (ad 0)), (1, .ref q), (2, .int y), (3, .int od)]) hx hb dL_waits_305 hl (by decide) rfl (fun ls hl => ?_)
                      refine lv_aload_n hx hb dL_waits_307 rfl (lv_at hl 12 rfl) ?_
                      refine lv_iconst (v := (-1)) hx hb dL_waits_308 (by decide) ?_
                      refine fk_callS (As := [.ref (ad 0), .int (-1)]) (rest := []) ⟨hx, hb, hml, hown, hts⟩ (kl_words l D ad cI cT cJ _ S (-1)) (va_cwS 2 hts gL_waits_L_words rfl rfl rfl (by decide +kernel) ⟨Nat.le_of_ble_eq_true rfl, Nat.le_of_ble_eq_true rfl⟩) hK hP hD hS hA rfl hl.1 rfl (Nat.le_of_ble_eq_true rfl) dL_waits_309 ⟨Nat.le_of_ble_eq_true rfl, Nat.le_of_ble_eq_true rfl⟩ (fun H locs hP hD hS => ?_)
                      refine W.eq (g2 := F0 m 312 ls [.long (pl_wds S (-1))]) rfl ?_
                      refine lv_lstore (lv' := [(18, .long (pl_wds S (-1))), (16, .long (pl_thr S (nI t))), (14, .long (pl_thr S (-1))), (13, .int (S 8 t)), (12, .int (kk_nextR S)), (11, .int 1), (10, .int 0), (9, .int xv), (8, .int to), (7, .int mk), (6, .int 0), (5, .int (nI a)), (4, .int (nI t)), (0, .ref (ad 0)), (1, .ref q), (2, .int y), (3, .int od)]) hx hb dL_waits_312 hl (by decide) rfl (fun ls hl => ?_)
                      by_cases hw : S 0 a = xv
                      · refine lv_aload_n hx hb dL_waits_314 rfl (lv_at hl 13 rfl) ?_
                        refine lv_iload hx hb dL_waits_315 (lv_at hl 12 rfl) ?_
                        refine lv_iload hx hb dL_waits_317 (lv_at hl 11 rfl) ?_
                        refine lv_iload hx hb dL_waits_319 (lv_at hl 7 rfl) ?_
                        refine lv_iload hx hb dL_waits_321 (lv_at hl 9 rfl) ?_
                        refine lv_iload hx hb dL_waits_323 (lv_at hl 8 rfl) ?_
                        have hG1 := hG.begin (st := 1) ht (by omega) hs0 ha (Or.inl ⟨rfl, (Bool.and_eq_true_iff.mp hbad).1⟩) (Bool.and_eq_true_iff.mp hbad).2
                        refine fk_lcallS (As := [.ref (ad 0), .int (nI t), .int (nI a), .int xv, .int mk, .int to]) (rest := []) ⟨hx, hb, hml, hown, hts⟩ (Lc_await l D ad cI cT cJ _ S _ _ _ _ _ (kk_begin S t 1 (nI a) mk to) true (fun X => kl_awaitT l D ad cI cT cJ X S t ht a ha _ _ _ hs0 hbad hw)) (vx_cwSW 6 hts gL_waits_L_await rfl rfl rfl (by decide +kernel) ⟨Nat.le_of_ble_eq_true rfl, Nat.le_of_ble_eq_true rfl⟩) hK hP hD hS hA hZ hN rfl hl.1 rfl (Nat.le_of_ble_eq_true rfl) dL_waits_325 ⟨Nat.le_of_ble_eq_true rfl, Nat.le_of_ble_eq_true rfl⟩ (fun H locs hP hD hS => ?_)
                        refine W.eq (g2 := F0 m 328 ls [.int 1]) rfl ?_
                        refine lv_istore (lv' := [(20, .int 1), (18, .long (pl_wds S (-1))), (16, .long (pl_thr S (nI t))), (14, .long (pl_thr S (-1))), (13, .int (S 8 t)), (12, .int (kk_nextR S)), (11, .int 1), (10, .int 0), (9, .int xv), (8, .int to), (7, .int mk), (6, .int 0), (5, .int (nI a)), (4, .int (nI t)), (0, .ref (ad 0)), (1, .ref q), (2, .int y), (3, .int od)]) hx hb dL_waits_328 hl (by decide) rfl (fun ls hl => ?_)
                        refine lv_iload hx hb dL_waits_330 (lv_at hl 0 rfl) ?_
                        refine lv_iconst (v := 1) hx hb dL_waits_332 (by decide) ?_
                        refine lv_icmp_eq (tgt := 416) hx hb dL_waits_333 (by decide) (fun _ => ?_) (fun c => absurd c (by decide))
                        refine lv_aload_n hx hb dL_waits_416 rfl (lv_at hl 15 rfl) ?_
                        refine lv_bipush (v := 8) hx hb dL_waits_417 (by decide) ?_
                        refine lv_iload hx hb dL_waits_419 (lv_at hl 13 rfl) ?_
                        refine lv_iadd hx hb dL_waits_421 ?_
                        refine W.eq (g2 := F0 m 422 ls [.int (nI (8 + t)), .ref q]) (by rw [show (8 : Int32) = nI 8 from rfl, nI_add]) ?_
                        refine lv_iload hx hb dL_waits_422 (lv_at hl 10 rfl) ?_
                        refine va_iast hx hb hK hP hD hS 27 0 fk_at27 rfl (vp_in_nI (show 8 + t < 16 from (by omega)) (by decide)) dL_waits_424 (fun H locs hP hD hS => ?_)
                        have hP : va_P D vwCl (fk_kW ad cI cT (kk_begin S t 1 (nI a) mk to) ++ (q, fk_pr cI (upd P (8 + t) mk)) :: X) H := by rw [fk_set27, nI_clamp (by omega)] at hP; exact hP
                        have hD : va_D A (fk_kW ad cI cT (kk_begin S t 1 (nI a) mk to) ++ (q, fk_pr cI (upd P (8 + t) mk)) :: X) := by rw [fk_set27, nI_clamp (by omega)] at hD; exact hD
                        refine W.eq (g2 := F0 m 425 ls []) rfl ?_
                        refine lv_iload hx hb dL_waits_425 (lv_at hl 6 rfl) ?_
                        refine lv_if_eq (tgt := 533) hx hb dL_waits_427 (by decide) (fun c => absurd c (by decide)) (fun _ => ?_)
                        refine lv_aload_n hx hb dL_waits_430 rfl (lv_at hl 14 rfl) ?_
                        refine lv_iload hx hb dL_waits_431 (lv_at hl 12 rfl) ?_
                        refine fk_callV (As := [.int (nI a)]) (rest := []) ⟨hx, hb, hml, hown, hts⟩ (kc_word l D ad cI cT cJ _ (kk_begin S t 1 (nI a) mk to) a ha) (cwV 1 hts gL_waits_X2_word rfl rfl rfl (by decide +kernel) ⟨Nat.le_of_ble_eq_true rfl, Nat.le_of_ble_eq_true rfl⟩) (fk_rvK hK hP) hK hP hD hS hA rfl hl.1 rfl (Nat.le_of_ble_eq_true rfl) dL_waits_433 ⟨Nat.le_of_ble_eq_true rfl, Nat.le_of_ble_eq_true rfl⟩ (fun H locs hP hD hS => ?_)
                        refine W.eq (g2 := F0 m 436 ls [.int ((kk_begin S t 1 (nI a) mk to) 0 a)]) rfl ?_
                        refine W.eq (g2 := F0 m 436 ls [.int xv]) (by rw [show ((kk_begin S t 1 (nI a) mk to) 0 a) = xv from (by rw [kk_begin_g (by decide) (by decide) (by decide) (by decide) (by decide) (by decide) (by decide)]; exact hw)]) ?_
                        refine lv_iload hx hb dL_waits_436 (lv_at hl 8 rfl) ?_
                        refine lv_icmp_ne (tgt := 533) hx hb dL_waits_438 (by decide) (fun c => absurd rfl c) (fun _ => ?_)
                        refine lv_aload_n hx hb dL_waits_441 rfl (lv_at hl 14 rfl) ?_
                        refine lv_iload hx hb dL_waits_442 (lv_at hl 13 rfl) ?_
                        refine fk_callV (As := [.int (nI t)]) (rest := []) ⟨hx, hb, hml, hown, hts⟩ (kc_stateOf l D ad cI cT cJ _ (kk_begin S t 1 (nI a) mk to) t ht) (cwV 1 hts gL_waits_X2_stateOf rfl rfl rfl (by decide +kernel) ⟨Nat.le_of_ble_eq_true rfl, Nat.le_of_ble_eq_true rfl⟩) (fk_rvK hK hP) hK hP hD hS hA rfl hl.1 rfl (Nat.le_of_ble_eq_true rfl) dL_waits_444 ⟨Nat.le_of_ble_eq_true rfl, Nat.le_of_ble_eq_true rfl⟩ (fun H locs hP hD hS => ?_)
                        refine W.eq (g2 := F0 m 447 ls [.int ((kk_begin S t 1 (nI a) mk to) 1 t)]) rfl ?_
                        refine W.eq (g2 := F0 m 447 ls [.int 1]) (by rw [show ((kk_begin S t 1 (nI a) mk to) 1 t) = (1 : Int32) from kk_begin_1]) ?_
                        refine lv_iconst (v := 1) hx hb dL_waits_447 (by decide) ?_
                        refine lv_icmp_ne (tgt := 533) hx hb dL_waits_448 (by decide) (fun c => absurd c (by decide)) (fun _ => ?_)
                        refine lv_aload_n hx hb dL_waits_451 rfl (lv_at hl 14 rfl) ?_
                        refine lv_aload_n hx hb dL_waits_452 rfl (lv_at hl 15 rfl) ?_
                        refine lv_iload hx hb dL_waits_453 (lv_at hl 13 rfl) ?_
                        refine lv_iload hx hb dL_waits_455 (lv_at hl 12 rfl) ?_
                        refine fk_callS (As := [.ref (ad 0), .ref q, .int (nI t), .int (nI a)]) (rest := []) ⟨hx, hb, hml, hown, hts⟩ (kl_joined l D ad cI cT cJ _ (kk_begin S t 1 (nI a) mk to) q (upd P (8 + t) mk) t a hG1.1.J (kk_begin_Jd hG.1 (by omega) ht ha 1 mk to) hG1.1.pr) (va_cwS 4 hts gL_waits_L_joined rfl rfl rfl (by decide +kernel) ⟨Nat.le_of_ble_eq_true rfl, Nat.le_of_ble_eq_true rfl⟩) hK hP hD hS hA rfl hl.1 rfl (Nat.le_of_ble_eq_true rfl) dL_waits_457 ⟨Nat.le_of_ble_eq_true rfl, Nat.le_of_ble_eq_true rfl⟩ (fun H locs hP hD hS => ?_)
                        refine W.eq (g2 := F0 m 460 ls [.int 1]) rfl ?_
                        refine lv_if_eq (tgt := 533) hx hb dL_waits_460 (by decide) (fun c => absurd c (by decide)) (fun _ => ?_)
                        refine lv_aload_n hx hb dL_waits_463 rfl (lv_at hl 14 rfl) ?_
                        refine lv_iload hx hb dL_waits_464 (lv_at hl 13 rfl) ?_
                        refine fk_callV (As := [.int (nI t)]) (rest := []) ⟨hx, hb, hml, hown, hts⟩ (kc_resultOf l D ad cI cT cJ _ (kk_begin S t 1 (nI a) mk to) t ht) (cwV 1 hts gL_waits_X2_resultOf rfl rfl rfl (by decide +kernel) ⟨Nat.le_of_ble_eq_true rfl, Nat.le_of_ble_eq_true rfl⟩) (fk_rvK hK hP) hK hP hD hS hA rfl hl.1 rfl (Nat.le_of_ble_eq_true rfl) dL_waits_466 ⟨Nat.le_of_ble_eq_true rfl, Nat.le_of_ble_eq_true rfl⟩ (fun H locs hP hD hS => ?_)
                        refine W.eq (g2 := F0 m 469 ls [.int ((kk_begin S t 1 (nI a) mk to) 8 t)]) rfl ?_
                        refine W.eq (g2 := F0 m 469 ls [.int (S 8 t)]) (by rw [show ((kk_begin S t 1 (nI a) mk to) 8 t) = (S 8 t) from (congrFun (kk_begin_g (by decide) (by decide) (by decide) (by decide) (by decide) (by decide) (by decide)) t)]) ?_
                        refine lv_iload hx hb dL_waits_469 (lv_at hl 4 rfl) ?_
                        refine lv_icmp_ne (tgt := 533) hx hb dL_waits_471 (by decide) (fun c => absurd rfl c) (fun _ => ?_)
                        refine lv_aload_n hx hb dL_waits_474 rfl (lv_at hl 14 rfl) ?_
                        refine fk_callV (As := []) (rest := []) ⟨hx, hb, hml, hown, hts⟩ (kc_nextTimeout l D ad cI cT cJ _ (kk_begin S t 1 (nI a) mk to)) (cwV 0 hts gL_waits_X2_nextTimeout rfl rfl rfl (by decide +kernel) ⟨Nat.le_of_ble_eq_true rfl, Nat.le_of_ble_eq_true rfl⟩) (fk_rvK hK hP) hK hP hD hS hA rfl hl.1 rfl (Nat.le_of_ble_eq_true rfl) dL_waits_475 ⟨Nat.le_of_ble_eq_true rfl, Nat.le_of_ble_eq_true rfl⟩ (fun H locs hP hD hS => ?_)
                        refine W.eq (g2 := F0 m 478 ls [.int (kk_nextR (kk_begin S t 1 (nI a) mk to))]) rfl ?_
                        refine lv_iload hx hb dL_waits_478 (lv_at hl 9 rfl) ?_
                        refine lv_if_le (tgt := 501) hx hb dL_waits_480 (by decide) (fun c_10 => ?_) (fun c_10 => ?_)
                        · refine lv_iload hx hb dL_waits_501 (lv_at hl 5 rfl) ?_
                          refine lv_icmp_ne (tgt := 533) hx hb dL_waits_503 (by decide) (fun c_11 => absurd c_11 (fun h9 => h9 (by rw [kk_begin_next hG.1 (by omega) ht hs0 1 (nI a) mk (Bool.and_eq_true_iff.mp hbad).2]; first | exact if_pos ⟨Int32.not_le.mp (by assumption), Or.inl (by assumption)⟩ | exact if_pos ⟨Int32.not_le.mp (by assumption), Or.inr (Int32.not_le.mp (by assumption))⟩ | exact if_neg (fun z => absurd z.1 (Int32.not_lt.mpr (by assumption))) | exact if_neg (fun z => z.2.elim (by assumption) (fun w => absurd w (Int32.not_lt.mpr (by assumption))))))) (fun c_11 => ?_)
                          refine lv_aload_n hx hb dL_waits_506 rfl (lv_at hl 14 rfl) ?_
                          refine lv_iload hx hb dL_waits_507 (lv_at hl 13 rfl) ?_
                          refine fk_callS (As := [.ref (ad 0), .int (nI t)]) (rest := []) ⟨hx, hb, hml, hown, hts⟩ (kl_threads l D ad cI cT cJ _ (kk_begin S t 1 (nI a) mk to) hG1.1.sz hG1.1.J (nI t)) (va_cwS 2 hts gL_waits_L_threads rfl rfl rfl (by decide +kernel) ⟨Nat.le_of_ble_eq_true rfl, Nat.le_of_ble_eq_true rfl⟩) hK hP hD hS hA rfl hl.1 rfl (Nat.le_of_ble_eq_true rfl) dL_waits_509 ⟨Nat.le_of_ble_eq_true rfl, Nat.le_of_ble_eq_true rfl⟩ (fun H locs hP hD hS => ?_)
                          refine W.eq (g2 := F0 m 512 ls [.long (pl_thr (kk_begin S t 1 (nI a) mk to) (nI t))]) rfl ?_
                          refine W.eq (g2 := F0 m 512 ls [.long (pl_thr S (nI t))]) (by rw [show (pl_thr (kk_begin S t 1 (nI a) mk to) (nI t)) = (pl_thr S (nI t)) from (hG.1.thr hG1.1 (kk_begin_Off 1 (nI a) mk to ht))]) ?_
                          refine lv_lload hx hb dL_waits_512 (lv_at hl 2 rfl) ?_
                          refine W.lcmp hx hb dL_waits_514 ?_
                          refine W.eq (g2 := F0 m 515 ls [.int 0]) (by rw [fk_cmp_self]) ?_
                          refine lv_if_ne (tgt := 533) hx hb dL_waits_515 (by decide) (fun c => absurd c (by decide)) (fun _ => ?_)
                          refine lv_aload_n hx hb dL_waits_518 rfl (lv_at hl 14 rfl) ?_
                          refine lv_iconst (v := (-1)) hx hb dL_waits_519 (by decide) ?_
                          refine fk_callS (As := [.ref (ad 0), .int (-1)]) (rest := []) ⟨hx, hb, hml, hown, hts⟩ (kl_words l D ad cI cT cJ _ (kk_begin S t 1 (nI a) mk to) (-1)) (va_cwS 2 hts gL_waits_L_words rfl rfl rfl (by decide +kernel) ⟨Nat.le_of_ble_eq_true rfl, Nat.le_of_ble_eq_true rfl⟩) hK hP hD hS hA rfl hl.1 rfl (Nat.le_of_ble_eq_true rfl) dL_waits_520 ⟨Nat.le_of_ble_eq_true rfl, Nat.le_of_ble_eq_true rfl⟩ (fun H locs hP hD hS => ?_)
                          refine W.eq (g2 := F0 m 523 ls [.long (pl_wds (kk_begin S t 1 (nI a) mk to) (-1))]) rfl ?_
                          refine W.eq (g2 := F0 m 523 ls [.long (pl_wds S (-1))]) (by rw [show (pl_wds (kk_begin S t 1 (nI a) mk to) (-1)) = (pl_wds S (-1)) from (pl_wds_eq (fun _ _ _ => congrFun (kk_begin_g (by decide) (by decide) (by decide) (by decide) (by decide) (by decide) (by decide)) _))]) ?_
                          refine lv_lload hx hb dL_waits_523 (lv_at hl 1 rfl) ?_
                          refine W.lcmp hx hb dL_waits_525 ?_
                          refine W.eq (g2 := F0 m 526 ls [.int 0]) (by rw [fk_cmp_self]) ?_
                          refine lv_if_ne (tgt := 533) hx hb dL_waits_526 (by decide) (fun c => absurd c (by decide)) (fun _ => ?_)
                          refine lv_iconst (v := 1) hx hb dL_waits_529 (by decide) ?_
                          refine lv_goto (tgt := 534) hx hb dL_waits_530 (by decide) ?_
                          exact fk_zretE (Nat.le_of_ble_eq_true rfl) (Nat.le_of_ble_eq_true rfl) hx hb hr hlocks hP hK hD hS rfl ⟨rfl, _, _, rfl, (hG1).wk (by omega)⟩ dL_waits_534
                        · refine lv_iload hx hb dL_waits_483 (lv_at hl 5 rfl) ?_
                          refine lv_iconst (v := (-1)) hx hb dL_waits_485 (by decide) ?_
                          refine lv_icmp_eq (tgt := 496) hx hb dL_waits_486 (by decide) (fun c_14 => ?_) (fun c_14 => ?_)
                          · refine lv_iload hx hb dL_waits_496 (lv_at hl 9 rfl) ?_
                            refine lv_goto (tgt := 503) hx hb dL_waits_498 (by decide) ?_
                            refine lv_icmp_ne (tgt := 533) hx hb dL_waits_503 (by decide) (fun c_15 => absurd c_15 (fun h9 => h9 (by rw [kk_begin_next hG.1 (by omega) ht hs0 1 (nI a) mk (Bool.and_eq_true_iff.mp hbad).2]; first | exact if_pos ⟨Int32.not_le.mp (by assumption), Or.inl (by assumption)⟩ | exact if_pos ⟨Int32.not_le.mp (by assumption), Or.inr (Int32.not_le.mp (by assumption))⟩ | exact if_neg (fun z => absurd z.1 (Int32.not_lt.mpr (by assumption))) | exact if_neg (fun z => z.2.elim (by assumption) (fun w => absurd w (Int32.not_lt.mpr (by assumption))))))) (fun c_15 => ?_)
                            refine lv_aload_n hx hb dL_waits_506 rfl (lv_at hl 14 rfl) ?_
                            refine lv_iload hx hb dL_waits_507 (lv_at hl 13 rfl) ?_
                            refine fk_callS (As := [.ref (ad 0), .int (nI t)]) (rest := []) ⟨hx, hb, hml, hown, hts⟩ (kl_threads l D ad cI cT cJ _ (kk_begin S t 1 (nI a) mk to) hG1.1.sz hG1.1.J (nI t)) (va_cwS 2 hts gL_waits_L_threads rfl rfl rfl (by decide +kernel) ⟨Nat.le_of_ble_eq_true rfl, Nat.le_of_ble_eq_true rfl⟩) hK hP hD hS hA rfl hl.1 rfl (Nat.le_of_ble_eq_true rfl) dL_waits_509 ⟨Nat.le_of_ble_eq_true rfl, Nat.le_of_ble_eq_true rfl⟩ (fun H locs hP hD hS => ?_)
                            refine W.eq (g2 := F0 m 512 ls [.long (pl_thr (kk_begin S t 1 (nI a) mk to) (nI t))]) rfl ?_
                            refine W.eq (g2 := F0 m 512 ls [.long (pl_thr S (nI t))]) (by rw [show (pl_thr (kk_begin S t 1 (nI a) mk to) (nI t)) = (pl_thr S (nI t)) from (hG.1.thr hG1.1 (kk_begin_Off 1 (nI a) mk to ht))]) ?_
                            refine lv_lload hx hb dL_waits_512 (lv_at hl 2 rfl) ?_
                            refine W.lcmp hx hb dL_waits_514 ?_
                            refine W.eq (g2 := F0 m 515 ls [.int 0]) (by rw [fk_cmp_self]) ?_
                            refine lv_if_ne (tgt := 533) hx hb dL_waits_515 (by decide) (fun c => absurd c (by decide)) (fun _ => ?_)
                            refine lv_aload_n hx hb dL_waits_518 rfl (lv_at hl 14 rfl) ?_
                            refine lv_iconst (v := (-1)) hx hb dL_waits_519 (by decide) ?_
                            refine fk_callS (As := [.ref (ad 0), .int (-1)]) (rest := []) ⟨hx, hb, hml, hown, hts⟩ (kl_words l D ad cI cT cJ _ (kk_begin S t 1 (nI a) mk to) (-1)) (va_cwS 2 hts gL_waits_L_words rfl rfl rfl (by decide +kernel) ⟨Nat.le_of_ble_eq_true rfl, Nat.le_of_ble_eq_true rfl⟩) hK hP hD hS hA rfl hl.1 rfl (Nat.le_of_ble_eq_true rfl) dL_waits_520 ⟨Nat.le_of_ble_eq_true rfl, Nat.le_of_ble_eq_true rfl⟩ (fun H locs hP hD hS => ?_)
                            refine W.eq (g2 := F0 m 523 ls [.long (pl_wds (kk_begin S t 1 (nI a) mk to) (-1))]) rfl ?_
                            refine W.eq (g2 := F0 m 523 ls [.long (pl_wds S (-1))]) (by rw [show (pl_wds (kk_begin S t 1 (nI a) mk to) (-1)) = (pl_wds S (-1)) from (pl_wds_eq (fun _ _ _ => congrFun (kk_begin_g (by decide) (by decide) (by decide) (by decide) (by decide) (by decide) (by decide)) _))]) ?_
                            refine lv_lload hx hb dL_waits_523 (lv_at hl 1 rfl) ?_
                            refine W.lcmp hx hb dL_waits_525 ?_
                            refine W.eq (g2 := F0 m 526 ls [.int 0]) (by rw [fk_cmp_self]) ?_
                            refine lv_if_ne (tgt := 533) hx hb dL_waits_526 (by decide) (fun c => absurd c (by decide)) (fun _ => ?_)
                            refine lv_iconst (v := 1) hx hb dL_waits_529 (by decide) ?_
                            refine lv_goto (tgt := 534) hx hb dL_waits_530 (by decide) ?_
                            exact fk_zretE (Nat.le_of_ble_eq_true rfl) (Nat.le_of_ble_eq_true rfl) hx hb hr hlocks hP hK hD hS rfl ⟨rfl, _, _, rfl, (hG1).wk (by omega)⟩ dL_waits_534
                          · refine lv_iload hx hb dL_waits_489 (lv_at hl 9 rfl) ?_
                            refine lv_iload hx hb dL_waits_491 (lv_at hl 5 rfl) ?_
                            refine lv_icmp_ge (tgt := 501) hx hb dL_waits_493 (by decide) (fun c_18 => ?_) (fun c_18 => ?_)
                            · refine lv_iload hx hb dL_waits_501 (lv_at hl 5 rfl) ?_
                              refine lv_icmp_ne (tgt := 533) hx hb dL_waits_503 (by decide) (fun c_19 => absurd c_19 (fun h9 => h9 (by rw [kk_begin_next hG.1 (by omega) ht hs0 1 (nI a) mk (Bool.and_eq_true_iff.mp hbad).2]; first | exact if_pos ⟨Int32.not_le.mp (by assumption), Or.inl (by assumption)⟩ | exact if_pos ⟨Int32.not_le.mp (by assumption), Or.inr (Int32.not_le.mp (by assumption))⟩ | exact if_neg (fun z => absurd z.1 (Int32.not_lt.mpr (by assumption))) | exact if_neg (fun z => z.2.elim (by assumption) (fun w => absurd w (Int32.not_lt.mpr (by assumption))))))) (fun c_19 => ?_)
                              refine lv_aload_n hx hb dL_waits_506 rfl (lv_at hl 14 rfl) ?_
                              refine lv_iload hx hb dL_waits_507 (lv_at hl 13 rfl) ?_
                              refine fk_callS (As := [.ref (ad 0), .int (nI t)]) (rest := []) ⟨hx, hb, hml, hown, hts⟩ (kl_threads l D ad cI cT cJ _ (kk_begin S t 1 (nI a) mk to) hG1.1.sz hG1.1.J (nI t)) (va_cwS 2 hts gL_waits_L_threads rfl rfl rfl (by decide +kernel) ⟨Nat.le_of_ble_eq_true rfl, Nat.le_of_ble_eq_true rfl⟩) hK hP hD hS hA rfl hl.1 rfl (Nat.le_of_ble_eq_true rfl) dL_waits_509 ⟨Nat.le_of_ble_eq_true rfl, Nat.le_of_ble_eq_true rfl⟩ (fun H locs hP hD hS => ?_)
                              refine W.eq (g2 := F0 m 512 ls [.long (pl_thr (kk_begin S t 1 (nI a) mk to) (nI t))]) rfl ?_
                              refine W.eq (g2 := F0 m 512 ls [.long (pl_thr S (nI t))]) (by rw [show (pl_thr (kk_begin S t 1 (nI a) mk to) (nI t)) = (pl_thr S (nI t)) from (hG.1.thr hG1.1 (kk_begin_Off 1 (nI a) mk to ht))]) ?_
                              refine lv_lload hx hb dL_waits_512 (lv_at hl 2 rfl) ?_
                              refine W.lcmp hx hb dL_waits_514 ?_
                              refine W.eq (g2 := F0 m 515 ls [.int 0]) (by rw [fk_cmp_self]) ?_
                              refine lv_if_ne (tgt := 533) hx hb dL_waits_515 (by decide) (fun c => absurd c (by decide)) (fun _ => ?_)
                              refine lv_aload_n hx hb dL_waits_518 rfl (lv_at hl 14 rfl) ?_
                              refine lv_iconst (v := (-1)) hx hb dL_waits_519 (by decide) ?_
                              refine fk_callS (As := [.ref (ad 0), .int (-1)]) (rest := []) ⟨hx, hb, hml, hown, hts⟩ (kl_words l D ad cI cT cJ _ (kk_begin S t 1 (nI a) mk to) (-1)) (va_cwS 2 hts gL_waits_L_words rfl rfl rfl (by decide +kernel) ⟨Nat.le_of_ble_eq_true rfl, Nat.le_of_ble_eq_true rfl⟩) hK hP hD hS hA rfl hl.1 rfl (Nat.le_of_ble_eq_true rfl) dL_waits_520 ⟨Nat.le_of_ble_eq_true rfl, Nat.le_of_ble_eq_true rfl⟩ (fun H locs hP hD hS => ?_)
                              refine W.eq (g2 := F0 m 523 ls [.long (pl_wds (kk_begin S t 1 (nI a) mk to) (-1))]) rfl ?_
                              refine W.eq (g2 := F0 m 523 ls [.long (pl_wds S (-1))]) (by rw [show (pl_wds (kk_begin S t 1 (nI a) mk to) (-1)) = (pl_wds S (-1)) from (pl_wds_eq (fun _ _ _ => congrFun (kk_begin_g (by decide) (by decide) (by decide) (by decide) (by decide) (by decide) (by decide)) _))]) ?_
                              refine lv_lload hx hb dL_waits_523 (lv_at hl 1 rfl) ?_
                              refine W.lcmp hx hb dL_waits_525 ?_
                              refine W.eq (g2 := F0 m 526 ls [.int 0]) (by rw [fk_cmp_self]) ?_
                              refine lv_if_ne (tgt := 533) hx hb dL_waits_526 (by decide) (fun c => absurd c (by decide)) (fun _ => ?_)
                              refine lv_iconst (v := 1) hx hb dL_waits_529 (by decide) ?_
                              refine lv_goto (tgt := 534) hx hb dL_waits_530 (by decide) ?_
                              exact fk_zretE (Nat.le_of_ble_eq_true rfl) (Nat.le_of_ble_eq_true rfl) hx hb hr hlocks hP hK hD hS rfl ⟨rfl, _, _, rfl, (hG1).wk (by omega)⟩ dL_waits_534
                            · refine lv_iload hx hb dL_waits_496 (lv_at hl 9 rfl) ?_
                              refine lv_goto (tgt := 503) hx hb dL_waits_498 (by decide) ?_
                              refine lv_icmp_ne (tgt := 533) hx hb dL_waits_503 (by decide) (fun c_22 => absurd c_22 (fun h9 => h9 (by rw [kk_begin_next hG.1 (by omega) ht hs0 1 (nI a) mk (Bool.and_eq_true_iff.mp hbad).2]; first | exact if_pos ⟨Int32.not_le.mp (by assumption), Or.inl (by assumption)⟩ | exact if_pos ⟨Int32.not_le.mp (by assumption), Or.inr (Int32.not_le.mp (by assumption))⟩ | exact if_neg (fun z => absurd z.1 (Int32.not_lt.mpr (by assumption))) | exact if_neg (fun z => z.2.elim (by assumption) (fun w => absurd w (Int32.not_lt.mpr (by assumption))))))) (fun c_22 => ?_)
                              refine lv_aload_n hx hb dL_waits_506 rfl (lv_at hl 14 rfl) ?_
                              refine lv_iload hx hb dL_waits_507 (lv_at hl 13 rfl) ?_
                              refine fk_callS (As := [.ref (ad 0), .int (nI t)]) (rest := []) ⟨hx, hb, hml, hown, hts⟩ (kl_threads l D ad cI cT cJ _ (kk_begin S t 1 (nI a) mk to) hG1.1.sz hG1.1.J (nI t)) (va_cwS 2 hts gL_waits_L_threads rfl rfl rfl (by decide +kernel) ⟨Nat.le_of_ble_eq_true rfl, Nat.le_of_ble_eq_true rfl⟩) hK hP hD hS hA rfl hl.1 rfl (Nat.le_of_ble_eq_true rfl) dL_waits_509 ⟨Nat.le_of_ble_eq_true rfl, Nat.le_of_ble_eq_true rfl⟩ (fun H locs hP hD hS => ?_)
                              refine W.eq (g2 := F0 m 512 ls [.long (pl_thr (kk_begin S t 1 (nI a) mk to) (nI t))]) rfl ?_
                              refine W.eq (g2 := F0 m 512 ls [.long (pl_thr S (nI t))]) (by rw [show (pl_thr (kk_begin S t 1 (nI a) mk to) (nI t)) = (pl_thr S (nI t)) from (hG.1.thr hG1.1 (kk_begin_Off 1 (nI a) mk to ht))]) ?_
                              refine lv_lload hx hb dL_waits_512 (lv_at hl 2 rfl) ?_
                              refine W.lcmp hx hb dL_waits_514 ?_
                              refine W.eq (g2 := F0 m 515 ls [.int 0]) (by rw [fk_cmp_self]) ?_
                              refine lv_if_ne (tgt := 533) hx hb dL_waits_515 (by decide) (fun c => absurd c (by decide)) (fun _ => ?_)
                              refine lv_aload_n hx hb dL_waits_518 rfl (lv_at hl 14 rfl) ?_
                              refine lv_iconst (v := (-1)) hx hb dL_waits_519 (by decide) ?_
                              refine fk_callS (As := [.ref (ad 0), .int (-1)]) (rest := []) ⟨hx, hb, hml, hown, hts⟩ (kl_words l D ad cI cT cJ _ (kk_begin S t 1 (nI a) mk to) (-1)) (va_cwS 2 hts gL_waits_L_words rfl rfl rfl (by decide +kernel) ⟨Nat.le_of_ble_eq_true rfl, Nat.le_of_ble_eq_true rfl⟩) hK hP hD hS hA rfl hl.1 rfl (Nat.le_of_ble_eq_true rfl) dL_waits_520 ⟨Nat.le_of_ble_eq_true rfl, Nat.le_of_ble_eq_true rfl⟩ (fun H locs hP hD hS => ?_)
                              refine W.eq (g2 := F0 m 523 ls [.long (pl_wds (kk_begin S t 1 (nI a) mk to) (-1))]) rfl ?_
                              refine W.eq (g2 := F0 m 523 ls [.long (pl_wds S (-1))]) (by rw [show (pl_wds (kk_begin S t 1 (nI a) mk to) (-1)) = (pl_wds S (-1)) from (pl_wds_eq (fun _ _ _ => congrFun (kk_begin_g (by decide) (by decide) (by decide) (by decide) (by decide) (by decide) (by decide)) _))]) ?_
                              refine lv_lload hx hb dL_waits_523 (lv_at hl 1 rfl) ?_
                              refine W.lcmp hx hb dL_waits_525 ?_
                              refine W.eq (g2 := F0 m 526 ls [.int 0]) (by rw [fk_cmp_self]) ?_
                              refine lv_if_ne (tgt := 533) hx hb dL_waits_526 (by decide) (fun c => absurd c (by decide)) (fun _ => ?_)
                              refine lv_iconst (v := 1) hx hb dL_waits_529 (by decide) ?_
                              refine lv_goto (tgt := 534) hx hb dL_waits_530 (by decide) ?_
                              exact fk_zretE (Nat.le_of_ble_eq_true rfl) (Nat.le_of_ble_eq_true rfl) hx hb hr hlocks hP hK hD hS rfl ⟨rfl, _, _, rfl, (hG1).wk (by omega)⟩ dL_waits_534
                      · refine lv_aload_n hx hb dL_waits_314 rfl (lv_at hl 13 rfl) ?_
                        refine lv_iload hx hb dL_waits_315 (lv_at hl 12 rfl) ?_
                        refine lv_iload hx hb dL_waits_317 (lv_at hl 11 rfl) ?_
                        refine lv_iload hx hb dL_waits_319 (lv_at hl 7 rfl) ?_
                        refine lv_iload hx hb dL_waits_321 (lv_at hl 9 rfl) ?_
                        refine lv_iload hx hb dL_waits_323 (lv_at hl 8 rfl) ?_
                        refine fk_lcallS (As := [.ref (ad 0), .int (nI t), .int (nI a), .int xv, .int mk, .int to]) (rest := []) ⟨hx, hb, hml, hown, hts⟩ (Lc_await l D ad cI cT cJ _ S _ _ _ _ _ S false (fun X => kl_awaitF l D ad cI cT cJ X S t ht a ha _ _ _ hs0 hbad hw)) (vx_cwSW 6 hts gL_waits_L_await rfl rfl rfl (by decide +kernel) ⟨Nat.le_of_ble_eq_true rfl, Nat.le_of_ble_eq_true rfl⟩) hK hP hD hS hA hZ hN rfl hl.1 rfl (Nat.le_of_ble_eq_true rfl) dL_waits_325 ⟨Nat.le_of_ble_eq_true rfl, Nat.le_of_ble_eq_true rfl⟩ (fun H locs hP hD hS => ?_)
                        refine W.eq (g2 := F0 m 328 ls [.int 0]) rfl ?_
                        refine lv_istore (lv' := [(20, .int 0), (18, .long (pl_wds S (-1))), (16, .long (pl_thr S (nI t))), (14, .long (pl_thr S (-1))), (13, .int (S 8 t)), (12, .int (kk_nextR S)), (11, .int 1), (10, .int 0), (9, .int xv), (8, .int to), (7, .int mk), (6, .int 0), (5, .int (nI a)), (4, .int (nI t)), (0, .ref (ad 0)), (1, .ref q), (2, .int y), (3, .int od)]) hx hb dL_waits_328 hl (by decide) rfl (fun ls hl => ?_)
                        refine lv_iload hx hb dL_waits_330 (lv_at hl 0 rfl) ?_
                        refine lv_iconst (v := 1) hx hb dL_waits_332 (by decide) ?_
                        refine lv_icmp_eq (tgt := 416) hx hb dL_waits_333 (by decide) (fun c => absurd c (by decide)) (fun _ => ?_)
                        refine lv_iload hx hb dL_waits_336 (lv_at hl 0 rfl) ?_
                        refine lv_iload hx hb dL_waits_338 (lv_at hl 11 rfl) ?_
                        refine lv_if_eq (tgt := 348) hx hb dL_waits_340 (by decide) (fun _ => ?_) (fun c => absurd c (by decide))
                        refine lv_iload hx hb dL_waits_348 (lv_at hl 7 rfl) ?_
                        refine lv_if_eq (tgt := 358) hx hb dL_waits_350 (by decide) (fun _ => ?_) (fun c => absurd c (by decide))
                        refine lv_iload hx hb dL_waits_358 (lv_at hl 6 rfl) ?_
                        refine lv_if_ne (tgt := 368) hx hb dL_waits_360 (by decide) (fun _ => ?_) (fun c => absurd c (by decide))
                        refine lv_iconst (v := 0) hx hb dL_waits_368 (by decide) ?_
                        refine lv_icmp_ne (tgt := 414) hx hb dL_waits_369 (by decide) (fun c => absurd c (by decide)) (fun _ => ?_)
                        refine lv_iload hx hb dL_waits_372 (lv_at hl 6 rfl) ?_
                        refine lv_if_eq (tgt := 388) hx hb dL_waits_374 (by decide) (fun c => absurd c (by decide)) (fun _ => ?_)
                        refine lv_aload_n hx hb dL_waits_377 rfl (lv_at hl 14 rfl) ?_
                        refine lv_iload hx hb dL_waits_378 (lv_at hl 12 rfl) ?_
                        refine fk_callV (As := [.int (nI a)]) (rest := []) ⟨hx, hb, hml, hown, hts⟩ (kc_word l D ad cI cT cJ _ S a ha) (cwV 1 hts gL_waits_X2_word rfl rfl rfl (by decide +kernel) ⟨Nat.le_of_ble_eq_true rfl, Nat.le_of_ble_eq_true rfl⟩) (fk_rvK hK hP) hK hP hD hS hA rfl hl.1 rfl (Nat.le_of_ble_eq_true rfl) dL_waits_380 ⟨Nat.le_of_ble_eq_true rfl, Nat.le_of_ble_eq_true rfl⟩ (fun H locs hP hD hS => ?_)
                        refine W.eq (g2 := F0 m 383 ls [.int (S 0 a)]) rfl ?_
                        refine lv_iload hx hb dL_waits_383 (lv_at hl 8 rfl) ?_
                        refine lv_icmp_eq (tgt := 414) hx hb dL_waits_385 (by decide) (fun c_31 => absurd c_31 hw) (fun c_31 => ?_)
                        refine lv_aload_n hx hb dL_waits_388 rfl (lv_at hl 14 rfl) ?_
                        refine lv_iconst (v := (-1)) hx hb dL_waits_389 (by decide) ?_
                        refine fk_callS (As := [.ref (ad 0), .int (-1)]) (rest := []) ⟨hx, hb, hml, hown, hts⟩ (kl_threads l D ad cI cT cJ _ S hG.1.sz hG.1.J (-1)) (va_cwS 2 hts gL_waits_L_threads rfl rfl rfl (by decide +kernel) ⟨Nat.le_of_ble_eq_true rfl, Nat.le_of_ble_eq_true rfl⟩) hK hP hD hS hA rfl hl.1 rfl (Nat.le_of_ble_eq_true rfl) dL_waits_390 ⟨Nat.le_of_ble_eq_true rfl, Nat.le_of_ble_eq_true rfl⟩ (fun H locs hP hD hS => ?_)
                        refine W.eq (g2 := F0 m 393 ls [.long (pl_thr S (-1))]) rfl ?_
                        refine lv_lload hx hb dL_waits_393 (lv_at hl 3 rfl) ?_
                        refine W.lcmp hx hb dL_waits_395 ?_
                        refine W.eq (g2 := F0 m 396 ls [.int 0]) (by rw [fk_cmp_self]) ?_
                        refine lv_if_ne (tgt := 414) hx hb dL_waits_396 (by decide) (fun c => absurd c (by decide)) (fun _ => ?_)
                        refine lv_aload_n hx hb dL_waits_399 rfl (lv_at hl 14 rfl) ?_
                        refine lv_iconst (v := (-1)) hx hb dL_waits_400 (by decide) ?_
                        refine fk_callS (As := [.ref (ad 0), .int (-1)]) (rest := []) ⟨hx, hb, hml, hown, hts⟩ (kl_words l D ad cI cT cJ _ S (-1)) (va_cwS 2 hts gL_waits_L_words rfl rfl rfl (by decide +kernel) ⟨Nat.le_of_ble_eq_true rfl, Nat.le_of_ble_eq_true rfl⟩) hK hP hD hS hA rfl hl.1 rfl (Nat.le_of_ble_eq_true rfl) dL_waits_401 ⟨Nat.le_of_ble_eq_true rfl, Nat.le_of_ble_eq_true rfl⟩ (fun H locs hP hD hS => ?_)
                        refine W.eq (g2 := F0 m 404 ls [.long (pl_wds S (-1))]) rfl ?_
                        refine lv_lload hx hb dL_waits_404 (lv_at hl 1 rfl) ?_
                        refine W.lcmp hx hb dL_waits_406 ?_
                        refine W.eq (g2 := F0 m 407 ls [.int 0]) (by rw [fk_cmp_self]) ?_
                        refine lv_if_ne (tgt := 414) hx hb dL_waits_407 (by decide) (fun c => absurd c (by decide)) (fun _ => ?_)
                        refine lv_iconst (v := 1) hx hb dL_waits_410 (by decide) ?_
                        refine lv_goto (tgt := 415) hx hb dL_waits_411 (by decide) ?_
                        exact fk_zretE (Nat.le_of_ble_eq_true rfl) (Nat.le_of_ble_eq_true rfl) hx hb hr hlocks hP hK hD hS rfl ⟨rfl, _, _, rfl, (hG).wk (by omega)⟩ dL_waits_415
                    · refine lv_iload hx hb dL_waits_234 (lv_at hl 4 rfl) ?_
                      refine lv_if_ne (tgt := 257) hx hb dL_waits_236 (by decide) (fun c => absurd c (by decide)) (fun _ => ?_)
                      refine lv_iload hx hb dL_waits_239 (lv_at hl 0 rfl) ?_
                      refine lv_if_ne (tgt := 257) hx hb dL_waits_241 (by decide) (fun c => absurd c (by decide)) (fun _ => ?_)
                      refine lv_aload_n hx hb dL_waits_244 rfl (lv_at hl 7 rfl) ?_
                      refine lv_iload hx hb dL_waits_245 (lv_at hl 6 rfl) ?_
                      refine fk_callV (As := [.int (nI t)]) (rest := []) ⟨hx, hb, hml, hown, hts⟩ (kc_stateOf l D ad cI cT cJ _ S t ht) (cwV 1 hts gL_waits_X2_stateOf rfl rfl rfl (by decide +kernel) ⟨Nat.le_of_ble_eq_true rfl, Nat.le_of_ble_eq_true rfl⟩) (fk_rvK hK hP) hK hP hD hS hA rfl hl.1 rfl (Nat.le_of_ble_eq_true rfl) dL_waits_247 ⟨Nat.le_of_ble_eq_true rfl, Nat.le_of_ble_eq_true rfl⟩ (fun H locs hP hD hS => ?_)
                      refine W.eq (g2 := F0 m 250 ls [.int (S 1 t)]) rfl ?_
                      refine lv_if_ne (tgt := 257) hx hb dL_waits_250 (by decide) (fun c_36 => ?_) (fun c9 => absurd c9 hs0)
                      refine lv_iconst (v := 0) hx hb dL_waits_257 (by decide) ?_
                      refine lv_istore (lv' := [(11, .int 0), (10, .int 0), (9, .int xv), (8, .int to), (7, .int mk), (6, .int 0), (5, .int (nI a)), (4, .int (nI t)), (0, .ref (ad 0)), (1, .ref q), (2, .int y), (3, .int od)]) hx hb dL_waits_258 hl (by decide) rfl (fun ls hl => ?_)
                      refine lv_aload_n hx hb dL_waits_260 rfl (lv_at hl 8 rfl) ?_
                      refine fk_callV (As := []) (rest := []) ⟨hx, hb, hml, hown, hts⟩ (kc_nextTimeout l D ad cI cT cJ _ S) (cwV 0 hts gL_waits_X2_nextTimeout rfl rfl rfl (by decide +kernel) ⟨Nat.le_of_ble_eq_true rfl, Nat.le_of_ble_eq_true rfl⟩) (fk_rvK hK hP) hK hP hD hS hA rfl hl.1 rfl (Nat.le_of_ble_eq_true rfl) dL_waits_261 ⟨Nat.le_of_ble_eq_true rfl, Nat.le_of_ble_eq_true rfl⟩ (fun H locs hP hD hS => ?_)
                      refine W.eq (g2 := F0 m 264 ls [.int (kk_nextR S)]) rfl ?_
                      refine lv_istore (lv' := [(12, .int (kk_nextR S)), (11, .int 0), (10, .int 0), (9, .int xv), (8, .int to), (7, .int mk), (6, .int 0), (5, .int (nI a)), (4, .int (nI t)), (0, .ref (ad 0)), (1, .ref q), (2, .int y), (3, .int od)]) hx hb dL_waits_264 hl (by decide) rfl (fun ls hl => ?_)
                      refine lv_iload hx hb dL_waits_266 (lv_at hl 6 rfl) ?_
                      refine lv_if_eq (tgt := 275) hx hb dL_waits_268 (by decide) (fun _ => ?_) (fun c => absurd c (by decide))
                      refine lv_aload_n hx hb dL_waits_275 rfl (lv_at hl 9 rfl) ?_
                      refine lv_iload hx hb dL_waits_276 (lv_at hl 8 rfl) ?_
                      refine fk_callV (As := [.int (nI t)]) (rest := []) ⟨hx, hb, hml, hown, hts⟩ (kc_resultOf l D ad cI cT cJ _ S t ht) (cwV 1 hts gL_waits_X2_resultOf rfl rfl rfl (by decide +kernel) ⟨Nat.le_of_ble_eq_true rfl, Nat.le_of_ble_eq_true rfl⟩) (fk_rvK hK hP) hK hP hD hS hA rfl hl.1 rfl (Nat.le_of_ble_eq_true rfl) dL_waits_278 ⟨Nat.le_of_ble_eq_true rfl, Nat.le_of_ble_eq_true rfl⟩ (fun H locs hP hD hS => ?_)
                      refine W.eq (g2 := F0 m 281 ls [.int (S 8 t)]) rfl ?_
                      refine lv_istore (lv' := [(13, .int (S 8 t)), (12, .int (kk_nextR S)), (11, .int 0), (10, .int 0), (9, .int xv), (8, .int to), (7, .int mk), (6, .int 0), (5, .int (nI a)), (4, .int (nI t)), (0, .ref (ad 0)), (1, .ref q), (2, .int y), (3, .int od)]) hx hb dL_waits_281 hl (by decide) rfl (fun ls hl => ?_)
                      refine lv_aload_n hx hb dL_waits_283 rfl (lv_at hl 10 rfl) ?_
                      refine lv_iconst (v := (-1)) hx hb dL_waits_284 (by decide) ?_
                      refine fk_callS (As := [.ref (ad 0), .int (-1)]) (rest := []) ⟨hx, hb, hml, hown, hts⟩ (kl_threads l D ad cI cT cJ _ S hG.1.sz hG.1.J (-1)) (va_cwS 2 hts gL_waits_L_threads rfl rfl rfl (by decide +kernel) ⟨Nat.le_of_ble_eq_true rfl, Nat.le_of_ble_eq_true rfl⟩) hK hP hD hS hA rfl hl.1 rfl (Nat.le_of_ble_eq_true rfl) dL_waits_285 ⟨Nat.le_of_ble_eq_true rfl, Nat.le_of_ble_eq_true rfl⟩ (fun H locs hP hD hS => ?_)
                      refine W.eq (g2 := F0 m 288 ls [.long (pl_thr S (-1))]) rfl ?_
                      refine lv_lstore (lv' := [(14, .long (pl_thr S (-1))), (13, .int (S 8 t)), (12, .int (kk_nextR S)), (11, .int 0), (10, .int 0), (9, .int xv), (8, .int to), (7, .int mk), (6, .int 0), (5, .int (nI a)), (4, .int (nI t)), (0, .ref (ad 0)), (1, .ref q), (2, .int y), (3, .int od)]) hx hb dL_waits_288 hl (by decide) rfl (fun ls hl => ?_)
                      refine lv_aload_n hx hb dL_waits_290 rfl (lv_at hl 11 rfl) ?_
                      refine lv_iload hx hb dL_waits_291 (lv_at hl 3 rfl) ?_
                      refine lv_if_eq (tgt := 301) hx hb dL_waits_293 (by decide) (fun _ => ?_) (fun c => absurd c (by decide))
                      refine lv_iconst (v := (-1)) hx hb dL_waits_301 (by decide) ?_
                      refine fk_callS (As := [.ref (ad 0), .int (-1)]) (rest := []) ⟨hx, hb, hml, hown, hts⟩ (kl_threads l D ad cI cT cJ _ S hG.1.sz hG.1.J (-1)) (va_cwS 2 hts gL_waits_L_threads rfl rfl rfl (by decide +kernel) ⟨Nat.le_of_ble_eq_true rfl, Nat.le_of_ble_eq_true rfl⟩) hK hP hD hS hA rfl hl.1 rfl (Nat.le_of_ble_eq_true rfl) dL_waits_302 ⟨Nat.le_of_ble_eq_true rfl, Nat.le_of_ble_eq_true rfl⟩ (fun H locs hP hD hS => ?_)
                      refine W.eq (g2 := F0 m 305 ls [.long (pl_thr S (-1))]) rfl ?_
                      refine lv_lstore (lv' := [(16, .long (pl_thr S (-1))), (14, .long (pl_thr S (-1))), (13, .int (S 8 t)), (12, .int (kk_nextR S)), (11, .int 0), (10, .int 0), (9, .int xv), (8, .int to), (7, .int mk), (6, .int 0), (5, .int (nI a)), (4, .int (nI t)), (0, .ref (ad 0)), (1, .ref q), (2, .int y), (3, .int od)]) hx hb dL_waits_305 hl (by decide) rfl (fun ls hl => ?_)
                      refine lv_aload_n hx hb dL_waits_307 rfl (lv_at hl 12 rfl) ?_
                      refine lv_iconst (v := (-1)) hx hb dL_waits_308 (by decide) ?_
                      refine fk_callS (As := [.ref (ad 0), .int (-1)]) (rest := []) ⟨hx, hb, hml, hown, hts⟩ (kl_words l D ad cI cT cJ _ S (-1)) (va_cwS 2 hts gL_waits_L_words rfl rfl rfl (by decide +kernel) ⟨Nat.le_of_ble_eq_true rfl, Nat.le_of_ble_eq_true rfl⟩) hK hP hD hS hA rfl hl.1 rfl (Nat.le_of_ble_eq_true rfl) dL_waits_309 ⟨Nat.le_of_ble_eq_true rfl, Nat.le_of_ble_eq_true rfl⟩ (fun H locs hP hD hS => ?_)
                      refine W.eq (g2 := F0 m 312 ls [.long (pl_wds S (-1))]) rfl ?_
                      refine lv_lstore (lv' := [(18, .long (pl_wds S (-1))), (16, .long (pl_thr S (-1))), (14, .long (pl_thr S (-1))), (13, .int (S 8 t)), (12, .int (kk_nextR S)), (11, .int 0), (10, .int 0), (9, .int xv), (8, .int to), (7, .int mk), (6, .int 0), (5, .int (nI a)), (4, .int (nI t)), (0, .ref (ad 0)), (1, .ref q), (2, .int y), (3, .int od)]) hx hb dL_waits_312 hl (by decide) rfl (fun ls hl => ?_)
                      refine lv_aload_n hx hb dL_waits_314 rfl (lv_at hl 13 rfl) ?_
                      refine lv_iload hx hb dL_waits_315 (lv_at hl 12 rfl) ?_
                      refine lv_iload hx hb dL_waits_317 (lv_at hl 11 rfl) ?_
                      refine lv_iload hx hb dL_waits_319 (lv_at hl 7 rfl) ?_
                      refine lv_iload hx hb dL_waits_321 (lv_at hl 9 rfl) ?_
                      refine lv_iload hx hb dL_waits_323 (lv_at hl 8 rfl) ?_
                      refine fk_lcallS (As := [.ref (ad 0), .int (nI t), .int (nI a), .int xv, .int mk, .int to]) (rest := []) ⟨hx, hb, hml, hown, hts⟩ (Lx_await_IS l D ad cI cT cJ _ S _ _ _ _ _ (fun X => kx_await_5 l D ad cI cT cJ X S hst t ht a ha _ _ _ (Bool.and_eq_true_iff.mp hbad).1 (Bool.and_eq_true_iff.mp hbad).2 hs0)) (vx_cwSW 6 hts gL_waits_L_await rfl rfl rfl (by decide +kernel) ⟨Nat.le_of_ble_eq_true rfl, Nat.le_of_ble_eq_true rfl⟩) hK hP hD hS hA hZ hN rfl hl.1 rfl (Nat.le_of_ble_eq_true rfl) dL_waits_325 ⟨Nat.le_of_ble_eq_true rfl, Nat.le_of_ble_eq_true rfl⟩ (fun H locs hP hD hS => ?_)
                      refine W.eq (g2 := F0 m 328 ls [.int (-2147483203)]) rfl ?_
                      refine lv_istore (lv' := [(20, .int (-2147483203)), (18, .long (pl_wds S (-1))), (16, .long (pl_thr S (-1))), (14, .long (pl_thr S (-1))), (13, .int (S 8 t)), (12, .int (kk_nextR S)), (11, .int 0), (10, .int 0), (9, .int xv), (8, .int to), (7, .int mk), (6, .int 0), (5, .int (nI a)), (4, .int (nI t)), (0, .ref (ad 0)), (1, .ref q), (2, .int y), (3, .int od)]) hx hb dL_waits_328 hl (by decide) rfl (fun ls hl => ?_)
                      refine lv_iload hx hb dL_waits_330 (lv_at hl 0 rfl) ?_
                      refine lv_iconst (v := 1) hx hb dL_waits_332 (by decide) ?_
                      refine lv_icmp_eq (tgt := 416) hx hb dL_waits_333 (by decide) (fun c => absurd c (by decide)) (fun _ => ?_)
                      refine lv_iload hx hb dL_waits_336 (lv_at hl 0 rfl) ?_
                      refine lv_iload hx hb dL_waits_338 (lv_at hl 11 rfl) ?_
                      refine lv_if_eq (tgt := 348) hx hb dL_waits_340 (by decide) (fun _ => ?_) (fun c => absurd c (by decide))
                      refine lv_iload hx hb dL_waits_348 (lv_at hl 7 rfl) ?_
                      refine lv_if_eq (tgt := 358) hx hb dL_waits_350 (by decide) (fun _ => ?_) (fun c => absurd c (by decide))
                      refine lv_iload hx hb dL_waits_358 (lv_at hl 6 rfl) ?_
                      refine lv_if_ne (tgt := 368) hx hb dL_waits_360 (by decide) (fun c => absurd c (by decide)) (fun _ => ?_)
                      refine lv_ldc (own := RL) (v := (-2147483203)) hx hb hown (hts (.constant RL 23 (-2147483203)) (List.mem_of_getElem? (i := 3) rfl)) dL_waits_363 ?_
                      refine lv_goto (tgt := 369) hx hb dL_waits_365 (by decide) ?_
                      refine lv_icmp_ne (tgt := 414) hx hb dL_waits_369 (by decide) (fun c => absurd c (by decide)) (fun _ => ?_)
                      refine lv_iload hx hb dL_waits_372 (lv_at hl 6 rfl) ?_
                      refine lv_if_eq (tgt := 388) hx hb dL_waits_374 (by decide) (fun _ => ?_) (fun c => absurd c (by decide))
                      refine lv_aload_n hx hb dL_waits_388 rfl (lv_at hl 14 rfl) ?_
                      refine lv_iconst (v := (-1)) hx hb dL_waits_389 (by decide) ?_
                      refine fk_callS (As := [.ref (ad 0), .int (-1)]) (rest := []) ⟨hx, hb, hml, hown, hts⟩ (kl_threads l D ad cI cT cJ _ S hG.1.sz hG.1.J (-1)) (va_cwS 2 hts gL_waits_L_threads rfl rfl rfl (by decide +kernel) ⟨Nat.le_of_ble_eq_true rfl, Nat.le_of_ble_eq_true rfl⟩) hK hP hD hS hA rfl hl.1 rfl (Nat.le_of_ble_eq_true rfl) dL_waits_390 ⟨Nat.le_of_ble_eq_true rfl, Nat.le_of_ble_eq_true rfl⟩ (fun H locs hP hD hS => ?_)
                      refine W.eq (g2 := F0 m 393 ls [.long (pl_thr S (-1))]) rfl ?_
                      refine lv_lload hx hb dL_waits_393 (lv_at hl 3 rfl) ?_
                      refine W.lcmp hx hb dL_waits_395 ?_
                      refine W.eq (g2 := F0 m 396 ls [.int 0]) (by rw [fk_cmp_self]) ?_
                      refine lv_if_ne (tgt := 414) hx hb dL_waits_396 (by decide) (fun c => absurd c (by decide)) (fun _ => ?_)
                      refine lv_aload_n hx hb dL_waits_399 rfl (lv_at hl 14 rfl) ?_
                      refine lv_iconst (v := (-1)) hx hb dL_waits_400 (by decide) ?_
                      refine fk_callS (As := [.ref (ad 0), .int (-1)]) (rest := []) ⟨hx, hb, hml, hown, hts⟩ (kl_words l D ad cI cT cJ _ S (-1)) (va_cwS 2 hts gL_waits_L_words rfl rfl rfl (by decide +kernel) ⟨Nat.le_of_ble_eq_true rfl, Nat.le_of_ble_eq_true rfl⟩) hK hP hD hS hA rfl hl.1 rfl (Nat.le_of_ble_eq_true rfl) dL_waits_401 ⟨Nat.le_of_ble_eq_true rfl, Nat.le_of_ble_eq_true rfl⟩ (fun H locs hP hD hS => ?_)
                      refine W.eq (g2 := F0 m 404 ls [.long (pl_wds S (-1))]) rfl ?_
                      refine lv_lload hx hb dL_waits_404 (lv_at hl 1 rfl) ?_
                      refine W.lcmp hx hb dL_waits_406 ?_
                      refine W.eq (g2 := F0 m 407 ls [.int 0]) (by rw [fk_cmp_self]) ?_
                      refine lv_if_ne (tgt := 414) hx hb dL_waits_407 (by decide) (fun c => absurd c (by decide)) (fun _ => ?_)
                      refine lv_iconst (v := 1) hx hb dL_waits_410 (by decide) ?_
                      refine lv_goto (tgt := 415) hx hb dL_waits_411 (by decide) ?_
                      exact fk_zretE (Nat.le_of_ble_eq_true rfl) (Nat.le_of_ble_eq_true rfl) hx hb hr hlocks hP hK hD hS rfl ⟨rfl, _, _, rfl, (hG).wk (by omega)⟩ dL_waits_415
                  · have hbad8 : (fk_btw mk 1 255 && fk_btw to 0 10000) = false := Bool.eq_false_iff.mpr hbad
                    have hbad9 : bv = 1 := by rw [h_bv, hbad8]; rfl
                    have hl : lv_has ls 21 [(10, .int 1), (9, .int xv), (8, .int to), (7, .int mk), (6, .int 0), (5, .int (nI a)), (4, .int (nI t)), (0, .ref (ad 0)), (1, .ref q), (2, .int y), (3, .int od)] := by rw [hbad9] at hl; exact hl
                    refine lv_iload hx hb dL_waits_234 (lv_at hl 4 rfl) ?_
                    refine lv_if_ne (tgt := 257) hx hb dL_waits_236 (by decide) (fun c => absurd c (by decide)) (fun _ => ?_)
                    refine lv_iload hx hb dL_waits_239 (lv_at hl 0 rfl) ?_
                    refine lv_if_ne (tgt := 257) hx hb dL_waits_241 (by decide) (fun _ => ?_) (fun c => absurd c (by decide))
                    refine lv_iconst (v := 0) hx hb dL_waits_257 (by decide) ?_
                    refine lv_istore (lv' := [(11, .int 0), (10, .int 1), (9, .int xv), (8, .int to), (7, .int mk), (6, .int 0), (5, .int (nI a)), (4, .int (nI t)), (0, .ref (ad 0)), (1, .ref q), (2, .int y), (3, .int od)]) hx hb dL_waits_258 hl (by decide) rfl (fun ls hl => ?_)
                    refine lv_aload_n hx hb dL_waits_260 rfl (lv_at hl 8 rfl) ?_
                    refine fk_callV (As := []) (rest := []) ⟨hx, hb, hml, hown, hts⟩ (kc_nextTimeout l D ad cI cT cJ _ S) (cwV 0 hts gL_waits_X2_nextTimeout rfl rfl rfl (by decide +kernel) ⟨Nat.le_of_ble_eq_true rfl, Nat.le_of_ble_eq_true rfl⟩) (fk_rvK hK hP) hK hP hD hS hA rfl hl.1 rfl (Nat.le_of_ble_eq_true rfl) dL_waits_261 ⟨Nat.le_of_ble_eq_true rfl, Nat.le_of_ble_eq_true rfl⟩ (fun H locs hP hD hS => ?_)
                    refine W.eq (g2 := F0 m 264 ls [.int (kk_nextR S)]) rfl ?_
                    refine lv_istore (lv' := [(12, .int (kk_nextR S)), (11, .int 0), (10, .int 1), (9, .int xv), (8, .int to), (7, .int mk), (6, .int 0), (5, .int (nI a)), (4, .int (nI t)), (0, .ref (ad 0)), (1, .ref q), (2, .int y), (3, .int od)]) hx hb dL_waits_264 hl (by decide) rfl (fun ls hl => ?_)
                    refine lv_iload hx hb dL_waits_266 (lv_at hl 6 rfl) ?_
                    refine lv_if_eq (tgt := 275) hx hb dL_waits_268 (by decide) (fun _ => ?_) (fun c => absurd c (by decide))
                    refine lv_aload_n hx hb dL_waits_275 rfl (lv_at hl 9 rfl) ?_
                    refine lv_iload hx hb dL_waits_276 (lv_at hl 8 rfl) ?_
                    refine fk_callV (As := [.int (nI t)]) (rest := []) ⟨hx, hb, hml, hown, hts⟩ (kc_resultOf l D ad cI cT cJ _ S t ht) (cwV 1 hts gL_waits_X2_resultOf rfl rfl rfl (by decide +kernel) ⟨Nat.le_of_ble_eq_true rfl, Nat.le_of_ble_eq_true rfl⟩) (fk_rvK hK hP) hK hP hD hS hA rfl hl.1 rfl (Nat.le_of_ble_eq_true rfl) dL_waits_278 ⟨Nat.le_of_ble_eq_true rfl, Nat.le_of_ble_eq_true rfl⟩ (fun H locs hP hD hS => ?_)
                    refine W.eq (g2 := F0 m 281 ls [.int (S 8 t)]) rfl ?_
                    refine lv_istore (lv' := [(13, .int (S 8 t)), (12, .int (kk_nextR S)), (11, .int 0), (10, .int 1), (9, .int xv), (8, .int to), (7, .int mk), (6, .int 0), (5, .int (nI a)), (4, .int (nI t)), (0, .ref (ad 0)), (1, .ref q), (2, .int y), (3, .int od)]) hx hb dL_waits_281 hl (by decide) rfl (fun ls hl => ?_)
                    refine lv_aload_n hx hb dL_waits_283 rfl (lv_at hl 10 rfl) ?_
                    refine lv_iconst (v := (-1)) hx hb dL_waits_284 (by decide) ?_
                    refine fk_callS (As := [.ref (ad 0), .int (-1)]) (rest := []) ⟨hx, hb, hml, hown, hts⟩ (kl_threads l D ad cI cT cJ _ S hG.1.sz hG.1.J (-1)) (va_cwS 2 hts gL_waits_L_threads rfl rfl rfl (by decide +kernel) ⟨Nat.le_of_ble_eq_true rfl, Nat.le_of_ble_eq_true rfl⟩) hK hP hD hS hA rfl hl.1 rfl (Nat.le_of_ble_eq_true rfl) dL_waits_285 ⟨Nat.le_of_ble_eq_true rfl, Nat.le_of_ble_eq_true rfl⟩ (fun H locs hP hD hS => ?_)
                    refine W.eq (g2 := F0 m 288 ls [.long (pl_thr S (-1))]) rfl ?_
                    refine lv_lstore (lv' := [(14, .long (pl_thr S (-1))), (13, .int (S 8 t)), (12, .int (kk_nextR S)), (11, .int 0), (10, .int 1), (9, .int xv), (8, .int to), (7, .int mk), (6, .int 0), (5, .int (nI a)), (4, .int (nI t)), (0, .ref (ad 0)), (1, .ref q), (2, .int y), (3, .int od)]) hx hb dL_waits_288 hl (by decide) rfl (fun ls hl => ?_)
                    refine lv_aload_n hx hb dL_waits_290 rfl (lv_at hl 11 rfl) ?_
                    refine lv_iload hx hb dL_waits_291 (lv_at hl 3 rfl) ?_
                    refine lv_if_eq (tgt := 301) hx hb dL_waits_293 (by decide) (fun _ => ?_) (fun c => absurd c (by decide))
                    refine lv_iconst (v := (-1)) hx hb dL_waits_301 (by decide) ?_
                    refine fk_callS (As := [.ref (ad 0), .int (-1)]) (rest := []) ⟨hx, hb, hml, hown, hts⟩ (kl_threads l D ad cI cT cJ _ S hG.1.sz hG.1.J (-1)) (va_cwS 2 hts gL_waits_L_threads rfl rfl rfl (by decide +kernel) ⟨Nat.le_of_ble_eq_true rfl, Nat.le_of_ble_eq_true rfl⟩) hK hP hD hS hA rfl hl.1 rfl (Nat.le_of_ble_eq_true rfl) dL_waits_302 ⟨Nat.le_of_ble_eq_true rfl, Nat.le_of_ble_eq_true rfl⟩ (fun H locs hP hD hS => ?_)
                    refine W.eq (g2 := F0 m 305 ls [.long (pl_thr S (-1))]) rfl ?_
                    refine lv_lstore (lv' := [(16, .long (pl_thr S (-1))), (14, .long (pl_thr S (-1))), (13, .int (S 8 t)), (12, .int (kk_nextR S)), (11, .int 0), (10, .int 1), (9, .int xv), (8, .int to), (7, .int mk), (6, .int 0), (5, .int (nI a)), (4, .int (nI t)), (0, .ref (ad 0)), (1, .ref q), (2, .int y), (3, .int od)]) hx hb dL_waits_305 hl (by decide) rfl (fun ls hl => ?_)
                    refine lv_aload_n hx hb dL_waits_307 rfl (lv_at hl 12 rfl) ?_
                    refine lv_iconst (v := (-1)) hx hb dL_waits_308 (by decide) ?_
                    refine fk_callS (As := [.ref (ad 0), .int (-1)]) (rest := []) ⟨hx, hb, hml, hown, hts⟩ (kl_words l D ad cI cT cJ _ S (-1)) (va_cwS 2 hts gL_waits_L_words rfl rfl rfl (by decide +kernel) ⟨Nat.le_of_ble_eq_true rfl, Nat.le_of_ble_eq_true rfl⟩) hK hP hD hS hA rfl hl.1 rfl (Nat.le_of_ble_eq_true rfl) dL_waits_309 ⟨Nat.le_of_ble_eq_true rfl, Nat.le_of_ble_eq_true rfl⟩ (fun H locs hP hD hS => ?_)
                    refine W.eq (g2 := F0 m 312 ls [.long (pl_wds S (-1))]) rfl ?_
                    refine lv_lstore (lv' := [(18, .long (pl_wds S (-1))), (16, .long (pl_thr S (-1))), (14, .long (pl_thr S (-1))), (13, .int (S 8 t)), (12, .int (kk_nextR S)), (11, .int 0), (10, .int 1), (9, .int xv), (8, .int to), (7, .int mk), (6, .int 0), (5, .int (nI a)), (4, .int (nI t)), (0, .ref (ad 0)), (1, .ref q), (2, .int y), (3, .int od)]) hx hb dL_waits_312 hl (by decide) rfl (fun ls hl => ?_)
                    refine lv_aload_n hx hb dL_waits_314 rfl (lv_at hl 13 rfl) ?_
                    refine lv_iload hx hb dL_waits_315 (lv_at hl 12 rfl) ?_
                    refine lv_iload hx hb dL_waits_317 (lv_at hl 11 rfl) ?_
                    refine lv_iload hx hb dL_waits_319 (lv_at hl 7 rfl) ?_
                    refine lv_iload hx hb dL_waits_321 (lv_at hl 9 rfl) ?_
                    refine lv_iload hx hb dL_waits_323 (lv_at hl 8 rfl) ?_
                    refine fk_lcallS (As := [.ref (ad 0), .int (nI t), .int (nI a), .int xv, .int mk, .int to]) (rest := []) ⟨hx, hb, hml, hown, hts⟩ (Lx_await_IA l D ad cI cT cJ _ S _ _ _ _ _ (xo_awaitA l D ad cI cT cJ S t a ht ha _ _ _ hst hbad8)) (vx_cwSW 6 hts gL_waits_L_await rfl rfl rfl (by decide +kernel) ⟨Nat.le_of_ble_eq_true rfl, Nat.le_of_ble_eq_true rfl⟩) hK hP hD hS hA hZ hN rfl hl.1 rfl (Nat.le_of_ble_eq_true rfl) dL_waits_325 ⟨Nat.le_of_ble_eq_true rfl, Nat.le_of_ble_eq_true rfl⟩ (fun H locs hP hD hS => ?_)
                    refine W.eq (g2 := F0 m 328 ls [.int (-2147483202)]) rfl ?_
                    refine lv_istore (lv' := [(20, .int (-2147483202)), (18, .long (pl_wds S (-1))), (16, .long (pl_thr S (-1))), (14, .long (pl_thr S (-1))), (13, .int (S 8 t)), (12, .int (kk_nextR S)), (11, .int 0), (10, .int 1), (9, .int xv), (8, .int to), (7, .int mk), (6, .int 0), (5, .int (nI a)), (4, .int (nI t)), (0, .ref (ad 0)), (1, .ref q), (2, .int y), (3, .int od)]) hx hb dL_waits_328 hl (by decide) rfl (fun ls hl => ?_)
                    refine lv_iload hx hb dL_waits_330 (lv_at hl 0 rfl) ?_
                    refine lv_iconst (v := 1) hx hb dL_waits_332 (by decide) ?_
                    refine lv_icmp_eq (tgt := 416) hx hb dL_waits_333 (by decide) (fun c => absurd c (by decide)) (fun _ => ?_)
                    refine lv_iload hx hb dL_waits_336 (lv_at hl 0 rfl) ?_
                    refine lv_iload hx hb dL_waits_338 (lv_at hl 11 rfl) ?_
                    refine lv_if_eq (tgt := 348) hx hb dL_waits_340 (by decide) (fun _ => ?_) (fun c => absurd c (by decide))
                    refine lv_iload hx hb dL_waits_348 (lv_at hl 7 rfl) ?_
                    refine lv_if_eq (tgt := 358) hx hb dL_waits_350 (by decide) (fun c => absurd c (by decide)) (fun _ => ?_)
                    refine lv_ldc (own := RL) (v := (-2147483202)) hx hb hown (hts (.constant RL 20 (-2147483202)) (List.mem_of_getElem? (i := 2) rfl)) dL_waits_353 ?_
                    refine lv_goto (tgt := 369) hx hb dL_waits_355 (by decide) ?_
                    refine lv_icmp_ne (tgt := 414) hx hb dL_waits_369 (by decide) (fun c => absurd c (by decide)) (fun _ => ?_)
                    refine lv_iload hx hb dL_waits_372 (lv_at hl 6 rfl) ?_
                    refine lv_if_eq (tgt := 388) hx hb dL_waits_374 (by decide) (fun _ => ?_) (fun c => absurd c (by decide))
                    refine lv_aload_n hx hb dL_waits_388 rfl (lv_at hl 14 rfl) ?_
                    refine lv_iconst (v := (-1)) hx hb dL_waits_389 (by decide) ?_
                    refine fk_callS (As := [.ref (ad 0), .int (-1)]) (rest := []) ⟨hx, hb, hml, hown, hts⟩ (kl_threads l D ad cI cT cJ _ S hG.1.sz hG.1.J (-1)) (va_cwS 2 hts gL_waits_L_threads rfl rfl rfl (by decide +kernel) ⟨Nat.le_of_ble_eq_true rfl, Nat.le_of_ble_eq_true rfl⟩) hK hP hD hS hA rfl hl.1 rfl (Nat.le_of_ble_eq_true rfl) dL_waits_390 ⟨Nat.le_of_ble_eq_true rfl, Nat.le_of_ble_eq_true rfl⟩ (fun H locs hP hD hS => ?_)
                    refine W.eq (g2 := F0 m 393 ls [.long (pl_thr S (-1))]) rfl ?_
                    refine lv_lload hx hb dL_waits_393 (lv_at hl 3 rfl) ?_
                    refine W.lcmp hx hb dL_waits_395 ?_
                    refine W.eq (g2 := F0 m 396 ls [.int 0]) (by rw [fk_cmp_self]) ?_
                    refine lv_if_ne (tgt := 414) hx hb dL_waits_396 (by decide) (fun c => absurd c (by decide)) (fun _ => ?_)
                    refine lv_aload_n hx hb dL_waits_399 rfl (lv_at hl 14 rfl) ?_
                    refine lv_iconst (v := (-1)) hx hb dL_waits_400 (by decide) ?_
                    refine fk_callS (As := [.ref (ad 0), .int (-1)]) (rest := []) ⟨hx, hb, hml, hown, hts⟩ (kl_words l D ad cI cT cJ _ S (-1)) (va_cwS 2 hts gL_waits_L_words rfl rfl rfl (by decide +kernel) ⟨Nat.le_of_ble_eq_true rfl, Nat.le_of_ble_eq_true rfl⟩) hK hP hD hS hA rfl hl.1 rfl (Nat.le_of_ble_eq_true rfl) dL_waits_401 ⟨Nat.le_of_ble_eq_true rfl, Nat.le_of_ble_eq_true rfl⟩ (fun H locs hP hD hS => ?_)
                    refine W.eq (g2 := F0 m 404 ls [.long (pl_wds S (-1))]) rfl ?_
                    refine lv_lload hx hb dL_waits_404 (lv_at hl 1 rfl) ?_
                    refine W.lcmp hx hb dL_waits_406 ?_
                    refine W.eq (g2 := F0 m 407 ls [.int 0]) (by rw [fk_cmp_self]) ?_
                    refine lv_if_ne (tgt := 414) hx hb dL_waits_407 (by decide) (fun c => absurd c (by decide)) (fun _ => ?_)
                    refine lv_iconst (v := 1) hx hb dL_waits_410 (by decide) ?_
                    refine lv_goto (tgt := 415) hx hb dL_waits_411 (by decide) ?_
                    exact fk_zretE (Nat.le_of_ble_eq_true rfl) (Nat.le_of_ble_eq_true rfl) hx hb hr hlocks hP hK hD hS rfl ⟨rfl, _, _, rfl, (hG).wk (by omega)⟩ dL_waits_415
                refine lv_iload hx hb dL_waits_200 (lv_at hl 2 rfl) ?_
                refine lv_iconst (v := 1) hx hb dL_waits_202 (by decide) ?_
                refine lv_icmp_lt (tgt := 227) hx hb dL_waits_203 (by decide) (fun c_58 => ?_) (fun c_58 => ?_)
                · refine lv_iconst (v := 1) hx hb dL_waits_227 (by decide) ?_
                  refine lv_goto (tgt := 232) hx hb dL_waits_228 (by decide) ?_
                  exact jn232 1 (by first | (rw [fk_wA (v := mk) (lo := 1) (hi := 255) (by assumption)]; rfl) | (rw [fk_wA (v := to) (lo := 0) (hi := 10000) (by assumption), Bool.and_false]; rfl) | (rw [fk_wB (v := mk) (lo := 1) (hi := 255) (by assumption)]; rfl) | (rw [fk_wB (v := to) (lo := 0) (hi := 10000) (by assumption), Bool.and_false]; rfl) | (rw [fk_wC (v := mk) (lo := 1) (hi := 255) (by assumption)]; rfl) | (rw [fk_wC (v := to) (lo := 0) (hi := 10000) (by assumption), Bool.and_false]; rfl) | (rw [fk_wE (v := mk) (lo := 1) (hi := 255) (by assumption) (by assumption), fk_wE (v := to) (lo := 0) (hi := 10000) (by assumption) (by assumption)]; rfl) | (rw [fk_wE (v := mk) (lo := 1) (hi := 255) (by assumption) (by assumption), fk_wF (v := to) (lo := 0) (hi := 10000) (by assumption) (by assumption)]; rfl) | (rw [fk_wF (v := mk) (lo := 1) (hi := 255) (by assumption) (by assumption), fk_wE (v := to) (lo := 0) (hi := 10000) (by assumption) (by assumption)]; rfl) | (rw [fk_wF (v := mk) (lo := 1) (hi := 255) (by assumption) (by assumption), fk_wF (v := to) (lo := 0) (hi := 10000) (by assumption) (by assumption)]; rfl)) _ _ _ hP hD hS hl
                · refine lv_iload hx hb dL_waits_206 (lv_at hl 2 rfl) ?_
                  refine lv_sipush (v := 255) hx hb dL_waits_208 (by decide) ?_
                  refine lv_icmp_gt (tgt := 227) hx hb dL_waits_211 (by decide) (fun c_59 => ?_) (fun c_59 => ?_)
                  · refine lv_iconst (v := 1) hx hb dL_waits_227 (by decide) ?_
                    refine lv_goto (tgt := 232) hx hb dL_waits_228 (by decide) ?_
                    exact jn232 1 (by first | (rw [fk_wA (v := mk) (lo := 1) (hi := 255) (by assumption)]; rfl) | (rw [fk_wA (v := to) (lo := 0) (hi := 10000) (by assumption), Bool.and_false]; rfl) | (rw [fk_wB (v := mk) (lo := 1) (hi := 255) (by assumption)]; rfl) | (rw [fk_wB (v := to) (lo := 0) (hi := 10000) (by assumption), Bool.and_false]; rfl) | (rw [fk_wC (v := mk) (lo := 1) (hi := 255) (by assumption)]; rfl) | (rw [fk_wC (v := to) (lo := 0) (hi := 10000) (by assumption), Bool.and_false]; rfl) | (rw [fk_wE (v := mk) (lo := 1) (hi := 255) (by assumption) (by assumption), fk_wE (v := to) (lo := 0) (hi := 10000) (by assumption) (by assumption)]; rfl) | (rw [fk_wE (v := mk) (lo := 1) (hi := 255) (by assumption) (by assumption), fk_wF (v := to) (lo := 0) (hi := 10000) (by assumption) (by assumption)]; rfl) | (rw [fk_wF (v := mk) (lo := 1) (hi := 255) (by assumption) (by assumption), fk_wE (v := to) (lo := 0) (hi := 10000) (by assumption) (by assumption)]; rfl) | (rw [fk_wF (v := mk) (lo := 1) (hi := 255) (by assumption) (by assumption), fk_wF (v := to) (lo := 0) (hi := 10000) (by assumption) (by assumption)]; rfl)) _ _ _ hP hD hS hl
                  · refine lv_iload hx hb dL_waits_214 (lv_at hl 1 rfl) ?_
                    refine lv_if_lt (tgt := 227) hx hb dL_waits_216 (by decide) (fun c_60 => ?_) (fun c_60 => ?_)
                    · refine lv_iconst (v := 1) hx hb dL_waits_227 (by decide) ?_
                      refine lv_goto (tgt := 232) hx hb dL_waits_228 (by decide) ?_
                      exact jn232 1 (by first | (rw [fk_wA (v := mk) (lo := 1) (hi := 255) (by assumption)]; rfl) | (rw [fk_wA (v := to) (lo := 0) (hi := 10000) (by assumption), Bool.and_false]; rfl) | (rw [fk_wB (v := mk) (lo := 1) (hi := 255) (by assumption)]; rfl) | (rw [fk_wB (v := to) (lo := 0) (hi := 10000) (by assumption), Bool.and_false]; rfl) | (rw [fk_wC (v := mk) (lo := 1) (hi := 255) (by assumption)]; rfl) | (rw [fk_wC (v := to) (lo := 0) (hi := 10000) (by assumption), Bool.and_false]; rfl) | (rw [fk_wE (v := mk) (lo := 1) (hi := 255) (by assumption) (by assumption), fk_wE (v := to) (lo := 0) (hi := 10000) (by assumption) (by assumption)]; rfl) | (rw [fk_wE (v := mk) (lo := 1) (hi := 255) (by assumption) (by assumption), fk_wF (v := to) (lo := 0) (hi := 10000) (by assumption) (by assumption)]; rfl) | (rw [fk_wF (v := mk) (lo := 1) (hi := 255) (by assumption) (by assumption), fk_wE (v := to) (lo := 0) (hi := 10000) (by assumption) (by assumption)]; rfl) | (rw [fk_wF (v := mk) (lo := 1) (hi := 255) (by assumption) (by assumption), fk_wF (v := to) (lo := 0) (hi := 10000) (by assumption) (by assumption)]; rfl)) _ _ _ hP hD hS hl
                    · refine lv_iload hx hb dL_waits_219 (lv_at hl 1 rfl) ?_
                      refine lv_sipush (v := 10000) hx hb dL_waits_221 (by decide) ?_
                      refine lv_icmp_le (tgt := 231) hx hb dL_waits_224 (by decide) (fun c_61 => ?_) (fun c_61 => ?_)
                      · refine lv_iconst (v := 0) hx hb dL_waits_231 (by decide) ?_
                        exact jn232 0 (by first | (rw [fk_wA (v := mk) (lo := 1) (hi := 255) (by assumption)]; rfl) | (rw [fk_wA (v := to) (lo := 0) (hi := 10000) (by assumption), Bool.and_false]; rfl) | (rw [fk_wB (v := mk) (lo := 1) (hi := 255) (by assumption)]; rfl) | (rw [fk_wB (v := to) (lo := 0) (hi := 10000) (by assumption), Bool.and_false]; rfl) | (rw [fk_wC (v := mk) (lo := 1) (hi := 255) (by assumption)]; rfl) | (rw [fk_wC (v := to) (lo := 0) (hi := 10000) (by assumption), Bool.and_false]; rfl) | (rw [fk_wE (v := mk) (lo := 1) (hi := 255) (by assumption) (by assumption), fk_wE (v := to) (lo := 0) (hi := 10000) (by assumption) (by assumption)]; rfl) | (rw [fk_wE (v := mk) (lo := 1) (hi := 255) (by assumption) (by assumption), fk_wF (v := to) (lo := 0) (hi := 10000) (by assumption) (by assumption)]; rfl) | (rw [fk_wF (v := mk) (lo := 1) (hi := 255) (by assumption) (by assumption), fk_wE (v := to) (lo := 0) (hi := 10000) (by assumption) (by assumption)]; rfl) | (rw [fk_wF (v := mk) (lo := 1) (hi := 255) (by assumption) (by assumption), fk_wF (v := to) (lo := 0) (hi := 10000) (by assumption) (by assumption)]; rfl)) _ _ _ hP hD hS hl
                      · refine lv_iconst (v := 1) hx hb dL_waits_227 (by decide) ?_
                        refine lv_goto (tgt := 232) hx hb dL_waits_228 (by decide) ?_
                        exact jn232 1 (by first | (rw [fk_wA (v := mk) (lo := 1) (hi := 255) (by assumption)]; rfl) | (rw [fk_wA (v := to) (lo := 0) (hi := 10000) (by assumption), Bool.and_false]; rfl) | (rw [fk_wB (v := mk) (lo := 1) (hi := 255) (by assumption)]; rfl) | (rw [fk_wB (v := to) (lo := 0) (hi := 10000) (by assumption), Bool.and_false]; rfl) | (rw [fk_wC (v := mk) (lo := 1) (hi := 255) (by assumption)]; rfl) | (rw [fk_wC (v := to) (lo := 0) (hi := 10000) (by assumption), Bool.and_false]; rfl) | (rw [fk_wE (v := mk) (lo := 1) (hi := 255) (by assumption) (by assumption), fk_wE (v := to) (lo := 0) (hi := 10000) (by assumption) (by assumption)]; rfl) | (rw [fk_wE (v := mk) (lo := 1) (hi := 255) (by assumption) (by assumption), fk_wF (v := to) (lo := 0) (hi := 10000) (by assumption) (by assumption)]; rfl) | (rw [fk_wF (v := mk) (lo := 1) (hi := 255) (by assumption) (by assumption), fk_wE (v := to) (lo := 0) (hi := 10000) (by assumption) (by assumption)]; rfl) | (rw [fk_wF (v := mk) (lo := 1) (hi := 255) (by assumption) (by assumption), fk_wF (v := to) (lo := 0) (hi := 10000) (by assumption) (by assumption)]; rfl)) _ _ _ hP hD hS hl
              refine lv_iload hx hb dL_waits_166 (lv_at hl 2 rfl) ?_
              refine lv_if_eq (tgt := 175) hx hb dL_waits_168 (by decide) (fun _ => ?_) (fun c => absurd c (by decide))
              refine lv_aload_n hx hb dL_waits_175 rfl (lv_at hl 5 rfl) ?_
              refine lv_iload hx hb dL_waits_176 (lv_at hl 3 rfl) ?_
              refine fk_callV (As := [.int (nI a)]) (rest := []) ⟨hx, hb, hml, hown, hts⟩ (kc_word l D ad cI cT cJ _ S a ha) (cwV 1 hts gL_waits_X2_word rfl rfl rfl (by decide +kernel) ⟨Nat.le_of_ble_eq_true rfl, Nat.le_of_ble_eq_true rfl⟩) (fk_rvK hK hP) hK hP hD hS hA rfl hl.1 rfl (Nat.le_of_ble_eq_true rfl) dL_waits_178 ⟨Nat.le_of_ble_eq_true rfl, Nat.le_of_ble_eq_true rfl⟩ (fun H locs hP hD hS => ?_)
              refine W.eq (g2 := F0 m 181 ls [.int (S 0 a)]) rfl ?_
              refine lv_iload_n hx hb dL_waits_181 rfl (lv_at hl 7 rfl) ?_
              refine lv_bipush (v := 16) hx hb dL_waits_182 (by decide) ?_
              refine lv_ishr hx hb dL_waits_184 ?_
              refine lv_iconst (v := 5) hx hb dL_waits_185 (by decide) ?_
              refine fk_callS (As := [.int (y >>> (16 &&& 31)), .int 5]) (rest := [.int (S 0 a)]) ⟨hx, hb, hml, hown, hts⟩ (kl_some l D ad cI cT cJ _ S (y >>> (16 &&& 31)) 5 (by decide)) (va_cwS 2 hts gL_waits_L_some rfl rfl rfl (by decide +kernel) ⟨Nat.le_of_ble_eq_true rfl, Nat.le_of_ble_eq_true rfl⟩) hK hP hD hS hA rfl hl.1 rfl (Nat.le_of_ble_eq_true rfl) dL_waits_186 ⟨Nat.le_of_ble_eq_true rfl, Nat.le_of_ble_eq_true rfl⟩ (fun H locs hP hD hS => ?_)
              refine W.eq (g2 := F0 m 189 ls [.int (pl_some (y >>> (16 &&& 31)) 5), .int (S 0 a)]) rfl ?_
              refine lv_if_ne (tgt := 196) hx hb dL_waits_189 (by decide) (fun c_63 => ?_) (fun c_63 => ?_)
              · refine lv_iconst (v := 0) hx hb dL_waits_196 (by decide) ?_
                refine lv_iadd hx hb dL_waits_197 ?_
                exact jn198 ((S 0 a) + 0) _ _ _ hP hD hS hl
              · refine lv_iconst (v := 1) hx hb dL_waits_192 (by decide) ?_
                refine lv_goto (tgt := 197) hx hb dL_waits_193 (by decide) ?_
                refine lv_iadd hx hb dL_waits_197 ?_
                exact jn198 ((S 0 a) + 1) _ _ _ hP hD hS hl
            refine lv_iload_n hx hb dL_waits_119 rfl (lv_at hl 7 rfl) ?_
            refine lv_if_eq (tgt := 138) hx hb dL_waits_120 (by decide) (fun c_64 => ?_) (fun c_64 => ?_)
            · refine lv_iload_n hx hb dL_waits_138 rfl (lv_at hl 6 rfl) ?_
              refine lv_bipush (v := 12) hx hb dL_waits_139 (by decide) ?_
              refine lv_ishr hx hb dL_waits_141 ?_
              refine lv_iconst (v := 3) hx hb dL_waits_142 (by decide) ?_
              refine fk_callS (As := [.int (y >>> (12 &&& 31)), .int 3]) (rest := []) ⟨hx, hb, hml, hown, hts⟩ (kl_some l D ad cI cT cJ _ S (y >>> (12 &&& 31)) 3 (by decide)) (va_cwS 2 hts gL_waits_L_some rfl rfl rfl (by decide +kernel) ⟨Nat.le_of_ble_eq_true rfl, Nat.le_of_ble_eq_true rfl⟩) hK hP hD hS hA rfl hl.1 rfl (Nat.le_of_ble_eq_true rfl) dL_waits_143 ⟨Nat.le_of_ble_eq_true rfl, Nat.le_of_ble_eq_true rfl⟩ (fun H locs hP hD hS => ?_)
              refine W.eq (g2 := F0 m 146 ls [.int (pl_some (y >>> (12 &&& 31)) 3)]) rfl ?_
              refine lv_if_ne (tgt := 153) hx hb dL_waits_146 (by decide) (fun c_65 => ?_) (fun c_65 => ?_)
              · refine lv_iconst (v := 1) hx hb dL_waits_153 (by decide) ?_
                refine lv_iload_n hx hb dL_waits_154 rfl (lv_at hl 6 rfl) ?_
                refine lv_bipush (v := 14) hx hb dL_waits_155 (by decide) ?_
                refine lv_ishr hx hb dL_waits_157 ?_
                refine lv_bipush (v := 20) hx hb dL_waits_158 (by decide) ?_
                refine fk_callS (As := [.int (y >>> (14 &&& 31)), .int 20]) (rest := [.int 1]) ⟨hx, hb, hml, hown, hts⟩ (kl_some l D ad cI cT cJ _ S (y >>> (14 &&& 31)) 20 (by decide)) (va_cwS 2 hts gL_waits_L_some rfl rfl rfl (by decide +kernel) ⟨Nat.le_of_ble_eq_true rfl, Nat.le_of_ble_eq_true rfl⟩) hK hP hD hS hA rfl hl.1 rfl (Nat.le_of_ble_eq_true rfl) dL_waits_160 ⟨Nat.le_of_ble_eq_true rfl, Nat.le_of_ble_eq_true rfl⟩ (fun H locs hP hD hS => ?_)
                refine W.eq (g2 := F0 m 163 ls [.int (pl_some (y >>> (14 &&& 31)) 20), .int 1]) rfl ?_
                refine lv_iadd hx hb dL_waits_163 ?_
                exact jn164 ((1 : Int32) + (pl_some (y >>> (14 &&& 31)) 20)) _ _ _ hP hD hS hl
              · refine lv_iconst (v := 0) hx hb dL_waits_149 (by decide) ?_
                refine lv_goto (tgt := 164) hx hb dL_waits_150 (by decide) ?_
                exact jn164 0 _ _ _ hP hD hS hl
            · refine lv_iload_n hx hb dL_waits_123 rfl (lv_at hl 6 rfl) ?_
              refine lv_bipush (v := 12) hx hb dL_waits_124 (by decide) ?_
              refine lv_ishr hx hb dL_waits_126 ?_
              refine lv_sipush (v := 10010) hx hb dL_waits_127 (by decide) ?_
              refine fk_callS (As := [.int (y >>> (12 &&& 31)), .int 10010]) (rest := []) ⟨hx, hb, hml, hown, hts⟩ (kl_some l D ad cI cT cJ _ S (y >>> (12 &&& 31)) 10010 (by decide)) (va_cwS 2 hts gL_waits_L_some rfl rfl rfl (by decide +kernel) ⟨Nat.le_of_ble_eq_true rfl, Nat.le_of_ble_eq_true rfl⟩) hK hP hD hS hA rfl hl.1 rfl (Nat.le_of_ble_eq_true rfl) dL_waits_130 ⟨Nat.le_of_ble_eq_true rfl, Nat.le_of_ble_eq_true rfl⟩ (fun H locs hP hD hS => ?_)
              refine W.eq (g2 := F0 m 133 ls [.int (pl_some (y >>> (12 &&& 31)) 10010)]) rfl ?_
              refine lv_iconst (v := 5) hx hb dL_waits_133 (by decide) ?_
              refine lv_isub hx hb dL_waits_134 ?_
              refine lv_goto (tgt := 164) hx hb dL_waits_135 (by decide) ?_
              exact jn164 ((pl_some (y >>> (12 &&& 31)) 10010) - 5) _ _ _ hP hD hS hl
          refine lv_iload_n hx hb dL_waits_86 rfl (lv_at hl 6 rfl) ?_
          refine lv_if_eq (tgt := 105) hx hb dL_waits_87 (by decide) (fun c_66 => ?_) (fun c_66 => ?_)
          · refine lv_iconst (v := 1) hx hb dL_waits_105 (by decide) ?_
            refine lv_iload_n hx hb dL_waits_106 rfl (lv_at hl 5 rfl) ?_
            refine lv_bipush (v := 9) hx hb dL_waits_107 (by decide) ?_
            refine lv_ishr hx hb dL_waits_109 ?_
            refine lv_sipush (v := 255) hx hb dL_waits_110 (by decide) ?_
            refine fk_callS (As := [.int (y >>> (9 &&& 31)), .int 255]) (rest := [.int 1]) ⟨hx, hb, hml, hown, hts⟩ (kl_some l D ad cI cT cJ _ S (y >>> (9 &&& 31)) 255 (by decide)) (va_cwS 2 hts gL_waits_L_some rfl rfl rfl (by decide +kernel) ⟨Nat.le_of_ble_eq_true rfl, Nat.le_of_ble_eq_true rfl⟩) hK hP hD hS hA rfl hl.1 rfl (Nat.le_of_ble_eq_true rfl) dL_waits_113 ⟨Nat.le_of_ble_eq_true rfl, Nat.le_of_ble_eq_true rfl⟩ (fun H locs hP hD hS => ?_)
            refine W.eq (g2 := F0 m 116 ls [.int (pl_some (y >>> (9 &&& 31)) 255), .int 1]) rfl ?_
            refine lv_iadd hx hb dL_waits_116 ?_
            exact jn117 ((1 : Int32) + (pl_some (y >>> (9 &&& 31)) 255)) _ _ _ hP hD hS hl
          · refine lv_iload_n hx hb dL_waits_90 rfl (lv_at hl 5 rfl) ?_
            refine lv_bipush (v := 9) hx hb dL_waits_91 (by decide) ?_
            refine lv_ishr hx hb dL_waits_93 ?_
            refine lv_sipush (v := 260) hx hb dL_waits_94 (by decide) ?_
            refine fk_callS (As := [.int (y >>> (9 &&& 31)), .int 260]) (rest := []) ⟨hx, hb, hml, hown, hts⟩ (kl_some l D ad cI cT cJ _ S (y >>> (9 &&& 31)) 260 (by decide)) (va_cwS 2 hts gL_waits_L_some rfl rfl rfl (by decide +kernel) ⟨Nat.le_of_ble_eq_true rfl, Nat.le_of_ble_eq_true rfl⟩) hK hP hD hS hA rfl hl.1 rfl (Nat.le_of_ble_eq_true rfl) dL_waits_97 ⟨Nat.le_of_ble_eq_true rfl, Nat.le_of_ble_eq_true rfl⟩ (fun H locs hP hD hS => ?_)
            refine W.eq (g2 := F0 m 100 ls [.int (pl_some (y >>> (9 &&& 31)) 260)]) rfl ?_
            refine lv_iconst (v := 2) hx hb dL_waits_100 (by decide) ?_
            refine lv_isub hx hb dL_waits_101 ?_
            refine lv_goto (tgt := 117) hx hb dL_waits_102 (by decide) ?_
            exact jn117 ((pl_some (y >>> (9 &&& 31)) 260) - 2) _ _ _ hP hD hS hl
        · have hov : ov = 1 := by rw [h_ov, Bool.eq_false_iff.mpr hout]; rfl
          have hout9 : (fk_isT th && fk_isA av) = false := Bool.eq_false_iff.mpr hout
          have hl : lv_has ls 21 [(6, .int 1), (5, .int av), (4, .int th), (0, .ref (ad 0)), (1, .ref q), (2, .int y), (3, .int od)] := by rw [hov] at hl; exact hl
          have jn117 : ∀ (mk : Int32), ∀ (H : Heap) (locs : List Loc) (ls : Array Slot), va_P D vwCl (fk_kW ad cI cT S ++ (q, fk_pr cI P) :: X) H → va_D A (fk_kW ad cI cT S ++ (q, fk_pr cI P) :: X) → va_S A s.heap H locs → lv_has ls 21 [(6, .int 1), (5, .int av), (4, .int th), (0, .ref (ad 0)), (1, .ref q), (2, .int y), (3, .int od)] → W p l e rm_E s m ([.ref (ad 0), .ref q, .int y, .int od] : List Value).toArray below meth c H locs 0 0 (MQ below (fk_QE D (fk_ty cI cT cJ) A (kq_Phi ad cI cT q X (n + 20))) ([.ref (ad 0), .ref q, .int y, .int od] : List Value).toArray s 2 12 A) (F0 m 117 ls [.int mk]) := by
            intro mk H locs ls hP hD hS hl
            refine lv_istore (lv' := [(7, .int mk), (6, .int 1), (5, .int av), (4, .int th), (0, .ref (ad 0)), (1, .ref q), (2, .int y), (3, .int od)]) hx hb dL_waits_117 hl (by decide) rfl (fun ls hl => ?_)
            have jn164 : ∀ (to : Int32), ∀ (H : Heap) (locs : List Loc) (ls : Array Slot), va_P D vwCl (fk_kW ad cI cT S ++ (q, fk_pr cI P) :: X) H → va_D A (fk_kW ad cI cT S ++ (q, fk_pr cI P) :: X) → va_S A s.heap H locs → lv_has ls 21 [(7, .int mk), (6, .int 1), (5, .int av), (4, .int th), (0, .ref (ad 0)), (1, .ref q), (2, .int y), (3, .int od)] → W p l e rm_E s m ([.ref (ad 0), .ref q, .int y, .int od] : List Value).toArray below meth c H locs 0 0 (MQ below (fk_QE D (fk_ty cI cT cJ) A (kq_Phi ad cI cT q X (n + 20))) ([.ref (ad 0), .ref q, .int y, .int od] : List Value).toArray s 2 12 A) (F0 m 164 ls [.int to]) := by
              intro to H locs ls hP hD hS hl
              refine lv_istore (lv' := [(8, .int to), (7, .int mk), (6, .int 1), (5, .int av), (4, .int th), (0, .ref (ad 0)), (1, .ref q), (2, .int y), (3, .int od)]) hx hb dL_waits_164 hl (by decide) rfl (fun ls hl => ?_)
              have jn198 : ∀ (xv : Int32), ∀ (H : Heap) (locs : List Loc) (ls : Array Slot), va_P D vwCl (fk_kW ad cI cT S ++ (q, fk_pr cI P) :: X) H → va_D A (fk_kW ad cI cT S ++ (q, fk_pr cI P) :: X) → va_S A s.heap H locs → lv_has ls 21 [(8, .int to), (7, .int mk), (6, .int 1), (5, .int av), (4, .int th), (0, .ref (ad 0)), (1, .ref q), (2, .int y), (3, .int od)] → W p l e rm_E s m ([.ref (ad 0), .ref q, .int y, .int od] : List Value).toArray below meth c H locs 0 0 (MQ below (fk_QE D (fk_ty cI cT cJ) A (kq_Phi ad cI cT q X (n + 20))) ([.ref (ad 0), .ref q, .int y, .int od] : List Value).toArray s 2 12 A) (F0 m 198 ls [.int xv]) := by
                intro xv H locs ls hP hD hS hl
                refine lv_istore (lv' := [(9, .int xv), (8, .int to), (7, .int mk), (6, .int 1), (5, .int av), (4, .int th), (0, .ref (ad 0)), (1, .ref q), (2, .int y), (3, .int od)]) hx hb dL_waits_198 hl (by decide) rfl (fun ls hl => ?_)
                have jn232 : ∀ (bv : Int32), bv = fk_b (!(fk_btw mk 1 255 && fk_btw to 0 10000)) → ∀ (H : Heap) (locs : List Loc) (ls : Array Slot), va_P D vwCl (fk_kW ad cI cT S ++ (q, fk_pr cI P) :: X) H → va_D A (fk_kW ad cI cT S ++ (q, fk_pr cI P) :: X) → va_S A s.heap H locs → lv_has ls 21 [(9, .int xv), (8, .int to), (7, .int mk), (6, .int 1), (5, .int av), (4, .int th), (0, .ref (ad 0)), (1, .ref q), (2, .int y), (3, .int od)] → W p l e rm_E s m ([.ref (ad 0), .ref q, .int y, .int od] : List Value).toArray below meth c H locs 0 0 (MQ below (fk_QE D (fk_ty cI cT cJ) A (kq_Phi ad cI cT q X (n + 20))) ([.ref (ad 0), .ref q, .int y, .int od] : List Value).toArray s 2 12 A) (F0 m 232 ls [.int bv]) := by
                  intro bv h_bv H locs ls hP hD hS hl
                  refine lv_istore (lv' := [(10, .int bv), (9, .int xv), (8, .int to), (7, .int mk), (6, .int 1), (5, .int av), (4, .int th), (0, .ref (ad 0)), (1, .ref q), (2, .int y), (3, .int od)]) hx hb dL_waits_232 hl (by decide) rfl (fun ls hl => ?_)
                  refine lv_iload hx hb dL_waits_234 (lv_at hl 4 rfl) ?_
                  refine lv_if_ne (tgt := 257) hx hb dL_waits_236 (by decide) (fun _ => ?_) (fun c => absurd c (by decide))
                  refine lv_iconst (v := 0) hx hb dL_waits_257 (by decide) ?_
                  refine lv_istore (lv' := [(11, .int 0), (10, .int bv), (9, .int xv), (8, .int to), (7, .int mk), (6, .int 1), (5, .int av), (4, .int th), (0, .ref (ad 0)), (1, .ref q), (2, .int y), (3, .int od)]) hx hb dL_waits_258 hl (by decide) rfl (fun ls hl => ?_)
                  refine lv_aload_n hx hb dL_waits_260 rfl (lv_at hl 8 rfl) ?_
                  refine fk_callV (As := []) (rest := []) ⟨hx, hb, hml, hown, hts⟩ (kc_nextTimeout l D ad cI cT cJ _ S) (cwV 0 hts gL_waits_X2_nextTimeout rfl rfl rfl (by decide +kernel) ⟨Nat.le_of_ble_eq_true rfl, Nat.le_of_ble_eq_true rfl⟩) (fk_rvK hK hP) hK hP hD hS hA rfl hl.1 rfl (Nat.le_of_ble_eq_true rfl) dL_waits_261 ⟨Nat.le_of_ble_eq_true rfl, Nat.le_of_ble_eq_true rfl⟩ (fun H locs hP hD hS => ?_)
                  refine W.eq (g2 := F0 m 264 ls [.int (kk_nextR S)]) rfl ?_
                  refine lv_istore (lv' := [(12, .int (kk_nextR S)), (11, .int 0), (10, .int bv), (9, .int xv), (8, .int to), (7, .int mk), (6, .int 1), (5, .int av), (4, .int th), (0, .ref (ad 0)), (1, .ref q), (2, .int y), (3, .int od)]) hx hb dL_waits_264 hl (by decide) rfl (fun ls hl => ?_)
                  refine lv_iload hx hb dL_waits_266 (lv_at hl 6 rfl) ?_
                  refine lv_if_eq (tgt := 275) hx hb dL_waits_268 (by decide) (fun c => absurd c (by decide)) (fun _ => ?_)
                  refine lv_iconst (v := 0) hx hb dL_waits_271 (by decide) ?_
                  refine lv_goto (tgt := 281) hx hb dL_waits_272 (by decide) ?_
                  refine lv_istore (lv' := [(13, .int 0), (12, .int (kk_nextR S)), (11, .int 0), (10, .int bv), (9, .int xv), (8, .int to), (7, .int mk), (6, .int 1), (5, .int av), (4, .int th), (0, .ref (ad 0)), (1, .ref q), (2, .int y), (3, .int od)]) hx hb dL_waits_281 hl (by decide) rfl (fun ls hl => ?_)
                  refine lv_aload_n hx hb dL_waits_283 rfl (lv_at hl 10 rfl) ?_
                  refine lv_iconst (v := (-1)) hx hb dL_waits_284 (by decide) ?_
                  refine fk_callS (As := [.ref (ad 0), .int (-1)]) (rest := []) ⟨hx, hb, hml, hown, hts⟩ (kl_threads l D ad cI cT cJ _ S hG.1.sz hG.1.J (-1)) (va_cwS 2 hts gL_waits_L_threads rfl rfl rfl (by decide +kernel) ⟨Nat.le_of_ble_eq_true rfl, Nat.le_of_ble_eq_true rfl⟩) hK hP hD hS hA rfl hl.1 rfl (Nat.le_of_ble_eq_true rfl) dL_waits_285 ⟨Nat.le_of_ble_eq_true rfl, Nat.le_of_ble_eq_true rfl⟩ (fun H locs hP hD hS => ?_)
                  refine W.eq (g2 := F0 m 288 ls [.long (pl_thr S (-1))]) rfl ?_
                  refine lv_lstore (lv' := [(14, .long (pl_thr S (-1))), (13, .int 0), (12, .int (kk_nextR S)), (11, .int 0), (10, .int bv), (9, .int xv), (8, .int to), (7, .int mk), (6, .int 1), (5, .int av), (4, .int th), (0, .ref (ad 0)), (1, .ref q), (2, .int y), (3, .int od)]) hx hb dL_waits_288 hl (by decide) rfl (fun ls hl => ?_)
                  refine lv_aload_n hx hb dL_waits_290 rfl (lv_at hl 11 rfl) ?_
                  refine lv_iload hx hb dL_waits_291 (lv_at hl 3 rfl) ?_
                  refine lv_if_eq (tgt := 301) hx hb dL_waits_293 (by decide) (fun _ => ?_) (fun c => absurd c (by decide))
                  refine lv_iconst (v := (-1)) hx hb dL_waits_301 (by decide) ?_
                  refine fk_callS (As := [.ref (ad 0), .int (-1)]) (rest := []) ⟨hx, hb, hml, hown, hts⟩ (kl_threads l D ad cI cT cJ _ S hG.1.sz hG.1.J (-1)) (va_cwS 2 hts gL_waits_L_threads rfl rfl rfl (by decide +kernel) ⟨Nat.le_of_ble_eq_true rfl, Nat.le_of_ble_eq_true rfl⟩) hK hP hD hS hA rfl hl.1 rfl (Nat.le_of_ble_eq_true rfl) dL_waits_302 ⟨Nat.le_of_ble_eq_true rfl, Nat.le_of_ble_eq_true rfl⟩ (fun H locs hP hD hS => ?_)
                  refine W.eq (g2 := F0 m 305 ls [.long (pl_thr S (-1))]) rfl ?_
                  refine lv_lstore (lv' := [(16, .long (pl_thr S (-1))), (14, .long (pl_thr S (-1))), (13, .int 0), (12, .int (kk_nextR S)), (11, .int 0), (10, .int bv), (9, .int xv), (8, .int to), (7, .int mk), (6, .int 1), (5, .int av), (4, .int th), (0, .ref (ad 0)), (1, .ref q), (2, .int y), (3, .int od)]) hx hb dL_waits_305 hl (by decide) rfl (fun ls hl => ?_)
                  refine lv_aload_n hx hb dL_waits_307 rfl (lv_at hl 12 rfl) ?_
                  refine lv_iconst (v := (-1)) hx hb dL_waits_308 (by decide) ?_
                  refine fk_callS (As := [.ref (ad 0), .int (-1)]) (rest := []) ⟨hx, hb, hml, hown, hts⟩ (kl_words l D ad cI cT cJ _ S (-1)) (va_cwS 2 hts gL_waits_L_words rfl rfl rfl (by decide +kernel) ⟨Nat.le_of_ble_eq_true rfl, Nat.le_of_ble_eq_true rfl⟩) hK hP hD hS hA rfl hl.1 rfl (Nat.le_of_ble_eq_true rfl) dL_waits_309 ⟨Nat.le_of_ble_eq_true rfl, Nat.le_of_ble_eq_true rfl⟩ (fun H locs hP hD hS => ?_)
                  refine W.eq (g2 := F0 m 312 ls [.long (pl_wds S (-1))]) rfl ?_
                  refine lv_lstore (lv' := [(18, .long (pl_wds S (-1))), (16, .long (pl_thr S (-1))), (14, .long (pl_thr S (-1))), (13, .int 0), (12, .int (kk_nextR S)), (11, .int 0), (10, .int bv), (9, .int xv), (8, .int to), (7, .int mk), (6, .int 1), (5, .int av), (4, .int th), (0, .ref (ad 0)), (1, .ref q), (2, .int y), (3, .int od)]) hx hb dL_waits_312 hl (by decide) rfl (fun ls hl => ?_)
                  refine lv_aload_n hx hb dL_waits_314 rfl (lv_at hl 13 rfl) ?_
                  refine lv_iload hx hb dL_waits_315 (lv_at hl 12 rfl) ?_
                  refine lv_iload hx hb dL_waits_317 (lv_at hl 11 rfl) ?_
                  refine lv_iload hx hb dL_waits_319 (lv_at hl 7 rfl) ?_
                  refine lv_iload hx hb dL_waits_321 (lv_at hl 9 rfl) ?_
                  refine lv_iload hx hb dL_waits_323 (lv_at hl 8 rfl) ?_
                  refine fk_lcallS (As := [.ref (ad 0), .int th, .int av, .int xv, .int mk, .int to]) (rest := []) ⟨hx, hb, hml, hown, hts⟩ (Lx_await_IO l D ad cI cT cJ _ S _ _ _ _ _ (xo_await l D ad cI cT cJ S th av _ _ _ hst hout9)) (vx_cwSW 6 hts gL_waits_L_await rfl rfl rfl (by decide +kernel) ⟨Nat.le_of_ble_eq_true rfl, Nat.le_of_ble_eq_true rfl⟩) hK hP hD hS hA hZ hN rfl hl.1 rfl (Nat.le_of_ble_eq_true rfl) dL_waits_325 ⟨Nat.le_of_ble_eq_true rfl, Nat.le_of_ble_eq_true rfl⟩ (fun H locs hP hD hS => ?_)
                  refine W.eq (g2 := F0 m 328 ls [.int (-2147483201)]) rfl ?_
                  refine lv_istore (lv' := [(20, .int (-2147483201)), (18, .long (pl_wds S (-1))), (16, .long (pl_thr S (-1))), (14, .long (pl_thr S (-1))), (13, .int 0), (12, .int (kk_nextR S)), (11, .int 0), (10, .int bv), (9, .int xv), (8, .int to), (7, .int mk), (6, .int 1), (5, .int av), (4, .int th), (0, .ref (ad 0)), (1, .ref q), (2, .int y), (3, .int od)]) hx hb dL_waits_328 hl (by decide) rfl (fun ls hl => ?_)
                  refine lv_iload hx hb dL_waits_330 (lv_at hl 0 rfl) ?_
                  refine lv_iconst (v := 1) hx hb dL_waits_332 (by decide) ?_
                  refine lv_icmp_eq (tgt := 416) hx hb dL_waits_333 (by decide) (fun c => absurd c (by decide)) (fun _ => ?_)
                  refine lv_iload hx hb dL_waits_336 (lv_at hl 0 rfl) ?_
                  refine lv_iload hx hb dL_waits_338 (lv_at hl 11 rfl) ?_
                  refine lv_if_eq (tgt := 348) hx hb dL_waits_340 (by decide) (fun c => absurd c (by decide)) (fun _ => ?_)
                  refine lv_ldc (own := RL) (v := (-2147483201)) hx hb hown (hts (.constant RL 17 (-2147483201)) (List.mem_of_getElem? (i := 1) rfl)) dL_waits_343 ?_
                  refine lv_goto (tgt := 369) hx hb dL_waits_345 (by decide) ?_
                  refine lv_icmp_ne (tgt := 414) hx hb dL_waits_369 (by decide) (fun c => absurd c (by decide)) (fun _ => ?_)
                  refine lv_iload hx hb dL_waits_372 (lv_at hl 6 rfl) ?_
                  refine lv_if_eq (tgt := 388) hx hb dL_waits_374 (by decide) (fun _ => ?_) (fun c => absurd c (by decide))
                  refine lv_aload_n hx hb dL_waits_388 rfl (lv_at hl 14 rfl) ?_
                  refine lv_iconst (v := (-1)) hx hb dL_waits_389 (by decide) ?_
                  refine fk_callS (As := [.ref (ad 0), .int (-1)]) (rest := []) ⟨hx, hb, hml, hown, hts⟩ (kl_threads l D ad cI cT cJ _ S hG.1.sz hG.1.J (-1)) (va_cwS 2 hts gL_waits_L_threads rfl rfl rfl (by decide +kernel) ⟨Nat.le_of_ble_eq_true rfl, Nat.le_of_ble_eq_true rfl⟩) hK hP hD hS hA rfl hl.1 rfl (Nat.le_of_ble_eq_true rfl) dL_waits_390 ⟨Nat.le_of_ble_eq_true rfl, Nat.le_of_ble_eq_true rfl⟩ (fun H locs hP hD hS => ?_)
                  refine W.eq (g2 := F0 m 393 ls [.long (pl_thr S (-1))]) rfl ?_
                  refine lv_lload hx hb dL_waits_393 (lv_at hl 3 rfl) ?_
                  refine W.lcmp hx hb dL_waits_395 ?_
                  refine W.eq (g2 := F0 m 396 ls [.int 0]) (by rw [fk_cmp_self]) ?_
                  refine lv_if_ne (tgt := 414) hx hb dL_waits_396 (by decide) (fun c => absurd c (by decide)) (fun _ => ?_)
                  refine lv_aload_n hx hb dL_waits_399 rfl (lv_at hl 14 rfl) ?_
                  refine lv_iconst (v := (-1)) hx hb dL_waits_400 (by decide) ?_
                  refine fk_callS (As := [.ref (ad 0), .int (-1)]) (rest := []) ⟨hx, hb, hml, hown, hts⟩ (kl_words l D ad cI cT cJ _ S (-1)) (va_cwS 2 hts gL_waits_L_words rfl rfl rfl (by decide +kernel) ⟨Nat.le_of_ble_eq_true rfl, Nat.le_of_ble_eq_true rfl⟩) hK hP hD hS hA rfl hl.1 rfl (Nat.le_of_ble_eq_true rfl) dL_waits_401 ⟨Nat.le_of_ble_eq_true rfl, Nat.le_of_ble_eq_true rfl⟩ (fun H locs hP hD hS => ?_)
                  refine W.eq (g2 := F0 m 404 ls [.long (pl_wds S (-1))]) rfl ?_
                  refine lv_lload hx hb dL_waits_404 (lv_at hl 1 rfl) ?_
                  refine W.lcmp hx hb dL_waits_406 ?_
                  refine W.eq (g2 := F0 m 407 ls [.int 0]) (by rw [fk_cmp_self]) ?_
                  refine lv_if_ne (tgt := 414) hx hb dL_waits_407 (by decide) (fun c => absurd c (by decide)) (fun _ => ?_)
                  refine lv_iconst (v := 1) hx hb dL_waits_410 (by decide) ?_
                  refine lv_goto (tgt := 415) hx hb dL_waits_411 (by decide) ?_
                  exact fk_zretE (Nat.le_of_ble_eq_true rfl) (Nat.le_of_ble_eq_true rfl) hx hb hr hlocks hP hK hD hS rfl ⟨rfl, _, _, rfl, (hG).wk (by omega)⟩ dL_waits_415
                refine lv_iload hx hb dL_waits_200 (lv_at hl 2 rfl) ?_
                refine lv_iconst (v := 1) hx hb dL_waits_202 (by decide) ?_
                refine lv_icmp_lt (tgt := 227) hx hb dL_waits_203 (by decide) (fun c_76 => ?_) (fun c_76 => ?_)
                · refine lv_iconst (v := 1) hx hb dL_waits_227 (by decide) ?_
                  refine lv_goto (tgt := 232) hx hb dL_waits_228 (by decide) ?_
                  exact jn232 1 (by first | (rw [fk_wA (v := mk) (lo := 1) (hi := 255) (by assumption)]; rfl) | (rw [fk_wA (v := to) (lo := 0) (hi := 10000) (by assumption), Bool.and_false]; rfl) | (rw [fk_wB (v := mk) (lo := 1) (hi := 255) (by assumption)]; rfl) | (rw [fk_wB (v := to) (lo := 0) (hi := 10000) (by assumption), Bool.and_false]; rfl) | (rw [fk_wC (v := mk) (lo := 1) (hi := 255) (by assumption)]; rfl) | (rw [fk_wC (v := to) (lo := 0) (hi := 10000) (by assumption), Bool.and_false]; rfl) | (rw [fk_wE (v := mk) (lo := 1) (hi := 255) (by assumption) (by assumption), fk_wE (v := to) (lo := 0) (hi := 10000) (by assumption) (by assumption)]; rfl) | (rw [fk_wE (v := mk) (lo := 1) (hi := 255) (by assumption) (by assumption), fk_wF (v := to) (lo := 0) (hi := 10000) (by assumption) (by assumption)]; rfl) | (rw [fk_wF (v := mk) (lo := 1) (hi := 255) (by assumption) (by assumption), fk_wE (v := to) (lo := 0) (hi := 10000) (by assumption) (by assumption)]; rfl) | (rw [fk_wF (v := mk) (lo := 1) (hi := 255) (by assumption) (by assumption), fk_wF (v := to) (lo := 0) (hi := 10000) (by assumption) (by assumption)]; rfl)) _ _ _ hP hD hS hl
                · refine lv_iload hx hb dL_waits_206 (lv_at hl 2 rfl) ?_
                  refine lv_sipush (v := 255) hx hb dL_waits_208 (by decide) ?_
                  refine lv_icmp_gt (tgt := 227) hx hb dL_waits_211 (by decide) (fun c_77 => ?_) (fun c_77 => ?_)
                  · refine lv_iconst (v := 1) hx hb dL_waits_227 (by decide) ?_
                    refine lv_goto (tgt := 232) hx hb dL_waits_228 (by decide) ?_
                    exact jn232 1 (by first | (rw [fk_wA (v := mk) (lo := 1) (hi := 255) (by assumption)]; rfl) | (rw [fk_wA (v := to) (lo := 0) (hi := 10000) (by assumption), Bool.and_false]; rfl) | (rw [fk_wB (v := mk) (lo := 1) (hi := 255) (by assumption)]; rfl) | (rw [fk_wB (v := to) (lo := 0) (hi := 10000) (by assumption), Bool.and_false]; rfl) | (rw [fk_wC (v := mk) (lo := 1) (hi := 255) (by assumption)]; rfl) | (rw [fk_wC (v := to) (lo := 0) (hi := 10000) (by assumption), Bool.and_false]; rfl) | (rw [fk_wE (v := mk) (lo := 1) (hi := 255) (by assumption) (by assumption), fk_wE (v := to) (lo := 0) (hi := 10000) (by assumption) (by assumption)]; rfl) | (rw [fk_wE (v := mk) (lo := 1) (hi := 255) (by assumption) (by assumption), fk_wF (v := to) (lo := 0) (hi := 10000) (by assumption) (by assumption)]; rfl) | (rw [fk_wF (v := mk) (lo := 1) (hi := 255) (by assumption) (by assumption), fk_wE (v := to) (lo := 0) (hi := 10000) (by assumption) (by assumption)]; rfl) | (rw [fk_wF (v := mk) (lo := 1) (hi := 255) (by assumption) (by assumption), fk_wF (v := to) (lo := 0) (hi := 10000) (by assumption) (by assumption)]; rfl)) _ _ _ hP hD hS hl
                  · refine lv_iload hx hb dL_waits_214 (lv_at hl 1 rfl) ?_
                    refine lv_if_lt (tgt := 227) hx hb dL_waits_216 (by decide) (fun c_78 => ?_) (fun c_78 => ?_)
                    · refine lv_iconst (v := 1) hx hb dL_waits_227 (by decide) ?_
                      refine lv_goto (tgt := 232) hx hb dL_waits_228 (by decide) ?_
                      exact jn232 1 (by first | (rw [fk_wA (v := mk) (lo := 1) (hi := 255) (by assumption)]; rfl) | (rw [fk_wA (v := to) (lo := 0) (hi := 10000) (by assumption), Bool.and_false]; rfl) | (rw [fk_wB (v := mk) (lo := 1) (hi := 255) (by assumption)]; rfl) | (rw [fk_wB (v := to) (lo := 0) (hi := 10000) (by assumption), Bool.and_false]; rfl) | (rw [fk_wC (v := mk) (lo := 1) (hi := 255) (by assumption)]; rfl) | (rw [fk_wC (v := to) (lo := 0) (hi := 10000) (by assumption), Bool.and_false]; rfl) | (rw [fk_wE (v := mk) (lo := 1) (hi := 255) (by assumption) (by assumption), fk_wE (v := to) (lo := 0) (hi := 10000) (by assumption) (by assumption)]; rfl) | (rw [fk_wE (v := mk) (lo := 1) (hi := 255) (by assumption) (by assumption), fk_wF (v := to) (lo := 0) (hi := 10000) (by assumption) (by assumption)]; rfl) | (rw [fk_wF (v := mk) (lo := 1) (hi := 255) (by assumption) (by assumption), fk_wE (v := to) (lo := 0) (hi := 10000) (by assumption) (by assumption)]; rfl) | (rw [fk_wF (v := mk) (lo := 1) (hi := 255) (by assumption) (by assumption), fk_wF (v := to) (lo := 0) (hi := 10000) (by assumption) (by assumption)]; rfl)) _ _ _ hP hD hS hl
                    · refine lv_iload hx hb dL_waits_219 (lv_at hl 1 rfl) ?_
                      refine lv_sipush (v := 10000) hx hb dL_waits_221 (by decide) ?_
                      refine lv_icmp_le (tgt := 231) hx hb dL_waits_224 (by decide) (fun c_79 => ?_) (fun c_79 => ?_)
                      · refine lv_iconst (v := 0) hx hb dL_waits_231 (by decide) ?_
                        exact jn232 0 (by first | (rw [fk_wA (v := mk) (lo := 1) (hi := 255) (by assumption)]; rfl) | (rw [fk_wA (v := to) (lo := 0) (hi := 10000) (by assumption), Bool.and_false]; rfl) | (rw [fk_wB (v := mk) (lo := 1) (hi := 255) (by assumption)]; rfl) | (rw [fk_wB (v := to) (lo := 0) (hi := 10000) (by assumption), Bool.and_false]; rfl) | (rw [fk_wC (v := mk) (lo := 1) (hi := 255) (by assumption)]; rfl) | (rw [fk_wC (v := to) (lo := 0) (hi := 10000) (by assumption), Bool.and_false]; rfl) | (rw [fk_wE (v := mk) (lo := 1) (hi := 255) (by assumption) (by assumption), fk_wE (v := to) (lo := 0) (hi := 10000) (by assumption) (by assumption)]; rfl) | (rw [fk_wE (v := mk) (lo := 1) (hi := 255) (by assumption) (by assumption), fk_wF (v := to) (lo := 0) (hi := 10000) (by assumption) (by assumption)]; rfl) | (rw [fk_wF (v := mk) (lo := 1) (hi := 255) (by assumption) (by assumption), fk_wE (v := to) (lo := 0) (hi := 10000) (by assumption) (by assumption)]; rfl) | (rw [fk_wF (v := mk) (lo := 1) (hi := 255) (by assumption) (by assumption), fk_wF (v := to) (lo := 0) (hi := 10000) (by assumption) (by assumption)]; rfl)) _ _ _ hP hD hS hl
                      · refine lv_iconst (v := 1) hx hb dL_waits_227 (by decide) ?_
                        refine lv_goto (tgt := 232) hx hb dL_waits_228 (by decide) ?_
                        exact jn232 1 (by first | (rw [fk_wA (v := mk) (lo := 1) (hi := 255) (by assumption)]; rfl) | (rw [fk_wA (v := to) (lo := 0) (hi := 10000) (by assumption), Bool.and_false]; rfl) | (rw [fk_wB (v := mk) (lo := 1) (hi := 255) (by assumption)]; rfl) | (rw [fk_wB (v := to) (lo := 0) (hi := 10000) (by assumption), Bool.and_false]; rfl) | (rw [fk_wC (v := mk) (lo := 1) (hi := 255) (by assumption)]; rfl) | (rw [fk_wC (v := to) (lo := 0) (hi := 10000) (by assumption), Bool.and_false]; rfl) | (rw [fk_wE (v := mk) (lo := 1) (hi := 255) (by assumption) (by assumption), fk_wE (v := to) (lo := 0) (hi := 10000) (by assumption) (by assumption)]; rfl) | (rw [fk_wE (v := mk) (lo := 1) (hi := 255) (by assumption) (by assumption), fk_wF (v := to) (lo := 0) (hi := 10000) (by assumption) (by assumption)]; rfl) | (rw [fk_wF (v := mk) (lo := 1) (hi := 255) (by assumption) (by assumption), fk_wE (v := to) (lo := 0) (hi := 10000) (by assumption) (by assumption)]; rfl) | (rw [fk_wF (v := mk) (lo := 1) (hi := 255) (by assumption) (by assumption), fk_wF (v := to) (lo := 0) (hi := 10000) (by assumption) (by assumption)]; rfl)) _ _ _ hP hD hS hl
              refine lv_iload hx hb dL_waits_166 (lv_at hl 2 rfl) ?_
              refine lv_if_eq (tgt := 175) hx hb dL_waits_168 (by decide) (fun c => absurd c (by decide)) (fun _ => ?_)
              refine lv_iconst (v := 0) hx hb dL_waits_171 (by decide) ?_
              refine lv_goto (tgt := 198) hx hb dL_waits_172 (by decide) ?_
              exact jn198 0 _ _ _ hP hD hS hl
            refine lv_iload_n hx hb dL_waits_119 rfl (lv_at hl 7 rfl) ?_
            refine lv_if_eq (tgt := 138) hx hb dL_waits_120 (by decide) (fun c_81 => ?_) (fun c_81 => ?_)
            · refine lv_iload_n hx hb dL_waits_138 rfl (lv_at hl 6 rfl) ?_
              refine lv_bipush (v := 12) hx hb dL_waits_139 (by decide) ?_
              refine lv_ishr hx hb dL_waits_141 ?_
              refine lv_iconst (v := 3) hx hb dL_waits_142 (by decide) ?_
              refine fk_callS (As := [.int (y >>> (12 &&& 31)), .int 3]) (rest := []) ⟨hx, hb, hml, hown, hts⟩ (kl_some l D ad cI cT cJ _ S (y >>> (12 &&& 31)) 3 (by decide)) (va_cwS 2 hts gL_waits_L_some rfl rfl rfl (by decide +kernel) ⟨Nat.le_of_ble_eq_true rfl, Nat.le_of_ble_eq_true rfl⟩) hK hP hD hS hA rfl hl.1 rfl (Nat.le_of_ble_eq_true rfl) dL_waits_143 ⟨Nat.le_of_ble_eq_true rfl, Nat.le_of_ble_eq_true rfl⟩ (fun H locs hP hD hS => ?_)
              refine W.eq (g2 := F0 m 146 ls [.int (pl_some (y >>> (12 &&& 31)) 3)]) rfl ?_
              refine lv_if_ne (tgt := 153) hx hb dL_waits_146 (by decide) (fun c_82 => ?_) (fun c_82 => ?_)
              · refine lv_iconst (v := 1) hx hb dL_waits_153 (by decide) ?_
                refine lv_iload_n hx hb dL_waits_154 rfl (lv_at hl 6 rfl) ?_
                refine lv_bipush (v := 14) hx hb dL_waits_155 (by decide) ?_
                refine lv_ishr hx hb dL_waits_157 ?_
                refine lv_bipush (v := 20) hx hb dL_waits_158 (by decide) ?_
                refine fk_callS (As := [.int (y >>> (14 &&& 31)), .int 20]) (rest := [.int 1]) ⟨hx, hb, hml, hown, hts⟩ (kl_some l D ad cI cT cJ _ S (y >>> (14 &&& 31)) 20 (by decide)) (va_cwS 2 hts gL_waits_L_some rfl rfl rfl (by decide +kernel) ⟨Nat.le_of_ble_eq_true rfl, Nat.le_of_ble_eq_true rfl⟩) hK hP hD hS hA rfl hl.1 rfl (Nat.le_of_ble_eq_true rfl) dL_waits_160 ⟨Nat.le_of_ble_eq_true rfl, Nat.le_of_ble_eq_true rfl⟩ (fun H locs hP hD hS => ?_)
                refine W.eq (g2 := F0 m 163 ls [.int (pl_some (y >>> (14 &&& 31)) 20), .int 1]) rfl ?_
                refine lv_iadd hx hb dL_waits_163 ?_
                exact jn164 ((1 : Int32) + (pl_some (y >>> (14 &&& 31)) 20)) _ _ _ hP hD hS hl
              · refine lv_iconst (v := 0) hx hb dL_waits_149 (by decide) ?_
                refine lv_goto (tgt := 164) hx hb dL_waits_150 (by decide) ?_
                exact jn164 0 _ _ _ hP hD hS hl
            · refine lv_iload_n hx hb dL_waits_123 rfl (lv_at hl 6 rfl) ?_
              refine lv_bipush (v := 12) hx hb dL_waits_124 (by decide) ?_
              refine lv_ishr hx hb dL_waits_126 ?_
              refine lv_sipush (v := 10010) hx hb dL_waits_127 (by decide) ?_
              refine fk_callS (As := [.int (y >>> (12 &&& 31)), .int 10010]) (rest := []) ⟨hx, hb, hml, hown, hts⟩ (kl_some l D ad cI cT cJ _ S (y >>> (12 &&& 31)) 10010 (by decide)) (va_cwS 2 hts gL_waits_L_some rfl rfl rfl (by decide +kernel) ⟨Nat.le_of_ble_eq_true rfl, Nat.le_of_ble_eq_true rfl⟩) hK hP hD hS hA rfl hl.1 rfl (Nat.le_of_ble_eq_true rfl) dL_waits_130 ⟨Nat.le_of_ble_eq_true rfl, Nat.le_of_ble_eq_true rfl⟩ (fun H locs hP hD hS => ?_)
              refine W.eq (g2 := F0 m 133 ls [.int (pl_some (y >>> (12 &&& 31)) 10010)]) rfl ?_
              refine lv_iconst (v := 5) hx hb dL_waits_133 (by decide) ?_
              refine lv_isub hx hb dL_waits_134 ?_
              refine lv_goto (tgt := 164) hx hb dL_waits_135 (by decide) ?_
              exact jn164 ((pl_some (y >>> (12 &&& 31)) 10010) - 5) _ _ _ hP hD hS hl
          refine lv_iload_n hx hb dL_waits_86 rfl (lv_at hl 6 rfl) ?_
          refine lv_if_eq (tgt := 105) hx hb dL_waits_87 (by decide) (fun c_83 => ?_) (fun c_83 => ?_)
          · refine lv_iconst (v := 1) hx hb dL_waits_105 (by decide) ?_
            refine lv_iload_n hx hb dL_waits_106 rfl (lv_at hl 5 rfl) ?_
            refine lv_bipush (v := 9) hx hb dL_waits_107 (by decide) ?_
            refine lv_ishr hx hb dL_waits_109 ?_
            refine lv_sipush (v := 255) hx hb dL_waits_110 (by decide) ?_
            refine fk_callS (As := [.int (y >>> (9 &&& 31)), .int 255]) (rest := [.int 1]) ⟨hx, hb, hml, hown, hts⟩ (kl_some l D ad cI cT cJ _ S (y >>> (9 &&& 31)) 255 (by decide)) (va_cwS 2 hts gL_waits_L_some rfl rfl rfl (by decide +kernel) ⟨Nat.le_of_ble_eq_true rfl, Nat.le_of_ble_eq_true rfl⟩) hK hP hD hS hA rfl hl.1 rfl (Nat.le_of_ble_eq_true rfl) dL_waits_113 ⟨Nat.le_of_ble_eq_true rfl, Nat.le_of_ble_eq_true rfl⟩ (fun H locs hP hD hS => ?_)
            refine W.eq (g2 := F0 m 116 ls [.int (pl_some (y >>> (9 &&& 31)) 255), .int 1]) rfl ?_
            refine lv_iadd hx hb dL_waits_116 ?_
            exact jn117 ((1 : Int32) + (pl_some (y >>> (9 &&& 31)) 255)) _ _ _ hP hD hS hl
          · refine lv_iload_n hx hb dL_waits_90 rfl (lv_at hl 5 rfl) ?_
            refine lv_bipush (v := 9) hx hb dL_waits_91 (by decide) ?_
            refine lv_ishr hx hb dL_waits_93 ?_
            refine lv_sipush (v := 260) hx hb dL_waits_94 (by decide) ?_
            refine fk_callS (As := [.int (y >>> (9 &&& 31)), .int 260]) (rest := []) ⟨hx, hb, hml, hown, hts⟩ (kl_some l D ad cI cT cJ _ S (y >>> (9 &&& 31)) 260 (by decide)) (va_cwS 2 hts gL_waits_L_some rfl rfl rfl (by decide +kernel) ⟨Nat.le_of_ble_eq_true rfl, Nat.le_of_ble_eq_true rfl⟩) hK hP hD hS hA rfl hl.1 rfl (Nat.le_of_ble_eq_true rfl) dL_waits_97 ⟨Nat.le_of_ble_eq_true rfl, Nat.le_of_ble_eq_true rfl⟩ (fun H locs hP hD hS => ?_)
            refine W.eq (g2 := F0 m 100 ls [.int (pl_some (y >>> (9 &&& 31)) 260)]) rfl ?_
            refine lv_iconst (v := 2) hx hb dL_waits_100 (by decide) ?_
            refine lv_isub hx hb dL_waits_101 ?_
            refine lv_goto (tgt := 117) hx hb dL_waits_102 (by decide) ?_
            exact jn117 ((pl_some (y >>> (9 &&& 31)) 260) - 2) _ _ _ hP hD hS hl
      refine lv_iload hx hb dL_waits_55 (lv_at hl 1 rfl) ?_
      refine lv_if_lt (tgt := 79) hx hb dL_waits_57 (by decide) (fun c_84 => ?_) (fun c_84 => ?_)
      · refine lv_iconst (v := 1) hx hb dL_waits_79 (by decide) ?_
        refine lv_goto (tgt := 84) hx hb dL_waits_80 (by decide) ?_
        exact jn84 1 (by first | exact fk_oA (by assumption) | exact fk_oB (by assumption) | exact fk_oC (by assumption) | exact fk_oD (by assumption) | exact fk_oE (by assumption) (by assumption) (by assumption) (by assumption)) _ _ _ hP hD hS hl
      · refine lv_iload hx hb dL_waits_60 (lv_at hl 1 rfl) ?_
        refine lv_bipush (v := 7) hx hb dL_waits_62 (by decide) ?_
        refine lv_icmp_gt (tgt := 79) hx hb dL_waits_64 (by decide) (fun c_85 => ?_) (fun c_85 => ?_)
        · refine lv_iconst (v := 1) hx hb dL_waits_79 (by decide) ?_
          refine lv_goto (tgt := 84) hx hb dL_waits_80 (by decide) ?_
          exact jn84 1 (by first | exact fk_oA (by assumption) | exact fk_oB (by assumption) | exact fk_oC (by assumption) | exact fk_oD (by assumption) | exact fk_oE (by assumption) (by assumption) (by assumption) (by assumption)) _ _ _ hP hD hS hl
        · refine lv_iload hx hb dL_waits_67 (lv_at hl 0 rfl) ?_
          refine lv_if_lt (tgt := 79) hx hb dL_waits_69 (by decide) (fun c_86 => ?_) (fun c_86 => ?_)
          · refine lv_iconst (v := 1) hx hb dL_waits_79 (by decide) ?_
            refine lv_goto (tgt := 84) hx hb dL_waits_80 (by decide) ?_
            exact jn84 1 (by first | exact fk_oA (by assumption) | exact fk_oB (by assumption) | exact fk_oC (by assumption) | exact fk_oD (by assumption) | exact fk_oE (by assumption) (by assumption) (by assumption) (by assumption)) _ _ _ hP hD hS hl
          · refine lv_iload hx hb dL_waits_72 (lv_at hl 0 rfl) ?_
            refine lv_bipush (v := 15) hx hb dL_waits_74 (by decide) ?_
            refine lv_icmp_le (tgt := 83) hx hb dL_waits_76 (by decide) (fun c_87 => ?_) (fun c_87 => ?_)
            · refine lv_iconst (v := 0) hx hb dL_waits_83 (by decide) ?_
              exact jn84 0 (by first | exact fk_oA (by assumption) | exact fk_oB (by assumption) | exact fk_oC (by assumption) | exact fk_oD (by assumption) | exact fk_oE (by assumption) (by assumption) (by assumption) (by assumption)) _ _ _ hP hD hS hl
            · refine lv_iconst (v := 1) hx hb dL_waits_79 (by decide) ?_
              refine lv_goto (tgt := 84) hx hb dL_waits_80 (by decide) ?_
              exact jn84 1 (by first | exact fk_oA (by assumption) | exact fk_oB (by assumption) | exact fk_oC (by assumption) | exact fk_oD (by assumption) | exact fk_oE (by assumption) (by assumption) (by assumption) (by assumption)) _ _ _ hP hD hS hl
    refine lv_iload_n hx hb dL_waits_27 rfl (lv_at hl 4 rfl) ?_
    refine lv_if_eq (tgt := 45) hx hb dL_waits_28 (by decide) (fun c_88 => ?_) (fun c_88 => ?_)
    · refine lv_iload_n hx hb dL_waits_45 rfl (lv_at hl 3 rfl) ?_
      refine lv_bipush (v := 6) hx hb dL_waits_46 (by decide) ?_
      refine lv_ishr hx hb dL_waits_48 ?_
      refine lv_iconst (v := 4) hx hb dL_waits_49 (by decide) ?_
      refine fk_callS (As := [.int (y >>> (6 &&& 31)), .int 4]) (rest := []) ⟨hx, hb, hml, hown, hts⟩ (kl_some l D ad cI cT cJ _ S (y >>> (6 &&& 31)) 4 (by decide)) (va_cwS 2 hts gL_waits_L_some rfl rfl rfl (by decide +kernel) ⟨Nat.le_of_ble_eq_true rfl, Nat.le_of_ble_eq_true rfl⟩) hK hP hD hS hA rfl hl.1 rfl (Nat.le_of_ble_eq_true rfl) dL_waits_50 ⟨Nat.le_of_ble_eq_true rfl, Nat.le_of_ble_eq_true rfl⟩ (fun H locs hP hD hS => ?_)
      refine W.eq (g2 := F0 m 53 ls [.int (pl_some (y >>> (6 &&& 31)) 4)]) rfl ?_
      exact jn53 (pl_some (y >>> (6 &&& 31)) 4) _ _ _ hP hD hS hl
    · refine lv_iload_n hx hb dL_waits_31 rfl (lv_at hl 3 rfl) ?_
      refine lv_bipush (v := 6) hx hb dL_waits_32 (by decide) ?_
      refine lv_ishr hx hb dL_waits_34 ?_
      refine lv_bipush (v := 18) hx hb dL_waits_35 (by decide) ?_
      refine fk_callS (As := [.int (y >>> (6 &&& 31)), .int 18]) (rest := []) ⟨hx, hb, hml, hown, hts⟩ (kl_some l D ad cI cT cJ _ S (y >>> (6 &&& 31)) 18 (by decide)) (va_cwS 2 hts gL_waits_L_some rfl rfl rfl (by decide +kernel) ⟨Nat.le_of_ble_eq_true rfl, Nat.le_of_ble_eq_true rfl⟩) hK hP hD hS hA rfl hl.1 rfl (Nat.le_of_ble_eq_true rfl) dL_waits_37 ⟨Nat.le_of_ble_eq_true rfl, Nat.le_of_ble_eq_true rfl⟩ (fun H locs hP hD hS => ?_)
      refine W.eq (g2 := F0 m 40 ls [.int (pl_some (y >>> (6 &&& 31)) 18)]) rfl ?_
      refine lv_iconst (v := 1) hx hb dL_waits_40 (by decide) ?_
      refine lv_isub hx hb dL_waits_41 ?_
      refine lv_goto (tgt := 53) hx hb dL_waits_42 (by decide) ?_
      exact jn53 ((pl_some (y >>> (6 &&& 31)) 18) - 1) _ _ _ hP hD hS hl
  refine lv_iload_n hx hb dL_waits_0 rfl (lv_at hl 3 rfl) ?_
  refine lv_if_eq (tgt := 17) hx hb dL_waits_1 (by decide) (fun c_89 => ?_) (fun c_89 => ?_)
  · refine lv_iload_n hx hb dL_waits_17 rfl (lv_at hl 2 rfl) ?_
    refine lv_iconst (v := 2) hx hb dL_waits_18 (by decide) ?_
    refine lv_ishr hx hb dL_waits_19 ?_
    refine lv_bipush (v := 8) hx hb dL_waits_20 (by decide) ?_
    refine fk_callS (As := [.int (y >>> (2 &&& 31)), .int 8]) (rest := []) ⟨hx, hb, hml, hown, hts⟩ (kl_some l D ad cI cT cJ _ S (y >>> (2 &&& 31)) 8 (by decide)) (va_cwS 2 hts gL_waits_L_some rfl rfl rfl (by decide +kernel) ⟨Nat.le_of_ble_eq_true rfl, Nat.le_of_ble_eq_true rfl⟩) hK hP hD hS hA rfl hl.1 rfl (Nat.le_of_ble_eq_true rfl) dL_waits_22 ⟨Nat.le_of_ble_eq_true rfl, Nat.le_of_ble_eq_true rfl⟩ (fun H locs hP hD hS => ?_)
    refine W.eq (g2 := F0 m 25 ls [.int (pl_some (y >>> (2 &&& 31)) 8)]) rfl ?_
    exact jn25 (pl_some (y >>> (2 &&& 31)) 8) _ _ _ hP hD hS hl
  · refine lv_iload_n hx hb dL_waits_4 rfl (lv_at hl 2 rfl) ?_
    refine lv_iconst (v := 2) hx hb dL_waits_5 (by decide) ?_
    refine lv_ishr hx hb dL_waits_6 ?_
    refine lv_bipush (v := 10) hx hb dL_waits_7 (by decide) ?_
    refine fk_callS (As := [.int (y >>> (2 &&& 31)), .int 10]) (rest := []) ⟨hx, hb, hml, hown, hts⟩ (kl_some l D ad cI cT cJ _ S (y >>> (2 &&& 31)) 10 (by decide)) (va_cwS 2 hts gL_waits_L_some rfl rfl rfl (by decide +kernel) ⟨Nat.le_of_ble_eq_true rfl, Nat.le_of_ble_eq_true rfl⟩) hK hP hD hS hA rfl hl.1 rfl (Nat.le_of_ble_eq_true rfl) dL_waits_9 ⟨Nat.le_of_ble_eq_true rfl, Nat.le_of_ble_eq_true rfl⟩ (fun H locs hP hD hS => ?_)
    refine W.eq (g2 := F0 m 12 ls [.int (pl_some (y >>> (2 &&& 31)) 10)]) rfl ?_
    refine lv_iconst (v := 1) hx hb dL_waits_12 (by decide) ?_
    refine lv_isub hx hb dL_waits_13 ?_
    refine lv_goto (tgt := 25) hx hb dL_waits_14 (by decide) ?_
    exact jn25 ((pl_some (y >>> (2 &&& 31)) 10) - 1) _ _ _ hP hD hS hl
