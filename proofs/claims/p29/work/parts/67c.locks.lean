theorem kq_lk_any (S : fk_S) (a : Nat) : (kq_A S a).any (fun t => decide (S 1 t = 2)) = false ↔ kq_lk S a = [] := by
  unfold kq_lk
  rw [List.filter_eq_nil_iff, List.any_eq_false]

set_option maxHeartbeats 8000000 in
set_option maxRecDepth 100000 in
theorem el_locks (l : Launch) (D : va_G) (ad : Nat → Nat) (cI cT cJ : ClassId) (X : va_W) (S : fk_S) (q : Nat) (P : Nat → Int32) (n : Nat) (hst : l.stackTraces = false) (hG : kq_G n S P) (hn : n < 2 ^ 16) (od y : Int32)  : fk_E l D (fk_ty cI cT cJ) yL_locks wsL_locks rm_E [.ref (ad 0), .ref q, .int y, .int od] (fk_kW ad cI cT S ++ (q, fk_pr cI P) :: X) (kq_Phi ad cI cT q X (n + 20)) := by
  refine fk_E_of (cc := cL_locks) (maxL := 25) (ret := (some .boolean)) (own := RL) (by decide) rfl rfl (Nat.le_of_ble_eq_true rfl) ?_
  intro p e s m below meth c A ls hx hb hr hlocks hml hts hown hA hP hK hD hZ hN hl
  have hS : va_S A s.heap s.heap [] := va_S.rf
  have hl : lv_has ls 25 [(0, .ref (ad 0)), (1, .ref q), (2, .int y), (3, .int od)] := hl
  have jn25 : ∀ (th : Int32), ∀ (H : Heap) (locs : List Loc) (ls : Array Slot), va_P D vwCl (fk_kW ad cI cT S ++ (q, fk_pr cI P) :: X) H → va_D A (fk_kW ad cI cT S ++ (q, fk_pr cI P) :: X) → va_S A s.heap H locs → lv_has ls 25 [(0, .ref (ad 0)), (1, .ref q), (2, .int y), (3, .int od)] → W p l e rm_E s m ([.ref (ad 0), .ref q, .int y, .int od] : List Value).toArray below meth c H locs 0 0 (MQ below (fk_QE D (fk_ty cI cT cJ) A (kq_Phi ad cI cT q X (n + 20))) ([.ref (ad 0), .ref q, .int y, .int od] : List Value).toArray s 2 12 A) (F0 m 25 ls [.int th]) := by
    intro th H locs ls hP hD hS hl
    refine lv_istore (lv' := [(4, .int th), (0, .ref (ad 0)), (1, .ref q), (2, .int y), (3, .int od)]) hx hb dL_locks_25 hl (by decide) rfl (fun ls hl => ?_)
    have jn53 : ∀ (av : Int32), ∀ (H : Heap) (locs : List Loc) (ls : Array Slot), va_P D vwCl (fk_kW ad cI cT S ++ (q, fk_pr cI P) :: X) H → va_D A (fk_kW ad cI cT S ++ (q, fk_pr cI P) :: X) → va_S A s.heap H locs → lv_has ls 25 [(4, .int th), (0, .ref (ad 0)), (1, .ref q), (2, .int y), (3, .int od)] → W p l e rm_E s m ([.ref (ad 0), .ref q, .int y, .int od] : List Value).toArray below meth c H locs 0 0 (MQ below (fk_QE D (fk_ty cI cT cJ) A (kq_Phi ad cI cT q X (n + 20))) ([.ref (ad 0), .ref q, .int y, .int od] : List Value).toArray s 2 12 A) (F0 m 53 ls [.int av]) := by
      intro av H locs ls hP hD hS hl
      refine lv_istore (lv' := [(5, .int av), (4, .int th), (0, .ref (ad 0)), (1, .ref q), (2, .int y), (3, .int od)]) hx hb dL_locks_53 hl (by decide) rfl (fun ls hl => ?_)
      have jn84 : ∀ (ov : Int32), ov = fk_b (!(fk_isT th && fk_isA av)) → ∀ (H : Heap) (locs : List Loc) (ls : Array Slot), va_P D vwCl (fk_kW ad cI cT S ++ (q, fk_pr cI P) :: X) H → va_D A (fk_kW ad cI cT S ++ (q, fk_pr cI P) :: X) → va_S A s.heap H locs → lv_has ls 25 [(5, .int av), (4, .int th), (0, .ref (ad 0)), (1, .ref q), (2, .int y), (3, .int od)] → W p l e rm_E s m ([.ref (ad 0), .ref q, .int y, .int od] : List Value).toArray below meth c H locs 0 0 (MQ below (fk_QE D (fk_ty cI cT cJ) A (kq_Phi ad cI cT q X (n + 20))) ([.ref (ad 0), .ref q, .int y, .int od] : List Value).toArray s 2 12 A) (F0 m 84 ls [.int ov]) := by
        intro ov h_ov H locs ls hP hD hS hl
        refine lv_istore (lv' := [(6, .int ov), (5, .int av), (4, .int th), (0, .ref (ad 0)), (1, .ref q), (2, .int y), (3, .int od)]) hx hb dL_locks_84 hl (by decide) rfl (fun ls hl => ?_)
        by_cases hout : (fk_isT th && fk_isA av) = true
        · have hov : ov = 0 := by rw [h_ov, hout]; rfl
          simp only [Bool.and_eq_true] at hout
          obtain ⟨t, ht, eth⟩ := fk_isT_of hout.1
          obtain ⟨a, ha, eav⟩ := fk_isA_of hout.2
          have hl : lv_has ls 25 [(6, .int 0), (5, .int (nI a)), (4, .int (nI t)), (0, .ref (ad 0)), (1, .ref q), (2, .int y), (3, .int od)] := by rw [hov, eth, eav] at hl; exact hl
          have jn131 : ∀ (to : Int32), ∀ (H : Heap) (locs : List Loc) (ls : Array Slot), va_P D vwCl (fk_kW ad cI cT S ++ (q, fk_pr cI P) :: X) H → va_D A (fk_kW ad cI cT S ++ (q, fk_pr cI P) :: X) → va_S A s.heap H locs → lv_has ls 25 [(6, .int 0), (5, .int (nI a)), (4, .int (nI t)), (0, .ref (ad 0)), (1, .ref q), (2, .int y), (3, .int od)] → W p l e rm_E s m ([.ref (ad 0), .ref q, .int y, .int od] : List Value).toArray below meth c H locs 0 0 (MQ below (fk_QE D (fk_ty cI cT cJ) A (kq_Phi ad cI cT q X (n + 20))) ([.ref (ad 0), .ref q, .int y, .int od] : List Value).toArray s 2 12 A) (F0 m 131 ls [.int to]) := by
            intro to H locs ls hP hD hS hl
            refine lv_istore (lv' := [(7, .int to), (6, .int 0), (5, .int (nI a)), (4, .int (nI t)), (0, .ref (ad 0)), (1, .ref q), (2, .int y), (3, .int od)]) hx hb dL_locks_131 hl (by decide) rfl (fun ls hl => ?_)
            have jn151 : ∀ (bv : Int32), bv = fk_b (!fk_btw to 0 10000) → ∀ (H : Heap) (locs : List Loc) (ls : Array Slot), va_P D vwCl (fk_kW ad cI cT S ++ (q, fk_pr cI P) :: X) H → va_D A (fk_kW ad cI cT S ++ (q, fk_pr cI P) :: X) → va_S A s.heap H locs → lv_has ls 25 [(7, .int to), (6, .int 0), (5, .int (nI a)), (4, .int (nI t)), (0, .ref (ad 0)), (1, .ref q), (2, .int y), (3, .int od)] → W p l e rm_E s m ([.ref (ad 0), .ref q, .int y, .int od] : List Value).toArray below meth c H locs 0 0 (MQ below (fk_QE D (fk_ty cI cT cJ) A (kq_Phi ad cI cT q X (n + 20))) ([.ref (ad 0), .ref q, .int y, .int od] : List Value).toArray s 2 12 A) (F0 m 151 ls [.int bv]) := by
              intro bv h_bv H locs ls hP hD hS hl
              refine lv_istore (lv' := [(8, .int bv), (7, .int to), (6, .int 0), (5, .int (nI a)), (4, .int (nI t)), (0, .ref (ad 0)), (1, .ref q), (2, .int y), (3, .int od)]) hx hb dL_locks_151 hl (by decide) rfl (fun ls hl => ?_)
              by_cases hbad : (fk_btw to 0 10000) = true
              · have hbad9 : bv = 0 := by rw [h_bv, hbad]; rfl
                have hl : lv_has ls 25 [(8, .int 0), (7, .int to), (6, .int 0), (5, .int (nI a)), (4, .int (nI t)), (0, .ref (ad 0)), (1, .ref q), (2, .int y), (3, .int od)] := by rw [hbad9] at hl; exact hl
                by_cases hs0 : S 1 t = 0
                · refine lv_iload hx hb dL_locks_153 (lv_at hl 2 rfl) ?_
                  refine lv_if_eq (tgt := 162) hx hb dL_locks_155 (by decide) (fun _ => ?_) (fun c => absurd c (by decide))
                  refine lv_aload_n hx hb dL_locks_162 rfl (lv_at hl 5 rfl) ?_
                  refine lv_iload hx hb dL_locks_163 (lv_at hl 3 rfl) ?_
                  refine fk_callV (As := [.int (nI a)]) (rest := []) ⟨hx, hb, hml, hown, hts⟩ (kc_word l D ad cI cT cJ _ S a ha) (cwV 1 hts gL_locks_X2_word rfl rfl rfl (by decide +kernel) ⟨Nat.le_of_ble_eq_true rfl, Nat.le_of_ble_eq_true rfl⟩) (fk_rvK hK hP) hK hP hD hS hA rfl hl.1 rfl (Nat.le_of_ble_eq_true rfl) dL_locks_165 ⟨Nat.le_of_ble_eq_true rfl, Nat.le_of_ble_eq_true rfl⟩ (fun H locs hP hD hS => ?_)
                  refine W.eq (g2 := F0 m 168 ls [.int (S 0 a)]) rfl ?_
                  refine lv_istore (lv' := [(9, .int (S 0 a)), (8, .int 0), (7, .int to), (6, .int 0), (5, .int (nI a)), (4, .int (nI t)), (0, .ref (ad 0)), (1, .ref q), (2, .int y), (3, .int od)]) hx hb dL_locks_168 hl (by decide) rfl (fun ls hl => ?_)
                  refine lv_iload hx hb dL_locks_170 (lv_at hl 0 rfl) ?_
                  refine lv_sipush (v := 255) hx hb dL_locks_172 (by decide) ?_
                  refine lv_iand hx hb dL_locks_175 ?_
                  refine lv_iconst (v := 1) hx hb dL_locks_176 (by decide) ?_
                  refine lv_isub hx hb dL_locks_177 ?_
                  refine W.eq (g2 := F0 m 178 ls [.int (pl_own (S 0 a))]) rfl ?_
                  refine lv_istore (lv' := [(10, .int (pl_own (S 0 a))), (9, .int (S 0 a)), (8, .int 0), (7, .int to), (6, .int 0), (5, .int (nI a)), (4, .int (nI t)), (0, .ref (ad 0)), (1, .ref q), (2, .int y), (3, .int od)]) hx hb dL_locks_178 hl (by decide) rfl (fun ls hl => ?_)
                  refine lv_aload_n hx hb dL_locks_180 rfl (lv_at hl 7 rfl) ?_
                  refine lv_iconst (v := (-1)) hx hb dL_locks_181 (by decide) ?_
                  refine fk_callS (As := [.ref (ad 0), .int (-1)]) (rest := []) ⟨hx, hb, hml, hown, hts⟩ (kl_threads l D ad cI cT cJ _ S hG.1.sz hG.1.J (-1)) (va_cwS 2 hts gL_locks_L_threads rfl rfl rfl (by decide +kernel) ⟨Nat.le_of_ble_eq_true rfl, Nat.le_of_ble_eq_true rfl⟩) hK hP hD hS hA rfl hl.1 rfl (Nat.le_of_ble_eq_true rfl) dL_locks_182 ⟨Nat.le_of_ble_eq_true rfl, Nat.le_of_ble_eq_true rfl⟩ (fun H locs hP hD hS => ?_)
                  refine W.eq (g2 := F0 m 185 ls [.long (pl_thr S (-1))]) rfl ?_
                  refine lv_lstore (lv' := [(11, .long (pl_thr S (-1))), (10, .int (pl_own (S 0 a))), (9, .int (S 0 a)), (8, .int 0), (7, .int to), (6, .int 0), (5, .int (nI a)), (4, .int (nI t)), (0, .ref (ad 0)), (1, .ref q), (2, .int y), (3, .int od)]) hx hb dL_locks_185 hl (by decide) rfl (fun ls hl => ?_)
                  refine lv_aload_n hx hb dL_locks_187 rfl (lv_at hl 8 rfl) ?_
                  refine lv_iload hx hb dL_locks_188 (lv_at hl 5 rfl) ?_
                  refine lv_if_eq (tgt := 197) hx hb dL_locks_190 (by decide) (fun _ => ?_) (fun c => absurd c (by decide))
                  refine lv_iload hx hb dL_locks_197 (lv_at hl 7 rfl) ?_
                  refine fk_callS (As := [.ref (ad 0), .int (nI t)]) (rest := []) ⟨hx, hb, hml, hown, hts⟩ (kl_threads l D ad cI cT cJ _ S hG.1.sz hG.1.J (nI t)) (va_cwS 2 hts gL_locks_L_threads rfl rfl rfl (by decide +kernel) ⟨Nat.le_of_ble_eq_true rfl, Nat.le_of_ble_eq_true rfl⟩) hK hP hD hS hA rfl hl.1 rfl (Nat.le_of_ble_eq_true rfl) dL_locks_199 ⟨Nat.le_of_ble_eq_true rfl, Nat.le_of_ble_eq_true rfl⟩ (fun H locs hP hD hS => ?_)
                  refine W.eq (g2 := F0 m 202 ls [.long (pl_thr S (nI t))]) rfl ?_
                  refine lv_lstore (lv' := [(13, .long (pl_thr S (nI t))), (11, .long (pl_thr S (-1))), (10, .int (pl_own (S 0 a))), (9, .int (S 0 a)), (8, .int 0), (7, .int to), (6, .int 0), (5, .int (nI a)), (4, .int (nI t)), (0, .ref (ad 0)), (1, .ref q), (2, .int y), (3, .int od)]) hx hb dL_locks_202 hl (by decide) rfl (fun ls hl => ?_)
                  refine lv_aload_n hx hb dL_locks_204 rfl (lv_at hl 9 rfl) ?_
                  refine lv_iconst (v := (-1)) hx hb dL_locks_205 (by decide) ?_
                  refine fk_callS (As := [.ref (ad 0), .int (-1)]) (rest := []) ⟨hx, hb, hml, hown, hts⟩ (kl_words l D ad cI cT cJ _ S (-1)) (va_cwS 2 hts gL_locks_L_words rfl rfl rfl (by decide +kernel) ⟨Nat.le_of_ble_eq_true rfl, Nat.le_of_ble_eq_true rfl⟩) hK hP hD hS hA rfl hl.1 rfl (Nat.le_of_ble_eq_true rfl) dL_locks_206 ⟨Nat.le_of_ble_eq_true rfl, Nat.le_of_ble_eq_true rfl⟩ (fun H locs hP hD hS => ?_)
                  refine W.eq (g2 := F0 m 209 ls [.long (pl_wds S (-1))]) rfl ?_
                  refine lv_lstore (lv' := [(15, .long (pl_wds S (-1))), (13, .long (pl_thr S (nI t))), (11, .long (pl_thr S (-1))), (10, .int (pl_own (S 0 a))), (9, .int (S 0 a)), (8, .int 0), (7, .int to), (6, .int 0), (5, .int (nI a)), (4, .int (nI t)), (0, .ref (ad 0)), (1, .ref q), (2, .int y), (3, .int od)]) hx hb dL_locks_209 hl (by decide) rfl (fun ls hl => ?_)
                  refine lv_iload hx hb dL_locks_211 (lv_at hl 7 rfl) ?_
                  refine lv_if_ne (tgt := 229) hx hb dL_locks_213 (by decide) (fun c => absurd c (by decide)) (fun _ => ?_)
                  refine lv_aload_n hx hb dL_locks_216 rfl (lv_at hl 10 rfl) ?_
                  refine lv_iload hx hb dL_locks_217 (lv_at hl 9 rfl) ?_
                  refine fk_callV (As := [.int (nI t)]) (rest := []) ⟨hx, hb, hml, hown, hts⟩ (kc_stateOf l D ad cI cT cJ _ S t ht) (cwV 1 hts gL_locks_X2_stateOf rfl rfl rfl (by decide +kernel) ⟨Nat.le_of_ble_eq_true rfl, Nat.le_of_ble_eq_true rfl⟩) (fk_rvK hK hP) hK hP hD hS hA rfl hl.1 rfl (Nat.le_of_ble_eq_true rfl) dL_locks_219 ⟨Nat.le_of_ble_eq_true rfl, Nat.le_of_ble_eq_true rfl⟩ (fun H locs hP hD hS => ?_)
                  refine W.eq (g2 := F0 m 222 ls [.int (S 1 t)]) rfl ?_
                  refine W.eq (g2 := F0 m 222 ls [.int 0]) (by rw [show (S 1 t) = (0 : Int32) from hs0]) ?_
                  refine lv_if_ne (tgt := 229) hx hb dL_locks_222 (by decide) (fun c => absurd c (by decide)) (fun _ => ?_)
                  refine lv_iconst (v := 1) hx hb dL_locks_225 (by decide) ?_
                  refine lv_goto (tgt := 230) hx hb dL_locks_226 (by decide) ?_
                  refine lv_istore (lv' := [(17, .int 1), (15, .long (pl_wds S (-1))), (13, .long (pl_thr S (nI t))), (11, .long (pl_thr S (-1))), (10, .int (pl_own (S 0 a))), (9, .int (S 0 a)), (8, .int 0), (7, .int to), (6, .int 0), (5, .int (nI a)), (4, .int (nI t)), (0, .ref (ad 0)), (1, .ref q), (2, .int y), (3, .int od)]) hx hb dL_locks_230 hl (by decide) rfl (fun ls hl => ?_)
                  obtain ⟨k9, hk9, ek9, -, -⟩ := hG.1.1 t ht
                  refine lv_iload hx hb dL_locks_232 (lv_at hl 0 rfl) ?_
                  refine lv_if_eq (tgt := 246) hx hb dL_locks_234 (by decide) (fun c => absurd c (by decide)) (fun _ => ?_)
                  refine lv_aload_n hx hb dL_locks_237 rfl (lv_at hl 11 rfl) ?_
                  refine lv_iload hx hb dL_locks_238 (lv_at hl 10 rfl) ?_
                  refine fk_callV (As := [.int (nI t)]) (rest := []) ⟨hx, hb, hml, hown, hts⟩ (kc_locks l D ad cI cT cJ _ S t ht) (cwV 1 hts gL_locks_X2_locks rfl rfl rfl (by decide +kernel) ⟨Nat.le_of_ble_eq_true rfl, Nat.le_of_ble_eq_true rfl⟩) (fk_rvK hK hP) hK hP hD hS hA rfl hl.1 rfl (Nat.le_of_ble_eq_true rfl) dL_locks_240 ⟨Nat.le_of_ble_eq_true rfl, Nat.le_of_ble_eq_true rfl⟩ (fun H locs hP hD hS => ?_)
                  refine W.eq (g2 := F0 m 243 ls [.int (S 10 t)]) rfl ?_
                  refine W.eq (g2 := F0 m 243 ls [.int (nI k9)]) (by rw [show (S 10 t) = (nI k9) from ek9]) ?_
                  refine lv_goto (tgt := 247) hx hb dL_locks_243 (by decide) ?_
                  refine lv_istore (lv' := [(18, .int (nI k9)), (17, .int 1), (15, .long (pl_wds S (-1))), (13, .long (pl_thr S (nI t))), (11, .long (pl_thr S (-1))), (10, .int (pl_own (S 0 a))), (9, .int (S 0 a)), (8, .int 0), (7, .int to), (6, .int 0), (5, .int (nI a)), (4, .int (nI t)), (0, .ref (ad 0)), (1, .ref q), (2, .int y), (3, .int od)]) hx hb dL_locks_247 hl (by decide) rfl (fun ls hl => ?_)
                  refine lv_iconst (v := 0) hx hb dL_locks_249 (by decide) ?_
                  refine lv_istore (lv' := [(19, .int 0), (18, .int (nI k9)), (17, .int 1), (15, .long (pl_wds S (-1))), (13, .long (pl_thr S (nI t))), (11, .long (pl_thr S (-1))), (10, .int (pl_own (S 0 a))), (9, .int (S 0 a)), (8, .int 0), (7, .int to), (6, .int 0), (5, .int (nI a)), (4, .int (nI t)), (0, .ref (ad 0)), (1, .ref q), (2, .int y), (3, .int od)]) hx hb dL_locks_250 hl (by decide) rfl (fun ls hl => ?_)
                  refine lv_iconst (v := 0) hx hb dL_locks_252 (by decide) ?_
                  refine lv_istore (lv' := [(20, .int 0), (19, .int 0), (18, .int (nI k9)), (17, .int 1), (15, .long (pl_wds S (-1))), (13, .long (pl_thr S (nI t))), (11, .long (pl_thr S (-1))), (10, .int (pl_own (S 0 a))), (9, .int (S 0 a)), (8, .int 0), (7, .int to), (6, .int 0), (5, .int (nI a)), (4, .int (nI t)), (0, .ref (ad 0)), (1, .ref q), (2, .int y), (3, .int od)]) hx hb dL_locks_253 hl (by decide) rfl (fun ls hl => ?_)
                  have loop1 : ∀ (n1 : Nat) (k : Nat) (w : Bool), k + n1 = (kq_A S a).length → (w || ((kq_A S a).drop k).any (fun t => decide (S 1 t = 2))) = ((kq_A S a).any (fun t => decide (S 1 t = 2))) → ∀ (H : Heap) (locs : List Loc) (ls : Array Slot), va_P D vwCl (fk_kW ad cI cT S ++ (q, fk_pr cI P) :: X) H → va_D A (fk_kW ad cI cT S ++ (q, fk_pr cI P) :: X) → va_S A s.heap H locs → lv_has ls 25 [(20, .int (nI k)), (19, .int (fk_b w)), (18, .int (nI k9)), (17, .int 1), (15, .long (pl_wds S (-1))), (13, .long (pl_thr S (nI t))), (11, .long (pl_thr S (-1))), (10, .int (pl_own (S 0 a))), (9, .int (S 0 a)), (8, .int 0), (7, .int to), (6, .int 0), (5, .int (nI a)), (4, .int (nI t)), (0, .ref (ad 0)), (2, .int y), (3, .int od), (1, .ref q)] → W p l e rm_E s m ([.ref (ad 0), .ref q, .int y, .int od] : List Value).toArray below meth c H locs 0 0 (MQ below (fk_QE D (fk_ty cI cT cJ) A (kq_Phi ad cI cT q X (n + 20))) ([.ref (ad 0), .ref q, .int y, .int od] : List Value).toArray s 2 12 A) (F0 m 255 ls []) := by
                    intro n1
                    induction n1 with
                    | zero =>
                      intro k w hk hw H locs ls hP hD hS hl
                      have h8 := kq_A8 S a
                      have hw9 : w = (kq_A S a).any (fun t => decide (S 1 t = 2)) := by rw [← hw, (kq_stop hk).2, List.any_nil, Bool.or_false]
                      have hl : lv_has ls 25 [(20, .int (nI k)), (19, .int (fk_b ((kq_A S a).any (fun t => decide (S 1 t = 2))))), (18, .int (nI k9)), (17, .int 1), (15, .long (pl_wds S (-1))), (13, .long (pl_thr S (nI t))), (11, .long (pl_thr S (-1))), (10, .int (pl_own (S 0 a))), (9, .int (S 0 a)), (8, .int 0), (7, .int to), (6, .int 0), (5, .int (nI a)), (4, .int (nI t)), (0, .ref (ad 0)), (2, .int y), (3, .int od), (1, .ref q)] := by rw [hw9] at hl; exact hl
                      refine lv_iload hx hb dL_locks_255 (lv_at hl 11 rfl) ?_
                      refine lv_if_ne (tgt := 305) hx hb dL_locks_257 (by decide) (fun c => absurd c (by decide)) (fun _ => ?_)
                      refine lv_iload hx hb dL_locks_260 (lv_at hl 0 rfl) ?_
                      refine lv_aload_n hx hb dL_locks_262 rfl (lv_at hl 14 rfl) ?_
                      refine lv_iload hx hb dL_locks_263 (lv_at hl 12 rfl) ?_
                      refine fk_callV (As := [.int (nI a)]) (rest := [.int (nI k)]) ⟨hx, hb, hml, hown, hts⟩ (kc_waiters l D ad cI cT cJ _ S a ha) (cwV 1 hts gL_locks_X2_waiters rfl rfl rfl (by decide +kernel) ⟨Nat.le_of_ble_eq_true rfl, Nat.le_of_ble_eq_true rfl⟩) (fk_rvK hK hP) hK hP hD hS hA rfl hl.1 rfl (Nat.le_of_ble_eq_true rfl) dL_locks_265 ⟨Nat.le_of_ble_eq_true rfl, Nat.le_of_ble_eq_true rfl⟩ (fun H locs hP hD hS => ?_)
                      refine W.eq (g2 := F0 m 268 ls [.int (kk_waiters S (nI a)), .int (nI k)]) rfl ?_
                      refine W.eq (g2 := F0 m 268 ls [.int (nI ((kq_A S a).length)), .int (nI k)]) (by rw [show (kk_waiters S (nI a)) = (nI ((kq_A S a).length)) from (kq_waiters _ _)]) ?_
                      refine lv_icmp_ge (tgt := 305) hx hb dL_locks_268 (by decide) (fun c_7 => ?_) (fun c_7 => absurd (nI_le (a := (kq_A S a).length) (b := k) (by omega) (by omega)) c_7)
                      rcases pl_own_cases (S 0 a) with ⟨hoe, how⟩ | ⟨o, ho8, hoe, how⟩ | ⟨o, ho8, ho9, hoe, how⟩
                      · have hl : lv_has ls 25 [(20, .int (nI k)), (19, .int (fk_b ((kq_A S a).any (fun t => decide (S 1 t = 2))))), (18, .int (nI k9)), (17, .int 1), (15, .long (pl_wds S (-1))), (13, .long (pl_thr S (nI t))), (11, .long (pl_thr S (-1))), (10, .int (-1)), (9, .int (S 0 a)), (8, .int 0), (7, .int to), (6, .int 0), (5, .int (nI a)), (4, .int (nI t)), (0, .ref (ad 0)), (2, .int y), (3, .int od), (1, .ref q)] := by rw [hoe] at hl; exact hl
                        rcases pl_bit30 (S 0 a) with ⟨hb0, hb1⟩ | ⟨hb0, hb1⟩
                        · rcases Bool.eq_false_or_eq_true ((kq_A S a).any (fun t => decide (S 1 t = 2))) with hW9 | hW9
                          · have hl : lv_has ls 25 [(20, .int (nI k)), (19, .int 1), (18, .int (nI k9)), (17, .int 1), (15, .long (pl_wds S (-1))), (13, .long (pl_thr S (nI t))), (11, .long (pl_thr S (-1))), (10, .int (-1)), (9, .int (S 0 a)), (8, .int 0), (7, .int to), (6, .int 0), (5, .int (nI a)), (4, .int (nI t)), (0, .ref (ad 0)), (2, .int y), (3, .int od), (1, .ref q)] := by rw [hW9] at hl; exact hl
                            refine lv_iload hx hb dL_locks_305 (lv_at hl 7 rfl) ?_
                            refine lv_bipush (v := 7) hx hb dL_locks_307 (by decide) ?_
                            refine lv_icmp_gt (tgt := 327) hx hb dL_locks_309 (by decide) (fun c => absurd c (by decide)) (fun _ => ?_)
                            refine lv_iload hx hb dL_locks_312 (lv_at hl 7 rfl) ?_
                            refine lv_if_lt (tgt := 331) hx hb dL_locks_314 (by decide) (fun _ => ?_) (fun c => absurd c (by decide))
                            refine lv_iconst (v := 0) hx hb dL_locks_331 (by decide) ?_
                            refine lv_istore (lv' := [(20, .int 0), (19, .int 1), (18, .int (nI k9)), (17, .int 1), (15, .long (pl_wds S (-1))), (13, .long (pl_thr S (nI t))), (11, .long (pl_thr S (-1))), (10, .int (-1)), (9, .int (S 0 a)), (8, .int 0), (7, .int to), (6, .int 0), (5, .int (nI a)), (4, .int (nI t)), (0, .ref (ad 0)), (2, .int y), (3, .int od), (1, .ref q)]) hx hb dL_locks_332 hl (by decide) rfl (fun ls hl => ?_)
                            refine lv_aload_n hx hb dL_locks_334 rfl (lv_at hl 14 rfl) ?_
                            refine lv_iconst (v := 0) hx hb dL_locks_335 (by decide) ?_
                            refine lv_iload hx hb dL_locks_336 (lv_at hl 13 rfl) ?_
                            refine lv_iload hx hb dL_locks_338 (lv_at hl 12 rfl) ?_
                            refine lv_iload hx hb dL_locks_340 (lv_at hl 10 rfl) ?_
                            refine lv_iconst (v := 0) hx hb dL_locks_342 (by decide) ?_
                            obtain ⟨hk1, hk2⟩ := kk_lock_give (t := t) how to
                            rw [if_pos hb0] at hk1
                            obtain ⟨hG1, hgt, hg1, hgw, k8, k1, j9, ek8, hk8, ek1, hk16, hj9, ej9, hkk⟩ := kq_give hG ht ha (S 0 a &&& 1073741824) hs0
                            have hke : k8 = k9 := (nI_eq (by omega) (by omega)).mp (ek8.symm.trans ek9)
                            refine fk_lcallS (As := [.ref (ad 0), .int 0, .int (nI t), .int (nI a), .int to, .int 0]) (rest := []) ⟨hx, hb, hml, hown, hts⟩ (Lc_lock l D ad cI cT cJ _ S _ _ _ _ (kk_give S t (nI a) (S 0 a &&& 1073741824)) 0 (fun X => by have h9 := kc_lock l D ad cI cT cJ X S t ht a ha to hs0 hbad hG.1.sz; rw [hk1, hk2] at h9; exact h9)) (vx_cwSW 6 hts gL_locks_L_acts rfl rfl rfl (by decide +kernel) ⟨Nat.le_of_ble_eq_true rfl, Nat.le_of_ble_eq_true rfl⟩) hK hP hD hS hA hZ hN rfl hl.1 rfl (Nat.le_of_ble_eq_true rfl) dL_locks_343 ⟨Nat.le_of_ble_eq_true rfl, Nat.le_of_ble_eq_true rfl⟩ (fun H locs hP hD hS => ?_)
                            refine W.eq (g2 := F0 m 346 ls [.int 0]) rfl ?_
                            refine lv_istore (lv' := [(21, .int 0), (20, .int 0), (19, .int 1), (18, .int (nI k9)), (17, .int 1), (15, .long (pl_wds S (-1))), (13, .long (pl_thr S (nI t))), (11, .long (pl_thr S (-1))), (10, .int (-1)), (9, .int (S 0 a)), (8, .int 0), (7, .int to), (6, .int 0), (5, .int (nI a)), (4, .int (nI t)), (0, .ref (ad 0)), (2, .int y), (3, .int od), (1, .ref q)]) hx hb dL_locks_346 hl (by decide) rfl (fun ls hl => ?_)
                            refine lv_iload hx hb dL_locks_348 (lv_at hl 12 rfl) ?_
                            refine lv_if_ne (tgt := 363) hx hb dL_locks_350 (by decide) (fun c => absurd c (by decide)) (fun _ => ?_)
                            refine lv_iload hx hb dL_locks_353 (lv_at hl 10 rfl) ?_
                            refine lv_if_ne (tgt := 363) hx hb dL_locks_355 (by decide) (fun c => absurd c (by decide)) (fun _ => ?_)
                            refine lv_iload hx hb dL_locks_358 (lv_at hl 4 rfl) ?_
                            refine lv_if_ne (tgt := 418) hx hb dL_locks_360 (by decide) (fun _ => ?_) (fun c => absurd c (by decide))
                            refine lv_iload hx hb dL_locks_418 (lv_at hl 0 rfl) ?_
                            refine lv_iconst (v := 2) hx hb dL_locks_420 (by decide) ?_
                            refine lv_icmp_le (tgt := 505) hx hb dL_locks_421 (by decide) (fun _ => ?_) (fun c => absurd c (by decide))
                            refine lv_iload hx hb dL_locks_505 (lv_at hl 0 rfl) ?_
                            refine lv_iconst (v := 2) hx hb dL_locks_507 (by decide) ?_
                            refine lv_icmp_ne (tgt := 603) hx hb dL_locks_508 (by decide) (fun _ => ?_) (fun c => absurd c (by decide))
                            refine lv_iload hx hb dL_locks_603 (lv_at hl 9 rfl) ?_
                            refine lv_bipush (v := 30) hx hb dL_locks_605 (by decide) ?_
                            refine lv_ishr hx hb dL_locks_607 ?_
                            refine lv_iconst (v := 1) hx hb dL_locks_608 (by decide) ?_
                            refine lv_iand hx hb dL_locks_609 ?_
                            refine W.eq (g2 := F0 m 610 ls [.int 0]) (by rw [hb1]) ?_
                            refine lv_istore (lv' := [(22, .int 0), (21, .int 0), (20, .int 0), (19, .int 1), (18, .int (nI k9)), (17, .int 1), (15, .long (pl_wds S (-1))), (13, .long (pl_thr S (nI t))), (11, .long (pl_thr S (-1))), (10, .int (-1)), (9, .int (S 0 a)), (8, .int 0), (7, .int to), (6, .int 0), (5, .int (nI a)), (4, .int (nI t)), (0, .ref (ad 0)), (2, .int y), (3, .int od), (1, .ref q)]) hx hb dL_locks_610 hl (by decide) rfl (fun ls hl => ?_)
                            refine lv_iconst (v := 0) hx hb dL_locks_612 (by decide) ?_
                            refine lv_istore (lv' := [(23, .int 0), (22, .int 0), (21, .int 0), (20, .int 0), (19, .int 1), (18, .int (nI k9)), (17, .int 1), (15, .long (pl_wds S (-1))), (13, .long (pl_thr S (nI t))), (11, .long (pl_thr S (-1))), (10, .int (-1)), (9, .int (S 0 a)), (8, .int 0), (7, .int to), (6, .int 0), (5, .int (nI a)), (4, .int (nI t)), (0, .ref (ad 0)), (2, .int y), (3, .int od), (1, .ref q)]) hx hb dL_locks_613 hl (by decide) rfl (fun ls hl => ?_)
                            refine lv_iconst (v := 0) hx hb dL_locks_615 (by decide) ?_
                            refine lv_istore (lv' := [(24, .int 0), (23, .int 0), (22, .int 0), (21, .int 0), (20, .int 0), (19, .int 1), (18, .int (nI k9)), (17, .int 1), (15, .long (pl_wds S (-1))), (13, .long (pl_thr S (nI t))), (11, .long (pl_thr S (-1))), (10, .int (-1)), (9, .int (S 0 a)), (8, .int 0), (7, .int to), (6, .int 0), (5, .int (nI a)), (4, .int (nI t)), (0, .ref (ad 0)), (2, .int y), (3, .int od), (1, .ref q)]) hx hb dL_locks_616 hl (by decide) rfl (fun ls hl => ?_)
                            have loop2 : ∀ (n1 : Nat) (k : Nat) (w : Bool), k + n1 = k1 → (w = true ∨ k ≤ j9) → ∀ (H : Heap) (locs : List Loc) (ls : Array Slot), va_P D vwCl (fk_kW ad cI cT (kk_give S t (nI a) (S 0 a &&& 1073741824)) ++ (q, fk_pr cI P) :: X) H → va_D A (fk_kW ad cI cT (kk_give S t (nI a) (S 0 a &&& 1073741824)) ++ (q, fk_pr cI P) :: X) → va_S A s.heap H locs → lv_has ls 25 [(24, .int (nI k)), (23, .int (fk_b w)), (22, .int 0), (21, .int 0), (19, .int 1), (18, .int (nI k9)), (13, .long (pl_thr S (nI t))), (10, .int (-1)), (9, .int (S 0 a)), (5, .int (nI a)), (4, .int (nI t)), (0, .ref (ad 0))] → W p l e rm_E s m ([.ref (ad 0), .ref q, .int y, .int od] : List Value).toArray below meth c H locs (0 + 1) (0 + 6) (MQ below (fk_QE D (fk_ty cI cT cJ) A (kq_Phi ad cI cT q X (n + 20))) ([.ref (ad 0), .ref q, .int y, .int od] : List Value).toArray s 2 12 A) (F0 m 618 ls []) := by
                              intro n1
                              induction n1 with
                              | zero =>
                                intro k w hk hw H locs ls hP hD hS hl
                                have hw9 : w = true := hw.elim id (fun h9 => absurd h9 (by omega))
                                have hl : lv_has ls 25 [(24, .int (nI k)), (23, .int 1), (22, .int 0), (21, .int 0), (19, .int 1), (18, .int (nI k9)), (13, .long (pl_thr S (nI t))), (10, .int (-1)), (9, .int (S 0 a)), (5, .int (nI a)), (4, .int (nI t)), (0, .ref (ad 0))] := by rw [hw9] at hl; exact hl
                                refine lv_iload hx hb dL_locks_618 (lv_at hl 0 rfl) ?_
                                refine lv_aload_n hx hb dL_locks_620 rfl (lv_at hl 11 rfl) ?_
                                refine lv_iload hx hb dL_locks_621 (lv_at hl 10 rfl) ?_
                                refine fk_callV (As := [.int (nI t)]) (rest := [.int (nI k)]) ⟨hx, hb, hml, hown, hts⟩ (kc_locks l D ad cI cT cJ _ (kk_give S t (nI a) (S 0 a &&& 1073741824)) t ht) (cwV 1 hts gL_locks_X2_locks rfl rfl rfl (by decide +kernel) ⟨Nat.le_of_ble_eq_true rfl, Nat.le_of_ble_eq_true rfl⟩) (fk_rvK hK hP) hK hP hD hS hA rfl hl.1 rfl (Nat.le_of_ble_eq_true rfl) dL_locks_623 ⟨Nat.le_of_ble_eq_true rfl, Nat.le_of_ble_eq_true rfl⟩ (fun H locs hP hD hS => ?_)
                                refine W.eq (g2 := F0 m 626 ls [.int ((kk_give S t (nI a) (S 0 a &&& 1073741824)) 10 t), .int (nI k)]) rfl ?_
                                refine W.eq (g2 := F0 m 626 ls [.int (nI k1), .int (nI k)]) (by rw [show ((kk_give S t (nI a) (S 0 a &&& 1073741824)) 10 t) = (nI k1) from ek1]) ?_
                                refine lv_icmp_ge (tgt := 660) hx hb dL_locks_626 (by decide) (fun c_15 => ?_) (fun c_15 => absurd (nI_le (a := k1) (b := k) (by omega) (by omega)) c_15)
                                rcases hkk with hkk | ⟨hkk, hka⟩
                                · refine lv_iload hx hb dL_locks_660 (lv_at hl 3 rfl) ?_
                                  refine lv_iload hx hb dL_locks_662 (lv_at hl 2 rfl) ?_
                                  refine lv_icmp_ne (tgt := 782) hx hb dL_locks_664 (by decide) (fun c => absurd c (by decide)) (fun _ => ?_)
                                  refine lv_iload hx hb dL_locks_667 (lv_at hl 7 rfl) ?_
                                  refine lv_iconst (v := (-1)) hx hb dL_locks_669 (by decide) ?_
                                  refine lv_icmp_ne (tgt := 782) hx hb dL_locks_670 (by decide) (fun c => absurd c (by decide)) (fun _ => ?_)
                                  refine lv_iload hx hb dL_locks_673 (lv_at hl 1 rfl) ?_
                                  refine lv_if_eq (tgt := 782) hx hb dL_locks_675 (by decide) (fun c => absurd c (by decide)) (fun _ => ?_)
                                  refine lv_aload_n hx hb dL_locks_678 rfl (lv_at hl 11 rfl) ?_
                                  refine lv_iload hx hb dL_locks_679 (lv_at hl 10 rfl) ?_
                                  refine fk_callV (As := [.int (nI t)]) (rest := []) ⟨hx, hb, hml, hown, hts⟩ (kc_locks l D ad cI cT cJ _ (kk_give S t (nI a) (S 0 a &&& 1073741824)) t ht) (cwV 1 hts gL_locks_X2_locks rfl rfl rfl (by decide +kernel) ⟨Nat.le_of_ble_eq_true rfl, Nat.le_of_ble_eq_true rfl⟩) (fk_rvK hK hP) hK hP hD hS hA rfl hl.1 rfl (Nat.le_of_ble_eq_true rfl) dL_locks_681 ⟨Nat.le_of_ble_eq_true rfl, Nat.le_of_ble_eq_true rfl⟩ (fun H locs hP hD hS => ?_)
                                  refine W.eq (g2 := F0 m 684 ls [.int ((kk_give S t (nI a) (S 0 a &&& 1073741824)) 10 t)]) rfl ?_
                                  refine W.eq (g2 := F0 m 684 ls [.int (nI k9)]) (by rw [show ((kk_give S t (nI a) (S 0 a &&& 1073741824)) 10 t) = (nI k9) from (by rw [ek1, hkk, hke])]) ?_
                                  refine lv_iload hx hb dL_locks_684 (lv_at hl 5 rfl) ?_
                                  refine lv_isub hx hb dL_locks_686 ?_
                                  refine lv_iconst (v := 2) hx hb dL_locks_687 (by decide) ?_
                                  refine lv_icmp_ge (tgt := 782) hx hb dL_locks_688 (by decide) (fun c_19 => absurd c_19 (by rw [Int32.sub_self]; decide)) (fun c_19 => ?_)
                                  refine lv_aload_n hx hb dL_locks_691 rfl (lv_at hl 11 rfl) ?_
                                  refine lv_iload hx hb dL_locks_692 (lv_at hl 10 rfl) ?_
                                  refine fk_callV (As := [.int (nI t)]) (rest := []) ⟨hx, hb, hml, hown, hts⟩ (kc_locks l D ad cI cT cJ _ (kk_give S t (nI a) (S 0 a &&& 1073741824)) t ht) (cwV 1 hts gL_locks_X2_locks rfl rfl rfl (by decide +kernel) ⟨Nat.le_of_ble_eq_true rfl, Nat.le_of_ble_eq_true rfl⟩) (fk_rvK hK hP) hK hP hD hS hA rfl hl.1 rfl (Nat.le_of_ble_eq_true rfl) dL_locks_694 ⟨Nat.le_of_ble_eq_true rfl, Nat.le_of_ble_eq_true rfl⟩ (fun H locs hP hD hS => ?_)
                                  refine W.eq (g2 := F0 m 697 ls [.int ((kk_give S t (nI a) (S 0 a &&& 1073741824)) 10 t)]) rfl ?_
                                  refine W.eq (g2 := F0 m 697 ls [.int (nI k9)]) (by rw [show ((kk_give S t (nI a) (S 0 a &&& 1073741824)) 10 t) = (nI k9) from (by rw [ek1, hkk, hke])]) ?_
                                  refine lv_iload hx hb dL_locks_697 (lv_at hl 5 rfl) ?_
                                  refine lv_icmp_lt (tgt := 782) hx hb dL_locks_699 (by decide) (fun c_20 => absurd c_20 (nI_nlt (a := k9) (b := k9) (by omega) (by omega))) (fun c_20 => ?_)
                                  refine lv_aload_n hx hb dL_locks_702 rfl (lv_at hl 11 rfl) ?_
                                  refine lv_iload hx hb dL_locks_703 (lv_at hl 10 rfl) ?_
                                  refine fk_callV (As := [.int (nI t)]) (rest := []) ⟨hx, hb, hml, hown, hts⟩ (kc_locks l D ad cI cT cJ _ (kk_give S t (nI a) (S 0 a &&& 1073741824)) t ht) (cwV 1 hts gL_locks_X2_locks rfl rfl rfl (by decide +kernel) ⟨Nat.le_of_ble_eq_true rfl, Nat.le_of_ble_eq_true rfl⟩) (fk_rvK hK hP) hK hP hD hS hA rfl hl.1 rfl (Nat.le_of_ble_eq_true rfl) dL_locks_705 ⟨Nat.le_of_ble_eq_true rfl, Nat.le_of_ble_eq_true rfl⟩ (fun H locs hP hD hS => ?_)
                                  refine W.eq (g2 := F0 m 708 ls [.int ((kk_give S t (nI a) (S 0 a &&& 1073741824)) 10 t)]) rfl ?_
                                  refine W.eq (g2 := F0 m 708 ls [.int (nI k9)]) (by rw [show ((kk_give S t (nI a) (S 0 a &&& 1073741824)) 10 t) = (nI k9) from (by rw [ek1, hkk, hke])]) ?_
                                  refine lv_iload hx hb dL_locks_708 (lv_at hl 5 rfl) ?_
                                  refine lv_icmp_eq (tgt := 726) hx hb dL_locks_710 (by decide) (fun _ => ?_) (fun c => absurd rfl c)
                                  refine lv_aload_n hx hb dL_locks_726 rfl (lv_at hl 11 rfl) ?_
                                  refine lv_iload hx hb dL_locks_727 (lv_at hl 9 rfl) ?_
                                  refine fk_callV (As := [.int (nI a)]) (rest := []) ⟨hx, hb, hml, hown, hts⟩ (kc_word l D ad cI cT cJ _ (kk_give S t (nI a) (S 0 a &&& 1073741824)) a ha) (cwV 1 hts gL_locks_X2_word rfl rfl rfl (by decide +kernel) ⟨Nat.le_of_ble_eq_true rfl, Nat.le_of_ble_eq_true rfl⟩) (fk_rvK hK hP) hK hP hD hS hA rfl hl.1 rfl (Nat.le_of_ble_eq_true rfl) dL_locks_729 ⟨Nat.le_of_ble_eq_true rfl, Nat.le_of_ble_eq_true rfl⟩ (fun H locs hP hD hS => ?_)
                                  refine W.eq (g2 := F0 m 732 ls [.int ((kk_give S t (nI a) (S 0 a &&& 1073741824)) 0 a)]) rfl ?_
                                  refine lv_iload hx hb dL_locks_732 (lv_at hl 10 rfl) ?_
                                  refine lv_iconst (v := 1) hx hb dL_locks_734 (by decide) ?_
                                  refine lv_iadd hx hb dL_locks_735 ?_
                                  refine W.eq (g2 := F0 m 736 ls [.int (nI (t + 1)), .int ((kk_give S t (nI a) (S 0 a &&& 1073741824)) 0 a)]) (by rw [nI_1]) ?_
                                  refine lv_iload hx hb dL_locks_736 (lv_at hl 2 rfl) ?_
                                  refine lv_bipush (v := 30) hx hb dL_locks_738 (by decide) ?_
                                  refine lv_ishl hx hb dL_locks_740 ?_
                                  refine lv_iadd hx hb dL_locks_741 ?_
                                  refine lv_iload hx hb dL_locks_742 (lv_at hl 4 rfl) ?_
                                  refine lv_if_eq (tgt := 752) hx hb dL_locks_744 (by decide) (fun c => absurd c (by decide)) (fun _ => ?_)
                                  refine lv_ldc (own := RL) (v := (-2147483648)) hx hb hown (hts (.constant RL 159 (-2147483648)) (List.mem_of_getElem? (i := 4) rfl)) dL_locks_747 ?_
                                  refine lv_goto (tgt := 753) hx hb dL_locks_749 (by decide) ?_
                                  refine lv_ior hx hb dL_locks_753 ?_
                                  refine lv_icmp_ne (tgt := 782) hx hb dL_locks_754 (by decide) (fun c_22 => absurd c_22 (fun h9 => h9 (by rw [hgw, if_neg (fun z => by have := (kq_lk_any S a).mpr z; rw [hW9] at this; cases this), (pl_wd ht).1, hb0]))) (fun c_22 => ?_)
                                  refine lv_aload_n hx hb dL_locks_757 rfl (lv_at hl 11 rfl) ?_
                                  refine lv_iload hx hb dL_locks_758 (lv_at hl 10 rfl) ?_
                                  refine fk_callV (As := [.int (nI t)]) (rest := []) ⟨hx, hb, hml, hown, hts⟩ (kc_stateOf l D ad cI cT cJ _ (kk_give S t (nI a) (S 0 a &&& 1073741824)) t ht) (cwV 1 hts gL_locks_X2_stateOf rfl rfl rfl (by decide +kernel) ⟨Nat.le_of_ble_eq_true rfl, Nat.le_of_ble_eq_true rfl⟩) (fk_rvK hK hP) hK hP hD hS hA rfl hl.1 rfl (Nat.le_of_ble_eq_true rfl) dL_locks_760 ⟨Nat.le_of_ble_eq_true rfl, Nat.le_of_ble_eq_true rfl⟩ (fun H locs hP hD hS => ?_)
                                  refine W.eq (g2 := F0 m 763 ls [.int ((kk_give S t (nI a) (S 0 a &&& 1073741824)) 1 t)]) rfl ?_
                                  refine W.eq (g2 := F0 m 763 ls [.int 0]) (by rw [show ((kk_give S t (nI a) (S 0 a &&& 1073741824)) 1 t) = (0 : Int32) from hg1]) ?_
                                  refine lv_if_ne (tgt := 782) hx hb dL_locks_763 (by decide) (fun c => absurd c (by decide)) (fun _ => ?_)
                                  refine lv_aload_n hx hb dL_locks_766 rfl (lv_at hl 11 rfl) ?_
                                  refine lv_iload hx hb dL_locks_767 (lv_at hl 10 rfl) ?_
                                  refine fk_callS (As := [.ref (ad 0), .int (nI t)]) (rest := []) ⟨hx, hb, hml, hown, hts⟩ (kl_threads l D ad cI cT cJ _ (kk_give S t (nI a) (S 0 a &&& 1073741824)) hG1.1.sz hG1.1.J (nI t)) (va_cwS 2 hts gL_locks_L_threads rfl rfl rfl (by decide +kernel) ⟨Nat.le_of_ble_eq_true rfl, Nat.le_of_ble_eq_true rfl⟩) hK hP hD hS hA rfl hl.1 rfl (Nat.le_of_ble_eq_true rfl) dL_locks_769 ⟨Nat.le_of_ble_eq_true rfl, Nat.le_of_ble_eq_true rfl⟩ (fun H locs hP hD hS => ?_)
                                  refine W.eq (g2 := F0 m 772 ls [.long (pl_thr (kk_give S t (nI a) (S 0 a &&& 1073741824)) (nI t))]) rfl ?_
                                  refine W.eq (g2 := F0 m 772 ls [.long (pl_thr S (nI t))]) (by rw [show (pl_thr (kk_give S t (nI a) (S 0 a &&& 1073741824)) (nI t)) = (pl_thr S (nI t)) from hgt]) ?_
                                  refine lv_lload hx hb dL_locks_772 (lv_at hl 6 rfl) ?_
                                  refine W.lcmp hx hb dL_locks_774 ?_
                                  refine W.eq (g2 := F0 m 775 ls [.int 0]) (by rw [fk_cmp_self]) ?_
                                  refine lv_if_ne (tgt := 782) hx hb dL_locks_775 (by decide) (fun c => absurd c (by decide)) (fun _ => ?_)
                                  refine lv_iconst (v := 1) hx hb dL_locks_778 (by decide) ?_
                                  refine lv_goto (tgt := 783) hx hb dL_locks_779 (by decide) ?_
                                  exact fk_zretE (Nat.le_of_ble_eq_true rfl) (Nat.le_of_ble_eq_true rfl) hx hb hr hlocks hP hK hD hS rfl ⟨rfl, _, _, rfl, (hG1).wk (by omega)⟩ dL_locks_783
                                · refine lv_iload hx hb dL_locks_660 (lv_at hl 3 rfl) ?_
                                  refine lv_iload hx hb dL_locks_662 (lv_at hl 2 rfl) ?_
                                  refine lv_icmp_ne (tgt := 782) hx hb dL_locks_664 (by decide) (fun c => absurd c (by decide)) (fun _ => ?_)
                                  refine lv_iload hx hb dL_locks_667 (lv_at hl 7 rfl) ?_
                                  refine lv_iconst (v := (-1)) hx hb dL_locks_669 (by decide) ?_
                                  refine lv_icmp_ne (tgt := 782) hx hb dL_locks_670 (by decide) (fun c => absurd c (by decide)) (fun _ => ?_)
                                  refine lv_iload hx hb dL_locks_673 (lv_at hl 1 rfl) ?_
                                  refine lv_if_eq (tgt := 782) hx hb dL_locks_675 (by decide) (fun c => absurd c (by decide)) (fun _ => ?_)
                                  refine lv_aload_n hx hb dL_locks_678 rfl (lv_at hl 11 rfl) ?_
                                  refine lv_iload hx hb dL_locks_679 (lv_at hl 10 rfl) ?_
                                  refine fk_callV (As := [.int (nI t)]) (rest := []) ⟨hx, hb, hml, hown, hts⟩ (kc_locks l D ad cI cT cJ _ (kk_give S t (nI a) (S 0 a &&& 1073741824)) t ht) (cwV 1 hts gL_locks_X2_locks rfl rfl rfl (by decide +kernel) ⟨Nat.le_of_ble_eq_true rfl, Nat.le_of_ble_eq_true rfl⟩) (fk_rvK hK hP) hK hP hD hS hA rfl hl.1 rfl (Nat.le_of_ble_eq_true rfl) dL_locks_681 ⟨Nat.le_of_ble_eq_true rfl, Nat.le_of_ble_eq_true rfl⟩ (fun H locs hP hD hS => ?_)
                                  refine W.eq (g2 := F0 m 684 ls [.int ((kk_give S t (nI a) (S 0 a &&& 1073741824)) 10 t)]) rfl ?_
                                  refine W.eq (g2 := F0 m 684 ls [.int (nI (k9 + 1))]) (by rw [show ((kk_give S t (nI a) (S 0 a &&& 1073741824)) 10 t) = (nI (k9 + 1)) from (by rw [ek1, hkk, hke])]) ?_
                                  refine lv_iload hx hb dL_locks_684 (lv_at hl 5 rfl) ?_
                                  refine lv_isub hx hb dL_locks_686 ?_
                                  refine lv_iconst (v := 2) hx hb dL_locks_687 (by decide) ?_
                                  refine lv_icmp_ge (tgt := 782) hx hb dL_locks_688 (by decide) (fun c_28 => absurd c_28 (by rw [pk_sub (by omega), Nat.add_sub_cancel_left]; decide)) (fun c_28 => ?_)
                                  refine lv_aload_n hx hb dL_locks_691 rfl (lv_at hl 11 rfl) ?_
                                  refine lv_iload hx hb dL_locks_692 (lv_at hl 10 rfl) ?_
                                  refine fk_callV (As := [.int (nI t)]) (rest := []) ⟨hx, hb, hml, hown, hts⟩ (kc_locks l D ad cI cT cJ _ (kk_give S t (nI a) (S 0 a &&& 1073741824)) t ht) (cwV 1 hts gL_locks_X2_locks rfl rfl rfl (by decide +kernel) ⟨Nat.le_of_ble_eq_true rfl, Nat.le_of_ble_eq_true rfl⟩) (fk_rvK hK hP) hK hP hD hS hA rfl hl.1 rfl (Nat.le_of_ble_eq_true rfl) dL_locks_694 ⟨Nat.le_of_ble_eq_true rfl, Nat.le_of_ble_eq_true rfl⟩ (fun H locs hP hD hS => ?_)
                                  refine W.eq (g2 := F0 m 697 ls [.int ((kk_give S t (nI a) (S 0 a &&& 1073741824)) 10 t)]) rfl ?_
                                  refine W.eq (g2 := F0 m 697 ls [.int (nI (k9 + 1))]) (by rw [show ((kk_give S t (nI a) (S 0 a &&& 1073741824)) 10 t) = (nI (k9 + 1)) from (by rw [ek1, hkk, hke])]) ?_
                                  refine lv_iload hx hb dL_locks_697 (lv_at hl 5 rfl) ?_
                                  refine lv_icmp_lt (tgt := 782) hx hb dL_locks_699 (by decide) (fun c_29 => absurd c_29 (nI_nlt (a := k9 + 1) (b := k9) (by omega) (by omega))) (fun c_29 => ?_)
                                  refine lv_aload_n hx hb dL_locks_702 rfl (lv_at hl 11 rfl) ?_
                                  refine lv_iload hx hb dL_locks_703 (lv_at hl 10 rfl) ?_
                                  refine fk_callV (As := [.int (nI t)]) (rest := []) ⟨hx, hb, hml, hown, hts⟩ (kc_locks l D ad cI cT cJ _ (kk_give S t (nI a) (S 0 a &&& 1073741824)) t ht) (cwV 1 hts gL_locks_X2_locks rfl rfl rfl (by decide +kernel) ⟨Nat.le_of_ble_eq_true rfl, Nat.le_of_ble_eq_true rfl⟩) (fk_rvK hK hP) hK hP hD hS hA rfl hl.1 rfl (Nat.le_of_ble_eq_true rfl) dL_locks_705 ⟨Nat.le_of_ble_eq_true rfl, Nat.le_of_ble_eq_true rfl⟩ (fun H locs hP hD hS => ?_)
                                  refine W.eq (g2 := F0 m 708 ls [.int ((kk_give S t (nI a) (S 0 a &&& 1073741824)) 10 t)]) rfl ?_
                                  refine W.eq (g2 := F0 m 708 ls [.int (nI (k9 + 1))]) (by rw [show ((kk_give S t (nI a) (S 0 a &&& 1073741824)) 10 t) = (nI (k9 + 1)) from (by rw [ek1, hkk, hke])]) ?_
                                  refine lv_iload hx hb dL_locks_708 (lv_at hl 5 rfl) ?_
                                  refine lv_icmp_eq (tgt := 726) hx hb dL_locks_710 (by decide) (fun c_30 => absurd c_30 (fun c9 => absurd ((nI_eq (by omega) (by omega)).mp c9) (by omega))) (fun c_30 => ?_)
                                  refine lv_aload_n hx hb dL_locks_713 rfl (lv_at hl 11 rfl) ?_
                                  refine lv_iload hx hb dL_locks_714 (lv_at hl 10 rfl) ?_
                                  refine lv_iload hx hb dL_locks_716 (lv_at hl 5 rfl) ?_
                                  refine fk_callV (As := [.int (nI t), .int (nI k9)]) (rest := []) ⟨hx, hb, hml, hown, hts⟩ (kc_lockAt l D ad cI cT cJ _ (kk_give S t (nI a) (S 0 a &&& 1073741824)) t ht (nI k9) hG1.1.sz ⟨nI_pos' (by omega), by rw [ek1, hkk, hke]; exact nI_lt (by omega) (by omega)⟩) (cwV 2 hts gL_locks_X2_lockAt rfl rfl rfl (by decide +kernel) ⟨Nat.le_of_ble_eq_true rfl, Nat.le_of_ble_eq_true rfl⟩) (fk_rvK hK hP) hK hP hD hS hA rfl hl.1 rfl (Nat.le_of_ble_eq_true rfl) dL_locks_718 ⟨Nat.le_of_ble_eq_true rfl, Nat.le_of_ble_eq_true rfl⟩ (fun H locs hP hD hS => ?_)
                                  refine W.eq (g2 := F0 m 721 ls [.int (kk_addrAt (kk_give S t (nI a) (S 0 a &&& 1073741824)) t (nI k9))]) rfl ?_
                                  refine W.eq (g2 := F0 m 721 ls [.int (nI a)]) (by rw [show (kk_addrAt (kk_give S t (nI a) (S 0 a &&& 1073741824)) t (nI k9)) = (nI a) from (by rw [← hke]; exact hka)]) ?_
                                  refine lv_iload hx hb dL_locks_721 (lv_at hl 9 rfl) ?_
                                  refine lv_icmp_ne (tgt := 782) hx hb dL_locks_723 (by decide) (fun c => absurd rfl c) (fun _ => ?_)
                                  refine lv_aload_n hx hb dL_locks_726 rfl (lv_at hl 11 rfl) ?_
                                  refine lv_iload hx hb dL_locks_727 (lv_at hl 9 rfl) ?_
                                  refine fk_callV (As := [.int (nI a)]) (rest := []) ⟨hx, hb, hml, hown, hts⟩ (kc_word l D ad cI cT cJ _ (kk_give S t (nI a) (S 0 a &&& 1073741824)) a ha) (cwV 1 hts gL_locks_X2_word rfl rfl rfl (by decide +kernel) ⟨Nat.le_of_ble_eq_true rfl, Nat.le_of_ble_eq_true rfl⟩) (fk_rvK hK hP) hK hP hD hS hA rfl hl.1 rfl (Nat.le_of_ble_eq_true rfl) dL_locks_729 ⟨Nat.le_of_ble_eq_true rfl, Nat.le_of_ble_eq_true rfl⟩ (fun H locs hP hD hS => ?_)
                                  refine W.eq (g2 := F0 m 732 ls [.int ((kk_give S t (nI a) (S 0 a &&& 1073741824)) 0 a)]) rfl ?_
                                  refine lv_iload hx hb dL_locks_732 (lv_at hl 10 rfl) ?_
                                  refine lv_iconst (v := 1) hx hb dL_locks_734 (by decide) ?_
                                  refine lv_iadd hx hb dL_locks_735 ?_
                                  refine W.eq (g2 := F0 m 736 ls [.int (nI (t + 1)), .int ((kk_give S t (nI a) (S 0 a &&& 1073741824)) 0 a)]) (by rw [nI_1]) ?_
                                  refine lv_iload hx hb dL_locks_736 (lv_at hl 2 rfl) ?_
                                  refine lv_bipush (v := 30) hx hb dL_locks_738 (by decide) ?_
                                  refine lv_ishl hx hb dL_locks_740 ?_
                                  refine lv_iadd hx hb dL_locks_741 ?_
                                  refine lv_iload hx hb dL_locks_742 (lv_at hl 4 rfl) ?_
                                  refine lv_if_eq (tgt := 752) hx hb dL_locks_744 (by decide) (fun c => absurd c (by decide)) (fun _ => ?_)
                                  refine lv_ldc (own := RL) (v := (-2147483648)) hx hb hown (hts (.constant RL 159 (-2147483648)) (List.mem_of_getElem? (i := 4) rfl)) dL_locks_747 ?_
                                  refine lv_goto (tgt := 753) hx hb dL_locks_749 (by decide) ?_
                                  refine lv_ior hx hb dL_locks_753 ?_
                                  refine lv_icmp_ne (tgt := 782) hx hb dL_locks_754 (by decide) (fun c_32 => absurd c_32 (fun h9 => h9 (by rw [hgw, if_neg (fun z => by have := (kq_lk_any S a).mpr z; rw [hW9] at this; cases this), (pl_wd ht).1, hb0]))) (fun c_32 => ?_)
                                  refine lv_aload_n hx hb dL_locks_757 rfl (lv_at hl 11 rfl) ?_
                                  refine lv_iload hx hb dL_locks_758 (lv_at hl 10 rfl) ?_
                                  refine fk_callV (As := [.int (nI t)]) (rest := []) ⟨hx, hb, hml, hown, hts⟩ (kc_stateOf l D ad cI cT cJ _ (kk_give S t (nI a) (S 0 a &&& 1073741824)) t ht) (cwV 1 hts gL_locks_X2_stateOf rfl rfl rfl (by decide +kernel) ⟨Nat.le_of_ble_eq_true rfl, Nat.le_of_ble_eq_true rfl⟩) (fk_rvK hK hP) hK hP hD hS hA rfl hl.1 rfl (Nat.le_of_ble_eq_true rfl) dL_locks_760 ⟨Nat.le_of_ble_eq_true rfl, Nat.le_of_ble_eq_true rfl⟩ (fun H locs hP hD hS => ?_)
                                  refine W.eq (g2 := F0 m 763 ls [.int ((kk_give S t (nI a) (S 0 a &&& 1073741824)) 1 t)]) rfl ?_
                                  refine W.eq (g2 := F0 m 763 ls [.int 0]) (by rw [show ((kk_give S t (nI a) (S 0 a &&& 1073741824)) 1 t) = (0 : Int32) from hg1]) ?_
                                  refine lv_if_ne (tgt := 782) hx hb dL_locks_763 (by decide) (fun c => absurd c (by decide)) (fun _ => ?_)
                                  refine lv_aload_n hx hb dL_locks_766 rfl (lv_at hl 11 rfl) ?_
                                  refine lv_iload hx hb dL_locks_767 (lv_at hl 10 rfl) ?_
                                  refine fk_callS (As := [.ref (ad 0), .int (nI t)]) (rest := []) ⟨hx, hb, hml, hown, hts⟩ (kl_threads l D ad cI cT cJ _ (kk_give S t (nI a) (S 0 a &&& 1073741824)) hG1.1.sz hG1.1.J (nI t)) (va_cwS 2 hts gL_locks_L_threads rfl rfl rfl (by decide +kernel) ⟨Nat.le_of_ble_eq_true rfl, Nat.le_of_ble_eq_true rfl⟩) hK hP hD hS hA rfl hl.1 rfl (Nat.le_of_ble_eq_true rfl) dL_locks_769 ⟨Nat.le_of_ble_eq_true rfl, Nat.le_of_ble_eq_true rfl⟩ (fun H locs hP hD hS => ?_)
                                  refine W.eq (g2 := F0 m 772 ls [.long (pl_thr (kk_give S t (nI a) (S 0 a &&& 1073741824)) (nI t))]) rfl ?_
                                  refine W.eq (g2 := F0 m 772 ls [.long (pl_thr S (nI t))]) (by rw [show (pl_thr (kk_give S t (nI a) (S 0 a &&& 1073741824)) (nI t)) = (pl_thr S (nI t)) from hgt]) ?_
                                  refine lv_lload hx hb dL_locks_772 (lv_at hl 6 rfl) ?_
                                  refine W.lcmp hx hb dL_locks_774 ?_
                                  refine W.eq (g2 := F0 m 775 ls [.int 0]) (by rw [fk_cmp_self]) ?_
                                  refine lv_if_ne (tgt := 782) hx hb dL_locks_775 (by decide) (fun c => absurd c (by decide)) (fun _ => ?_)
                                  refine lv_iconst (v := 1) hx hb dL_locks_778 (by decide) ?_
                                  refine lv_goto (tgt := 783) hx hb dL_locks_779 (by decide) ?_
                                  exact fk_zretE (Nat.le_of_ble_eq_true rfl) (Nat.le_of_ble_eq_true rfl) hx hb hr hlocks hP hK hD hS rfl ⟨rfl, _, _, rfl, (hG1).wk (by omega)⟩ dL_locks_783
                              | succ n1 ih2 =>
                                intro k w hk hw H locs ls hP hD hS hl
                                refine lv_iload hx hb dL_locks_618 (lv_at hl 0 rfl) ?_
                                refine lv_aload_n hx hb dL_locks_620 rfl (lv_at hl 11 rfl) ?_
                                refine lv_iload hx hb dL_locks_621 (lv_at hl 10 rfl) ?_
                                refine fk_callV (As := [.int (nI t)]) (rest := [.int (nI k)]) ⟨hx, hb, hml, hown, hts⟩ (kc_locks l D ad cI cT cJ _ (kk_give S t (nI a) (S 0 a &&& 1073741824)) t ht) (cwV 1 hts gL_locks_X2_locks rfl rfl rfl (by decide +kernel) ⟨Nat.le_of_ble_eq_true rfl, Nat.le_of_ble_eq_true rfl⟩) (fk_rvK hK hP) hK hP hD hS hA rfl hl.1 rfl (Nat.le_of_ble_eq_true rfl) dL_locks_623 ⟨Nat.le_of_ble_eq_true rfl, Nat.le_of_ble_eq_true rfl⟩ (fun H locs hP hD hS => ?_)
                                refine W.eq (g2 := F0 m 626 ls [.int ((kk_give S t (nI a) (S 0 a &&& 1073741824)) 10 t), .int (nI k)]) rfl ?_
                                refine W.eq (g2 := F0 m 626 ls [.int (nI k1), .int (nI k)]) (by rw [show ((kk_give S t (nI a) (S 0 a &&& 1073741824)) 10 t) = (nI k1) from ek1]) ?_
                                refine lv_icmp_ge (tgt := 660) hx hb dL_locks_626 (by decide) (fun c_35 => absurd c_35 (nI_ge (a := k) (b := k1) (by omega) (by omega))) (fun c_35 => ?_)
                                rcases Bool.eq_false_or_eq_true w with rfl | rfl
                                · have hl : lv_has ls 25 [(24, .int (nI k)), (23, .int 1), (22, .int 0), (21, .int 0), (19, .int 1), (18, .int (nI k9)), (13, .long (pl_thr S (nI t))), (10, .int (-1)), (9, .int (S 0 a)), (5, .int (nI a)), (4, .int (nI t)), (0, .ref (ad 0))] := hl
                                  refine lv_iload hx hb dL_locks_629 (lv_at hl 1 rfl) ?_
                                  refine lv_if_ne (tgt := 647) hx hb dL_locks_631 (by decide) (fun _ => ?_) (fun c => absurd c (by decide))
                                  refine lv_iconst (v := 1) hx hb dL_locks_647 (by decide) ?_
                                  refine lv_goto (tgt := 652) hx hb dL_locks_648 (by decide) ?_
                                  refine lv_istore (lv' := [(23, .int 1), (24, .int (nI k)), (22, .int 0), (21, .int 0), (19, .int 1), (18, .int (nI k9)), (13, .long (pl_thr S (nI t))), (10, .int (-1)), (9, .int (S 0 a)), (5, .int (nI a)), (4, .int (nI t)), (0, .ref (ad 0))]) hx hb dL_locks_652 hl (by decide) rfl (fun ls hl => ?_)
                                  refine lv_iinc (v := (nI (k + 1))) (lv' := [(24, .int (nI (k + 1))), (23, .int 1), (22, .int 0), (21, .int 0), (19, .int 1), (18, .int (nI k9)), (13, .long (pl_thr S (nI t))), (10, .int (-1)), (9, .int (S 0 a)), (5, .int (nI a)), (4, .int (nI t)), (0, .ref (ad 0))]) hx hb dL_locks_654 hl (k := 1) rfl (nI_1 k) (by decide) rfl (fun ls hl => ?_)
                                  refine lv_goto (tgt := 618) hx hb dL_locks_657 (by decide) ?_
                                  exact ih2 (k + 1) true (by omega) (Or.inl rfl) _ _ _ hP hD hS (lv_sub hl [0, 1, 2, 3, 4, 5, 6, 7, 8, 9, 10, 11] rfl)
                                · have hl : lv_has ls 25 [(24, .int (nI k)), (23, .int 0), (22, .int 0), (21, .int 0), (19, .int 1), (18, .int (nI k9)), (13, .long (pl_thr S (nI t))), (10, .int (-1)), (9, .int (S 0 a)), (5, .int (nI a)), (4, .int (nI t)), (0, .ref (ad 0))] := hl
                                  by_cases hlk : kk_addrAt (kk_give S t (nI a) (S 0 a &&& 1073741824)) t (nI k) = nI a
                                  · refine lv_iload hx hb dL_locks_629 (lv_at hl 1 rfl) ?_
                                    refine lv_if_ne (tgt := 647) hx hb dL_locks_631 (by decide) (fun c => absurd c (by decide)) (fun _ => ?_)
                                    refine lv_aload_n hx hb dL_locks_634 rfl (lv_at hl 11 rfl) ?_
                                    refine lv_iload hx hb dL_locks_635 (lv_at hl 10 rfl) ?_
                                    refine lv_iload hx hb dL_locks_637 (lv_at hl 0 rfl) ?_
                                    refine fk_callV (As := [.int (nI t), .int (nI k)]) (rest := []) ⟨hx, hb, hml, hown, hts⟩ (kc_lockAt l D ad cI cT cJ _ (kk_give S t (nI a) (S 0 a &&& 1073741824)) t ht (nI k) hG1.1.sz ⟨nI_pos' (by omega), by rw [ek1]; exact nI_lt (by omega) (by omega)⟩) (cwV 2 hts gL_locks_X2_lockAt rfl rfl rfl (by decide +kernel) ⟨Nat.le_of_ble_eq_true rfl, Nat.le_of_ble_eq_true rfl⟩) (fk_rvK hK hP) hK hP hD hS hA rfl hl.1 rfl (Nat.le_of_ble_eq_true rfl) dL_locks_639 ⟨Nat.le_of_ble_eq_true rfl, Nat.le_of_ble_eq_true rfl⟩ (fun H locs hP hD hS => ?_)
                                    refine W.eq (g2 := F0 m 642 ls [.int (kk_addrAt (kk_give S t (nI a) (S 0 a &&& 1073741824)) t (nI k))]) rfl ?_
                                    refine W.eq (g2 := F0 m 642 ls [.int (nI a)]) (by rw [show (kk_addrAt (kk_give S t (nI a) (S 0 a &&& 1073741824)) t (nI k)) = (nI a) from hlk]) ?_
                                    refine lv_iload hx hb dL_locks_642 (lv_at hl 9 rfl) ?_
                                    refine lv_icmp_ne (tgt := 651) hx hb dL_locks_644 (by decide) (fun c => absurd rfl c) (fun _ => ?_)
                                    refine lv_iconst (v := 1) hx hb dL_locks_647 (by decide) ?_
                                    refine lv_goto (tgt := 652) hx hb dL_locks_648 (by decide) ?_
                                    refine lv_istore (lv' := [(23, .int 1), (24, .int (nI k)), (22, .int 0), (21, .int 0), (19, .int 1), (18, .int (nI k9)), (13, .long (pl_thr S (nI t))), (10, .int (-1)), (9, .int (S 0 a)), (5, .int (nI a)), (4, .int (nI t)), (0, .ref (ad 0))]) hx hb dL_locks_652 hl (by decide) rfl (fun ls hl => ?_)
                                    refine lv_iinc (v := (nI (k + 1))) (lv' := [(24, .int (nI (k + 1))), (23, .int 1), (22, .int 0), (21, .int 0), (19, .int 1), (18, .int (nI k9)), (13, .long (pl_thr S (nI t))), (10, .int (-1)), (9, .int (S 0 a)), (5, .int (nI a)), (4, .int (nI t)), (0, .ref (ad 0))]) hx hb dL_locks_654 hl (k := 1) rfl (nI_1 k) (by decide) rfl (fun ls hl => ?_)
                                    refine lv_goto (tgt := 618) hx hb dL_locks_657 (by decide) ?_
                                    exact ih2 (k + 1) true (by omega) (Or.inl rfl) _ _ _ hP hD hS (lv_sub hl [0, 1, 2, 3, 4, 5, 6, 7, 8, 9, 10, 11] rfl)
                                  · have hkj : k + 1 ≤ j9 := by
                                      rcases hw with h9 | h9
                                      · cases h9
                                      · have : k ≠ j9 := fun z => hlk (by rw [z]; exact ej9)
                                        omega
                                    refine lv_iload hx hb dL_locks_629 (lv_at hl 1 rfl) ?_
                                    refine lv_if_ne (tgt := 647) hx hb dL_locks_631 (by decide) (fun c => absurd c (by decide)) (fun _ => ?_)
                                    refine lv_aload_n hx hb dL_locks_634 rfl (lv_at hl 11 rfl) ?_
                                    refine lv_iload hx hb dL_locks_635 (lv_at hl 10 rfl) ?_
                                    refine lv_iload hx hb dL_locks_637 (lv_at hl 0 rfl) ?_
                                    refine fk_callV (As := [.int (nI t), .int (nI k)]) (rest := []) ⟨hx, hb, hml, hown, hts⟩ (kc_lockAt l D ad cI cT cJ _ (kk_give S t (nI a) (S 0 a &&& 1073741824)) t ht (nI k) hG1.1.sz ⟨nI_pos' (by omega), by rw [ek1]; exact nI_lt (by omega) (by omega)⟩) (cwV 2 hts gL_locks_X2_lockAt rfl rfl rfl (by decide +kernel) ⟨Nat.le_of_ble_eq_true rfl, Nat.le_of_ble_eq_true rfl⟩) (fk_rvK hK hP) hK hP hD hS hA rfl hl.1 rfl (Nat.le_of_ble_eq_true rfl) dL_locks_639 ⟨Nat.le_of_ble_eq_true rfl, Nat.le_of_ble_eq_true rfl⟩ (fun H locs hP hD hS => ?_)
                                    refine W.eq (g2 := F0 m 642 ls [.int (kk_addrAt (kk_give S t (nI a) (S 0 a &&& 1073741824)) t (nI k))]) rfl ?_
                                    refine lv_iload hx hb dL_locks_642 (lv_at hl 9 rfl) ?_
                                    refine lv_icmp_ne (tgt := 651) hx hb dL_locks_644 (by decide) (fun c_39 => ?_) (fun c9 => absurd c9 hlk)
                                    refine lv_iconst (v := 0) hx hb dL_locks_651 (by decide) ?_
                                    refine lv_istore (lv' := [(23, .int 0), (24, .int (nI k)), (22, .int 0), (21, .int 0), (19, .int 1), (18, .int (nI k9)), (13, .long (pl_thr S (nI t))), (10, .int (-1)), (9, .int (S 0 a)), (5, .int (nI a)), (4, .int (nI t)), (0, .ref (ad 0))]) hx hb dL_locks_652 hl (by decide) rfl (fun ls hl => ?_)
                                    refine lv_iinc (v := (nI (k + 1))) (lv' := [(24, .int (nI (k + 1))), (23, .int 0), (22, .int 0), (21, .int 0), (19, .int 1), (18, .int (nI k9)), (13, .long (pl_thr S (nI t))), (10, .int (-1)), (9, .int (S 0 a)), (5, .int (nI a)), (4, .int (nI t)), (0, .ref (ad 0))]) hx hb dL_locks_654 hl (k := 1) rfl (nI_1 k) (by decide) rfl (fun ls hl => ?_)
                                    refine lv_goto (tgt := 618) hx hb dL_locks_657 (by decide) ?_
                                    exact ih2 (k + 1) false (by omega) (Or.inr hkj) _ _ _ hP hD hS (lv_sub hl [0, 1, 2, 3, 4, 5, 6, 7, 8, 9, 10, 11] rfl)
                            exact loop2 k1 0 false (by omega) (Or.inr (Nat.zero_le _)) _ _ _ hP hD hS (lv_sub hl [0, 1, 2, 3, 5, 6, 9, 11, 12, 16, 17, 18] rfl)
                          · have hl : lv_has ls 25 [(20, .int (nI k)), (19, .int 0), (18, .int (nI k9)), (17, .int 1), (15, .long (pl_wds S (-1))), (13, .long (pl_thr S (nI t))), (11, .long (pl_thr S (-1))), (10, .int (-1)), (9, .int (S 0 a)), (8, .int 0), (7, .int to), (6, .int 0), (5, .int (nI a)), (4, .int (nI t)), (0, .ref (ad 0)), (2, .int y), (3, .int od), (1, .ref q)] := by rw [hW9] at hl; exact hl
                            refine lv_iload hx hb dL_locks_305 (lv_at hl 7 rfl) ?_
                            refine lv_bipush (v := 7) hx hb dL_locks_307 (by decide) ?_
                            refine lv_icmp_gt (tgt := 327) hx hb dL_locks_309 (by decide) (fun c => absurd c (by decide)) (fun _ => ?_)
                            refine lv_iload hx hb dL_locks_312 (lv_at hl 7 rfl) ?_
                            refine lv_if_lt (tgt := 331) hx hb dL_locks_314 (by decide) (fun _ => ?_) (fun c => absurd c (by decide))
                            refine lv_iconst (v := 0) hx hb dL_locks_331 (by decide) ?_
                            refine lv_istore (lv' := [(20, .int 0), (19, .int 0), (18, .int (nI k9)), (17, .int 1), (15, .long (pl_wds S (-1))), (13, .long (pl_thr S (nI t))), (11, .long (pl_thr S (-1))), (10, .int (-1)), (9, .int (S 0 a)), (8, .int 0), (7, .int to), (6, .int 0), (5, .int (nI a)), (4, .int (nI t)), (0, .ref (ad 0)), (2, .int y), (3, .int od), (1, .ref q)]) hx hb dL_locks_332 hl (by decide) rfl (fun ls hl => ?_)
                            refine lv_aload_n hx hb dL_locks_334 rfl (lv_at hl 14 rfl) ?_
                            refine lv_iconst (v := 0) hx hb dL_locks_335 (by decide) ?_
                            refine lv_iload hx hb dL_locks_336 (lv_at hl 13 rfl) ?_
                            refine lv_iload hx hb dL_locks_338 (lv_at hl 12 rfl) ?_
                            refine lv_iload hx hb dL_locks_340 (lv_at hl 10 rfl) ?_
                            refine lv_iconst (v := 0) hx hb dL_locks_342 (by decide) ?_
                            obtain ⟨hk1, hk2⟩ := kk_lock_give (t := t) how to
                            rw [if_pos hb0] at hk1
                            obtain ⟨hG1, hgt, hg1, hgw, k8, k1, j9, ek8, hk8, ek1, hk16, hj9, ej9, hkk⟩ := kq_give hG ht ha (S 0 a &&& 1073741824) hs0
                            have hke : k8 = k9 := (nI_eq (by omega) (by omega)).mp (ek8.symm.trans ek9)
                            refine fk_lcallS (As := [.ref (ad 0), .int 0, .int (nI t), .int (nI a), .int to, .int 0]) (rest := []) ⟨hx, hb, hml, hown, hts⟩ (Lc_lock l D ad cI cT cJ _ S _ _ _ _ (kk_give S t (nI a) (S 0 a &&& 1073741824)) 0 (fun X => by have h9 := kc_lock l D ad cI cT cJ X S t ht a ha to hs0 hbad hG.1.sz; rw [hk1, hk2] at h9; exact h9)) (vx_cwSW 6 hts gL_locks_L_acts rfl rfl rfl (by decide +kernel) ⟨Nat.le_of_ble_eq_true rfl, Nat.le_of_ble_eq_true rfl⟩) hK hP hD hS hA hZ hN rfl hl.1 rfl (Nat.le_of_ble_eq_true rfl) dL_locks_343 ⟨Nat.le_of_ble_eq_true rfl, Nat.le_of_ble_eq_true rfl⟩ (fun H locs hP hD hS => ?_)
                            refine W.eq (g2 := F0 m 346 ls [.int 0]) rfl ?_
                            refine lv_istore (lv' := [(21, .int 0), (20, .int 0), (19, .int 0), (18, .int (nI k9)), (17, .int 1), (15, .long (pl_wds S (-1))), (13, .long (pl_thr S (nI t))), (11, .long (pl_thr S (-1))), (10, .int (-1)), (9, .int (S 0 a)), (8, .int 0), (7, .int to), (6, .int 0), (5, .int (nI a)), (4, .int (nI t)), (0, .ref (ad 0)), (2, .int y), (3, .int od), (1, .ref q)]) hx hb dL_locks_346 hl (by decide) rfl (fun ls hl => ?_)
                            refine lv_iload hx hb dL_locks_348 (lv_at hl 12 rfl) ?_
                            refine lv_if_ne (tgt := 363) hx hb dL_locks_350 (by decide) (fun c => absurd c (by decide)) (fun _ => ?_)
                            refine lv_iload hx hb dL_locks_353 (lv_at hl 10 rfl) ?_
                            refine lv_if_ne (tgt := 363) hx hb dL_locks_355 (by decide) (fun c => absurd c (by decide)) (fun _ => ?_)
                            refine lv_iload hx hb dL_locks_358 (lv_at hl 4 rfl) ?_
                            refine lv_if_ne (tgt := 418) hx hb dL_locks_360 (by decide) (fun _ => ?_) (fun c => absurd c (by decide))
                            refine lv_iload hx hb dL_locks_418 (lv_at hl 0 rfl) ?_
                            refine lv_iconst (v := 2) hx hb dL_locks_420 (by decide) ?_
                            refine lv_icmp_le (tgt := 505) hx hb dL_locks_421 (by decide) (fun _ => ?_) (fun c => absurd c (by decide))
                            refine lv_iload hx hb dL_locks_505 (lv_at hl 0 rfl) ?_
                            refine lv_iconst (v := 2) hx hb dL_locks_507 (by decide) ?_
                            refine lv_icmp_ne (tgt := 603) hx hb dL_locks_508 (by decide) (fun _ => ?_) (fun c => absurd c (by decide))
                            refine lv_iload hx hb dL_locks_603 (lv_at hl 9 rfl) ?_
                            refine lv_bipush (v := 30) hx hb dL_locks_605 (by decide) ?_
                            refine lv_ishr hx hb dL_locks_607 ?_
                            refine lv_iconst (v := 1) hx hb dL_locks_608 (by decide) ?_
                            refine lv_iand hx hb dL_locks_609 ?_
                            refine W.eq (g2 := F0 m 610 ls [.int 0]) (by rw [hb1]) ?_
                            refine lv_istore (lv' := [(22, .int 0), (21, .int 0), (20, .int 0), (19, .int 0), (18, .int (nI k9)), (17, .int 1), (15, .long (pl_wds S (-1))), (13, .long (pl_thr S (nI t))), (11, .long (pl_thr S (-1))), (10, .int (-1)), (9, .int (S 0 a)), (8, .int 0), (7, .int to), (6, .int 0), (5, .int (nI a)), (4, .int (nI t)), (0, .ref (ad 0)), (2, .int y), (3, .int od), (1, .ref q)]) hx hb dL_locks_610 hl (by decide) rfl (fun ls hl => ?_)
                            refine lv_iconst (v := 0) hx hb dL_locks_612 (by decide) ?_
                            refine lv_istore (lv' := [(23, .int 0), (22, .int 0), (21, .int 0), (20, .int 0), (19, .int 0), (18, .int (nI k9)), (17, .int 1), (15, .long (pl_wds S (-1))), (13, .long (pl_thr S (nI t))), (11, .long (pl_thr S (-1))), (10, .int (-1)), (9, .int (S 0 a)), (8, .int 0), (7, .int to), (6, .int 0), (5, .int (nI a)), (4, .int (nI t)), (0, .ref (ad 0)), (2, .int y), (3, .int od), (1, .ref q)]) hx hb dL_locks_613 hl (by decide) rfl (fun ls hl => ?_)
                            refine lv_iconst (v := 0) hx hb dL_locks_615 (by decide) ?_
                            refine lv_istore (lv' := [(24, .int 0), (23, .int 0), (22, .int 0), (21, .int 0), (20, .int 0), (19, .int 0), (18, .int (nI k9)), (17, .int 1), (15, .long (pl_wds S (-1))), (13, .long (pl_thr S (nI t))), (11, .long (pl_thr S (-1))), (10, .int (-1)), (9, .int (S 0 a)), (8, .int 0), (7, .int to), (6, .int 0), (5, .int (nI a)), (4, .int (nI t)), (0, .ref (ad 0)), (2, .int y), (3, .int od), (1, .ref q)]) hx hb dL_locks_616 hl (by decide) rfl (fun ls hl => ?_)
                            have loop2 : ∀ (n1 : Nat) (k : Nat) (w : Bool), k + n1 = k1 → (w = true ∨ k ≤ j9) → ∀ (H : Heap) (locs : List Loc) (ls : Array Slot), va_P D vwCl (fk_kW ad cI cT (kk_give S t (nI a) (S 0 a &&& 1073741824)) ++ (q, fk_pr cI P) :: X) H → va_D A (fk_kW ad cI cT (kk_give S t (nI a) (S 0 a &&& 1073741824)) ++ (q, fk_pr cI P) :: X) → va_S A s.heap H locs → lv_has ls 25 [(24, .int (nI k)), (23, .int (fk_b w)), (22, .int 0), (21, .int 0), (19, .int 0), (18, .int (nI k9)), (13, .long (pl_thr S (nI t))), (10, .int (-1)), (9, .int (S 0 a)), (5, .int (nI a)), (4, .int (nI t)), (0, .ref (ad 0))] → W p l e rm_E s m ([.ref (ad 0), .ref q, .int y, .int od] : List Value).toArray below meth c H locs (0 + 1) (0 + 6) (MQ below (fk_QE D (fk_ty cI cT cJ) A (kq_Phi ad cI cT q X (n + 20))) ([.ref (ad 0), .ref q, .int y, .int od] : List Value).toArray s 2 12 A) (F0 m 618 ls []) := by
                              intro n1
                              induction n1 with
                              | zero =>
                                intro k w hk hw H locs ls hP hD hS hl
                                have hw9 : w = true := hw.elim id (fun h9 => absurd h9 (by omega))
                                have hl : lv_has ls 25 [(24, .int (nI k)), (23, .int 1), (22, .int 0), (21, .int 0), (19, .int 0), (18, .int (nI k9)), (13, .long (pl_thr S (nI t))), (10, .int (-1)), (9, .int (S 0 a)), (5, .int (nI a)), (4, .int (nI t)), (0, .ref (ad 0))] := by rw [hw9] at hl; exact hl
                                refine lv_iload hx hb dL_locks_618 (lv_at hl 0 rfl) ?_
                                refine lv_aload_n hx hb dL_locks_620 rfl (lv_at hl 11 rfl) ?_
                                refine lv_iload hx hb dL_locks_621 (lv_at hl 10 rfl) ?_
                                refine fk_callV (As := [.int (nI t)]) (rest := [.int (nI k)]) ⟨hx, hb, hml, hown, hts⟩ (kc_locks l D ad cI cT cJ _ (kk_give S t (nI a) (S 0 a &&& 1073741824)) t ht) (cwV 1 hts gL_locks_X2_locks rfl rfl rfl (by decide +kernel) ⟨Nat.le_of_ble_eq_true rfl, Nat.le_of_ble_eq_true rfl⟩) (fk_rvK hK hP) hK hP hD hS hA rfl hl.1 rfl (Nat.le_of_ble_eq_true rfl) dL_locks_623 ⟨Nat.le_of_ble_eq_true rfl, Nat.le_of_ble_eq_true rfl⟩ (fun H locs hP hD hS => ?_)
                                refine W.eq (g2 := F0 m 626 ls [.int ((kk_give S t (nI a) (S 0 a &&& 1073741824)) 10 t), .int (nI k)]) rfl ?_
                                refine W.eq (g2 := F0 m 626 ls [.int (nI k1), .int (nI k)]) (by rw [show ((kk_give S t (nI a) (S 0 a &&& 1073741824)) 10 t) = (nI k1) from ek1]) ?_
                                refine lv_icmp_ge (tgt := 660) hx hb dL_locks_626 (by decide) (fun c_47 => ?_) (fun c_47 => absurd (nI_le (a := k1) (b := k) (by omega) (by omega)) c_47)
                                rcases hkk with hkk | ⟨hkk, hka⟩
                                · refine lv_iload hx hb dL_locks_660 (lv_at hl 3 rfl) ?_
                                  refine lv_iload hx hb dL_locks_662 (lv_at hl 2 rfl) ?_
                                  refine lv_icmp_ne (tgt := 782) hx hb dL_locks_664 (by decide) (fun c => absurd c (by decide)) (fun _ => ?_)
                                  refine lv_iload hx hb dL_locks_667 (lv_at hl 7 rfl) ?_
                                  refine lv_iconst (v := (-1)) hx hb dL_locks_669 (by decide) ?_
                                  refine lv_icmp_ne (tgt := 782) hx hb dL_locks_670 (by decide) (fun c => absurd c (by decide)) (fun _ => ?_)
                                  refine lv_iload hx hb dL_locks_673 (lv_at hl 1 rfl) ?_
                                  refine lv_if_eq (tgt := 782) hx hb dL_locks_675 (by decide) (fun c => absurd c (by decide)) (fun _ => ?_)
                                  refine lv_aload_n hx hb dL_locks_678 rfl (lv_at hl 11 rfl) ?_
                                  refine lv_iload hx hb dL_locks_679 (lv_at hl 10 rfl) ?_
                                  refine fk_callV (As := [.int (nI t)]) (rest := []) ⟨hx, hb, hml, hown, hts⟩ (kc_locks l D ad cI cT cJ _ (kk_give S t (nI a) (S 0 a &&& 1073741824)) t ht) (cwV 1 hts gL_locks_X2_locks rfl rfl rfl (by decide +kernel) ⟨Nat.le_of_ble_eq_true rfl, Nat.le_of_ble_eq_true rfl⟩) (fk_rvK hK hP) hK hP hD hS hA rfl hl.1 rfl (Nat.le_of_ble_eq_true rfl) dL_locks_681 ⟨Nat.le_of_ble_eq_true rfl, Nat.le_of_ble_eq_true rfl⟩ (fun H locs hP hD hS => ?_)
                                  refine W.eq (g2 := F0 m 684 ls [.int ((kk_give S t (nI a) (S 0 a &&& 1073741824)) 10 t)]) rfl ?_
                                  refine W.eq (g2 := F0 m 684 ls [.int (nI k9)]) (by rw [show ((kk_give S t (nI a) (S 0 a &&& 1073741824)) 10 t) = (nI k9) from (by rw [ek1, hkk, hke])]) ?_
                                  refine lv_iload hx hb dL_locks_684 (lv_at hl 5 rfl) ?_
                                  refine lv_isub hx hb dL_locks_686 ?_
                                  refine lv_iconst (v := 2) hx hb dL_locks_687 (by decide) ?_
                                  refine lv_icmp_ge (tgt := 782) hx hb dL_locks_688 (by decide) (fun c_51 => absurd c_51 (by rw [Int32.sub_self]; decide)) (fun c_51 => ?_)
                                  refine lv_aload_n hx hb dL_locks_691 rfl (lv_at hl 11 rfl) ?_
                                  refine lv_iload hx hb dL_locks_692 (lv_at hl 10 rfl) ?_
                                  refine fk_callV (As := [.int (nI t)]) (rest := []) ⟨hx, hb, hml, hown, hts⟩ (kc_locks l D ad cI cT cJ _ (kk_give S t (nI a) (S 0 a &&& 1073741824)) t ht) (cwV 1 hts gL_locks_X2_locks rfl rfl rfl (by decide +kernel) ⟨Nat.le_of_ble_eq_true rfl, Nat.le_of_ble_eq_true rfl⟩) (fk_rvK hK hP) hK hP hD hS hA rfl hl.1 rfl (Nat.le_of_ble_eq_true rfl) dL_locks_694 ⟨Nat.le_of_ble_eq_true rfl, Nat.le_of_ble_eq_true rfl⟩ (fun H locs hP hD hS => ?_)
                                  refine W.eq (g2 := F0 m 697 ls [.int ((kk_give S t (nI a) (S 0 a &&& 1073741824)) 10 t)]) rfl ?_
                                  refine W.eq (g2 := F0 m 697 ls [.int (nI k9)]) (by rw [show ((kk_give S t (nI a) (S 0 a &&& 1073741824)) 10 t) = (nI k9) from (by rw [ek1, hkk, hke])]) ?_
                                  refine lv_iload hx hb dL_locks_697 (lv_at hl 5 rfl) ?_
                                  refine lv_icmp_lt (tgt := 782) hx hb dL_locks_699 (by decide) (fun c_52 => absurd c_52 (nI_nlt (a := k9) (b := k9) (by omega) (by omega))) (fun c_52 => ?_)
                                  refine lv_aload_n hx hb dL_locks_702 rfl (lv_at hl 11 rfl) ?_
                                  refine lv_iload hx hb dL_locks_703 (lv_at hl 10 rfl) ?_
                                  refine fk_callV (As := [.int (nI t)]) (rest := []) ⟨hx, hb, hml, hown, hts⟩ (kc_locks l D ad cI cT cJ _ (kk_give S t (nI a) (S 0 a &&& 1073741824)) t ht) (cwV 1 hts gL_locks_X2_locks rfl rfl rfl (by decide +kernel) ⟨Nat.le_of_ble_eq_true rfl, Nat.le_of_ble_eq_true rfl⟩) (fk_rvK hK hP) hK hP hD hS hA rfl hl.1 rfl (Nat.le_of_ble_eq_true rfl) dL_locks_705 ⟨Nat.le_of_ble_eq_true rfl, Nat.le_of_ble_eq_true rfl⟩ (fun H locs hP hD hS => ?_)
                                  refine W.eq (g2 := F0 m 708 ls [.int ((kk_give S t (nI a) (S 0 a &&& 1073741824)) 10 t)]) rfl ?_
                                  refine W.eq (g2 := F0 m 708 ls [.int (nI k9)]) (by rw [show ((kk_give S t (nI a) (S 0 a &&& 1073741824)) 10 t) = (nI k9) from (by rw [ek1, hkk, hke])]) ?_
                                  refine lv_iload hx hb dL_locks_708 (lv_at hl 5 rfl) ?_
                                  refine lv_icmp_eq (tgt := 726) hx hb dL_locks_710 (by decide) (fun _ => ?_) (fun c => absurd rfl c)
                                  refine lv_aload_n hx hb dL_locks_726 rfl (lv_at hl 11 rfl) ?_
                                  refine lv_iload hx hb dL_locks_727 (lv_at hl 9 rfl) ?_
                                  refine fk_callV (As := [.int (nI a)]) (rest := []) ⟨hx, hb, hml, hown, hts⟩ (kc_word l D ad cI cT cJ _ (kk_give S t (nI a) (S 0 a &&& 1073741824)) a ha) (cwV 1 hts gL_locks_X2_word rfl rfl rfl (by decide +kernel) ⟨Nat.le_of_ble_eq_true rfl, Nat.le_of_ble_eq_true rfl⟩) (fk_rvK hK hP) hK hP hD hS hA rfl hl.1 rfl (Nat.le_of_ble_eq_true rfl) dL_locks_729 ⟨Nat.le_of_ble_eq_true rfl, Nat.le_of_ble_eq_true rfl⟩ (fun H locs hP hD hS => ?_)
                                  refine W.eq (g2 := F0 m 732 ls [.int ((kk_give S t (nI a) (S 0 a &&& 1073741824)) 0 a)]) rfl ?_
                                  refine lv_iload hx hb dL_locks_732 (lv_at hl 10 rfl) ?_
                                  refine lv_iconst (v := 1) hx hb dL_locks_734 (by decide) ?_
                                  refine lv_iadd hx hb dL_locks_735 ?_
                                  refine W.eq (g2 := F0 m 736 ls [.int (nI (t + 1)), .int ((kk_give S t (nI a) (S 0 a &&& 1073741824)) 0 a)]) (by rw [nI_1]) ?_
                                  refine lv_iload hx hb dL_locks_736 (lv_at hl 2 rfl) ?_
                                  refine lv_bipush (v := 30) hx hb dL_locks_738 (by decide) ?_
                                  refine lv_ishl hx hb dL_locks_740 ?_
                                  refine lv_iadd hx hb dL_locks_741 ?_
                                  refine lv_iload hx hb dL_locks_742 (lv_at hl 4 rfl) ?_
                                  refine lv_if_eq (tgt := 752) hx hb dL_locks_744 (by decide) (fun _ => ?_) (fun c => absurd c (by decide))
                                  refine lv_iconst (v := 0) hx hb dL_locks_752 (by decide) ?_
                                  refine lv_ior hx hb dL_locks_753 ?_
                                  refine lv_icmp_ne (tgt := 782) hx hb dL_locks_754 (by decide) (fun c_54 => absurd c_54 (fun h9 => h9 (by rw [hgw, if_pos ((kq_lk_any S a).mp hW9), (pl_wd ht).1, hb0]))) (fun c_54 => ?_)
                                  refine lv_aload_n hx hb dL_locks_757 rfl (lv_at hl 11 rfl) ?_
                                  refine lv_iload hx hb dL_locks_758 (lv_at hl 10 rfl) ?_
                                  refine fk_callV (As := [.int (nI t)]) (rest := []) ⟨hx, hb, hml, hown, hts⟩ (kc_stateOf l D ad cI cT cJ _ (kk_give S t (nI a) (S 0 a &&& 1073741824)) t ht) (cwV 1 hts gL_locks_X2_stateOf rfl rfl rfl (by decide +kernel) ⟨Nat.le_of_ble_eq_true rfl, Nat.le_of_ble_eq_true rfl⟩) (fk_rvK hK hP) hK hP hD hS hA rfl hl.1 rfl (Nat.le_of_ble_eq_true rfl) dL_locks_760 ⟨Nat.le_of_ble_eq_true rfl, Nat.le_of_ble_eq_true rfl⟩ (fun H locs hP hD hS => ?_)
                                  refine W.eq (g2 := F0 m 763 ls [.int ((kk_give S t (nI a) (S 0 a &&& 1073741824)) 1 t)]) rfl ?_
                                  refine W.eq (g2 := F0 m 763 ls [.int 0]) (by rw [show ((kk_give S t (nI a) (S 0 a &&& 1073741824)) 1 t) = (0 : Int32) from hg1]) ?_
                                  refine lv_if_ne (tgt := 782) hx hb dL_locks_763 (by decide) (fun c => absurd c (by decide)) (fun _ => ?_)
                                  refine lv_aload_n hx hb dL_locks_766 rfl (lv_at hl 11 rfl) ?_
                                  refine lv_iload hx hb dL_locks_767 (lv_at hl 10 rfl) ?_
                                  refine fk_callS (As := [.ref (ad 0), .int (nI t)]) (rest := []) ⟨hx, hb, hml, hown, hts⟩ (kl_threads l D ad cI cT cJ _ (kk_give S t (nI a) (S 0 a &&& 1073741824)) hG1.1.sz hG1.1.J (nI t)) (va_cwS 2 hts gL_locks_L_threads rfl rfl rfl (by decide +kernel) ⟨Nat.le_of_ble_eq_true rfl, Nat.le_of_ble_eq_true rfl⟩) hK hP hD hS hA rfl hl.1 rfl (Nat.le_of_ble_eq_true rfl) dL_locks_769 ⟨Nat.le_of_ble_eq_true rfl, Nat.le_of_ble_eq_true rfl⟩ (fun H locs hP hD hS => ?_)
                                  refine W.eq (g2 := F0 m 772 ls [.long (pl_thr (kk_give S t (nI a) (S 0 a &&& 1073741824)) (nI t))]) rfl ?_
                                  refine W.eq (g2 := F0 m 772 ls [.long (pl_thr S (nI t))]) (by rw [show (pl_thr (kk_give S t (nI a) (S 0 a &&& 1073741824)) (nI t)) = (pl_thr S (nI t)) from hgt]) ?_
                                  refine lv_lload hx hb dL_locks_772 (lv_at hl 6 rfl) ?_
                                  refine W.lcmp hx hb dL_locks_774 ?_
                                  refine W.eq (g2 := F0 m 775 ls [.int 0]) (by rw [fk_cmp_self]) ?_
                                  refine lv_if_ne (tgt := 782) hx hb dL_locks_775 (by decide) (fun c => absurd c (by decide)) (fun _ => ?_)
                                  refine lv_iconst (v := 1) hx hb dL_locks_778 (by decide) ?_
                                  refine lv_goto (tgt := 783) hx hb dL_locks_779 (by decide) ?_
                                  exact fk_zretE (Nat.le_of_ble_eq_true rfl) (Nat.le_of_ble_eq_true rfl) hx hb hr hlocks hP hK hD hS rfl ⟨rfl, _, _, rfl, (hG1).wk (by omega)⟩ dL_locks_783
                                · refine lv_iload hx hb dL_locks_660 (lv_at hl 3 rfl) ?_
                                  refine lv_iload hx hb dL_locks_662 (lv_at hl 2 rfl) ?_
                                  refine lv_icmp_ne (tgt := 782) hx hb dL_locks_664 (by decide) (fun c => absurd c (by decide)) (fun _ => ?_)
                                  refine lv_iload hx hb dL_locks_667 (lv_at hl 7 rfl) ?_
                                  refine lv_iconst (v := (-1)) hx hb dL_locks_669 (by decide) ?_
                                  refine lv_icmp_ne (tgt := 782) hx hb dL_locks_670 (by decide) (fun c => absurd c (by decide)) (fun _ => ?_)
                                  refine lv_iload hx hb dL_locks_673 (lv_at hl 1 rfl) ?_
                                  refine lv_if_eq (tgt := 782) hx hb dL_locks_675 (by decide) (fun c => absurd c (by decide)) (fun _ => ?_)
                                  refine lv_aload_n hx hb dL_locks_678 rfl (lv_at hl 11 rfl) ?_
                                  refine lv_iload hx hb dL_locks_679 (lv_at hl 10 rfl) ?_
                                  refine fk_callV (As := [.int (nI t)]) (rest := []) ⟨hx, hb, hml, hown, hts⟩ (kc_locks l D ad cI cT cJ _ (kk_give S t (nI a) (S 0 a &&& 1073741824)) t ht) (cwV 1 hts gL_locks_X2_locks rfl rfl rfl (by decide +kernel) ⟨Nat.le_of_ble_eq_true rfl, Nat.le_of_ble_eq_true rfl⟩) (fk_rvK hK hP) hK hP hD hS hA rfl hl.1 rfl (Nat.le_of_ble_eq_true rfl) dL_locks_681 ⟨Nat.le_of_ble_eq_true rfl, Nat.le_of_ble_eq_true rfl⟩ (fun H locs hP hD hS => ?_)
                                  refine W.eq (g2 := F0 m 684 ls [.int ((kk_give S t (nI a) (S 0 a &&& 1073741824)) 10 t)]) rfl ?_
                                  refine W.eq (g2 := F0 m 684 ls [.int (nI (k9 + 1))]) (by rw [show ((kk_give S t (nI a) (S 0 a &&& 1073741824)) 10 t) = (nI (k9 + 1)) from (by rw [ek1, hkk, hke])]) ?_
                                  refine lv_iload hx hb dL_locks_684 (lv_at hl 5 rfl) ?_
                                  refine lv_isub hx hb dL_locks_686 ?_
                                  refine lv_iconst (v := 2) hx hb dL_locks_687 (by decide) ?_
                                  refine lv_icmp_ge (tgt := 782) hx hb dL_locks_688 (by decide) (fun c_60 => absurd c_60 (by rw [pk_sub (by omega), Nat.add_sub_cancel_left]; decide)) (fun c_60 => ?_)
                                  refine lv_aload_n hx hb dL_locks_691 rfl (lv_at hl 11 rfl) ?_
                                  refine lv_iload hx hb dL_locks_692 (lv_at hl 10 rfl) ?_
                                  refine fk_callV (As := [.int (nI t)]) (rest := []) ⟨hx, hb, hml, hown, hts⟩ (kc_locks l D ad cI cT cJ _ (kk_give S t (nI a) (S 0 a &&& 1073741824)) t ht) (cwV 1 hts gL_locks_X2_locks rfl rfl rfl (by decide +kernel) ⟨Nat.le_of_ble_eq_true rfl, Nat.le_of_ble_eq_true rfl⟩) (fk_rvK hK hP) hK hP hD hS hA rfl hl.1 rfl (Nat.le_of_ble_eq_true rfl) dL_locks_694 ⟨Nat.le_of_ble_eq_true rfl, Nat.le_of_ble_eq_true rfl⟩ (fun H locs hP hD hS => ?_)
                                  refine W.eq (g2 := F0 m 697 ls [.int ((kk_give S t (nI a) (S 0 a &&& 1073741824)) 10 t)]) rfl ?_
                                  refine W.eq (g2 := F0 m 697 ls [.int (nI (k9 + 1))]) (by rw [show ((kk_give S t (nI a) (S 0 a &&& 1073741824)) 10 t) = (nI (k9 + 1)) from (by rw [ek1, hkk, hke])]) ?_
                                  refine lv_iload hx hb dL_locks_697 (lv_at hl 5 rfl) ?_
                                  refine lv_icmp_lt (tgt := 782) hx hb dL_locks_699 (by decide) (fun c_61 => absurd c_61 (nI_nlt (a := k9 + 1) (b := k9) (by omega) (by omega))) (fun c_61 => ?_)
                                  refine lv_aload_n hx hb dL_locks_702 rfl (lv_at hl 11 rfl) ?_
                                  refine lv_iload hx hb dL_locks_703 (lv_at hl 10 rfl) ?_
                                  refine fk_callV (As := [.int (nI t)]) (rest := []) ⟨hx, hb, hml, hown, hts⟩ (kc_locks l D ad cI cT cJ _ (kk_give S t (nI a) (S 0 a &&& 1073741824)) t ht) (cwV 1 hts gL_locks_X2_locks rfl rfl rfl (by decide +kernel) ⟨Nat.le_of_ble_eq_true rfl, Nat.le_of_ble_eq_true rfl⟩) (fk_rvK hK hP) hK hP hD hS hA rfl hl.1 rfl (Nat.le_of_ble_eq_true rfl) dL_locks_705 ⟨Nat.le_of_ble_eq_true rfl, Nat.le_of_ble_eq_true rfl⟩ (fun H locs hP hD hS => ?_)
                                  refine W.eq (g2 := F0 m 708 ls [.int ((kk_give S t (nI a) (S 0 a &&& 1073741824)) 10 t)]) rfl ?_
                                  refine W.eq (g2 := F0 m 708 ls [.int (nI (k9 + 1))]) (by rw [show ((kk_give S t (nI a) (S 0 a &&& 1073741824)) 10 t) = (nI (k9 + 1)) from (by rw [ek1, hkk, hke])]) ?_
                                  refine lv_iload hx hb dL_locks_708 (lv_at hl 5 rfl) ?_
                                  refine lv_icmp_eq (tgt := 726) hx hb dL_locks_710 (by decide) (fun c_62 => absurd c_62 (fun c9 => absurd ((nI_eq (by omega) (by omega)).mp c9) (by omega))) (fun c_62 => ?_)
                                  refine lv_aload_n hx hb dL_locks_713 rfl (lv_at hl 11 rfl) ?_
                                  refine lv_iload hx hb dL_locks_714 (lv_at hl 10 rfl) ?_
                                  refine lv_iload hx hb dL_locks_716 (lv_at hl 5 rfl) ?_
                                  refine fk_callV (As := [.int (nI t), .int (nI k9)]) (rest := []) ⟨hx, hb, hml, hown, hts⟩ (kc_lockAt l D ad cI cT cJ _ (kk_give S t (nI a) (S 0 a &&& 1073741824)) t ht (nI k9) hG1.1.sz ⟨nI_pos' (by omega), by rw [ek1, hkk, hke]; exact nI_lt (by omega) (by omega)⟩) (cwV 2 hts gL_locks_X2_lockAt rfl rfl rfl (by decide +kernel) ⟨Nat.le_of_ble_eq_true rfl, Nat.le_of_ble_eq_true rfl⟩) (fk_rvK hK hP) hK hP hD hS hA rfl hl.1 rfl (Nat.le_of_ble_eq_true rfl) dL_locks_718 ⟨Nat.le_of_ble_eq_true rfl, Nat.le_of_ble_eq_true rfl⟩ (fun H locs hP hD hS => ?_)
                                  refine W.eq (g2 := F0 m 721 ls [.int (kk_addrAt (kk_give S t (nI a) (S 0 a &&& 1073741824)) t (nI k9))]) rfl ?_
                                  refine W.eq (g2 := F0 m 721 ls [.int (nI a)]) (by rw [show (kk_addrAt (kk_give S t (nI a) (S 0 a &&& 1073741824)) t (nI k9)) = (nI a) from (by rw [← hke]; exact hka)]) ?_
                                  refine lv_iload hx hb dL_locks_721 (lv_at hl 9 rfl) ?_
                                  refine lv_icmp_ne (tgt := 782) hx hb dL_locks_723 (by decide) (fun c => absurd rfl c) (fun _ => ?_)
                                  refine lv_aload_n hx hb dL_locks_726 rfl (lv_at hl 11 rfl) ?_
                                  refine lv_iload hx hb dL_locks_727 (lv_at hl 9 rfl) ?_
                                  refine fk_callV (As := [.int (nI a)]) (rest := []) ⟨hx, hb, hml, hown, hts⟩ (kc_word l D ad cI cT cJ _ (kk_give S t (nI a) (S 0 a &&& 1073741824)) a ha) (cwV 1 hts gL_locks_X2_word rfl rfl rfl (by decide +kernel) ⟨Nat.le_of_ble_eq_true rfl, Nat.le_of_ble_eq_true rfl⟩) (fk_rvK hK hP) hK hP hD hS hA rfl hl.1 rfl (Nat.le_of_ble_eq_true rfl) dL_locks_729 ⟨Nat.le_of_ble_eq_true rfl, Nat.le_of_ble_eq_true rfl⟩ (fun H locs hP hD hS => ?_)
                                  refine W.eq (g2 := F0 m 732 ls [.int ((kk_give S t (nI a) (S 0 a &&& 1073741824)) 0 a)]) rfl ?_
                                  refine lv_iload hx hb dL_locks_732 (lv_at hl 10 rfl) ?_
                                  refine lv_iconst (v := 1) hx hb dL_locks_734 (by decide) ?_
                                  refine lv_iadd hx hb dL_locks_735 ?_
                                  refine W.eq (g2 := F0 m 736 ls [.int (nI (t + 1)), .int ((kk_give S t (nI a) (S 0 a &&& 1073741824)) 0 a)]) (by rw [nI_1]) ?_
                                  refine lv_iload hx hb dL_locks_736 (lv_at hl 2 rfl) ?_
                                  refine lv_bipush (v := 30) hx hb dL_locks_738 (by decide) ?_
                                  refine lv_ishl hx hb dL_locks_740 ?_
                                  refine lv_iadd hx hb dL_locks_741 ?_
                                  refine lv_iload hx hb dL_locks_742 (lv_at hl 4 rfl) ?_
                                  refine lv_if_eq (tgt := 752) hx hb dL_locks_744 (by decide) (fun _ => ?_) (fun c => absurd c (by decide))
                                  refine lv_iconst (v := 0) hx hb dL_locks_752 (by decide) ?_
                                  refine lv_ior hx hb dL_locks_753 ?_
                                  refine lv_icmp_ne (tgt := 782) hx hb dL_locks_754 (by decide) (fun c_64 => absurd c_64 (fun h9 => h9 (by rw [hgw, if_pos ((kq_lk_any S a).mp hW9), (pl_wd ht).1, hb0]))) (fun c_64 => ?_)
                                  refine lv_aload_n hx hb dL_locks_757 rfl (lv_at hl 11 rfl) ?_
                                  refine lv_iload hx hb dL_locks_758 (lv_at hl 10 rfl) ?_
                                  refine fk_callV (As := [.int (nI t)]) (rest := []) ⟨hx, hb, hml, hown, hts⟩ (kc_stateOf l D ad cI cT cJ _ (kk_give S t (nI a) (S 0 a &&& 1073741824)) t ht) (cwV 1 hts gL_locks_X2_stateOf rfl rfl rfl (by decide +kernel) ⟨Nat.le_of_ble_eq_true rfl, Nat.le_of_ble_eq_true rfl⟩) (fk_rvK hK hP) hK hP hD hS hA rfl hl.1 rfl (Nat.le_of_ble_eq_true rfl) dL_locks_760 ⟨Nat.le_of_ble_eq_true rfl, Nat.le_of_ble_eq_true rfl⟩ (fun H locs hP hD hS => ?_)
                                  refine W.eq (g2 := F0 m 763 ls [.int ((kk_give S t (nI a) (S 0 a &&& 1073741824)) 1 t)]) rfl ?_
                                  refine W.eq (g2 := F0 m 763 ls [.int 0]) (by rw [show ((kk_give S t (nI a) (S 0 a &&& 1073741824)) 1 t) = (0 : Int32) from hg1]) ?_
                                  refine lv_if_ne (tgt := 782) hx hb dL_locks_763 (by decide) (fun c => absurd c (by decide)) (fun _ => ?_)
                                  refine lv_aload_n hx hb dL_locks_766 rfl (lv_at hl 11 rfl) ?_
                                  refine lv_iload hx hb dL_locks_767 (lv_at hl 10 rfl) ?_
                                  refine fk_callS (As := [.ref (ad 0), .int (nI t)]) (rest := []) ⟨hx, hb, hml, hown, hts⟩ (kl_threads l D ad cI cT cJ _ (kk_give S t (nI a) (S 0 a &&& 1073741824)) hG1.1.sz hG1.1.J (nI t)) (va_cwS 2 hts gL_locks_L_threads rfl rfl rfl (by decide +kernel) ⟨Nat.le_of_ble_eq_true rfl, Nat.le_of_ble_eq_true rfl⟩) hK hP hD hS hA rfl hl.1 rfl (Nat.le_of_ble_eq_true rfl) dL_locks_769 ⟨Nat.le_of_ble_eq_true rfl, Nat.le_of_ble_eq_true rfl⟩ (fun H locs hP hD hS => ?_)
                                  refine W.eq (g2 := F0 m 772 ls [.long (pl_thr (kk_give S t (nI a) (S 0 a &&& 1073741824)) (nI t))]) rfl ?_
                                  refine W.eq (g2 := F0 m 772 ls [.long (pl_thr S (nI t))]) (by rw [show (pl_thr (kk_give S t (nI a) (S 0 a &&& 1073741824)) (nI t)) = (pl_thr S (nI t)) from hgt]) ?_
                                  refine lv_lload hx hb dL_locks_772 (lv_at hl 6 rfl) ?_
                                  refine W.lcmp hx hb dL_locks_774 ?_
                                  refine W.eq (g2 := F0 m 775 ls [.int 0]) (by rw [fk_cmp_self]) ?_
                                  refine lv_if_ne (tgt := 782) hx hb dL_locks_775 (by decide) (fun c => absurd c (by decide)) (fun _ => ?_)
                                  refine lv_iconst (v := 1) hx hb dL_locks_778 (by decide) ?_
                                  refine lv_goto (tgt := 783) hx hb dL_locks_779 (by decide) ?_
                                  exact fk_zretE (Nat.le_of_ble_eq_true rfl) (Nat.le_of_ble_eq_true rfl) hx hb hr hlocks hP hK hD hS rfl ⟨rfl, _, _, rfl, (hG1).wk (by omega)⟩ dL_locks_783
                              | succ n1 ih2 =>
                                intro k w hk hw H locs ls hP hD hS hl
                                refine lv_iload hx hb dL_locks_618 (lv_at hl 0 rfl) ?_
                                refine lv_aload_n hx hb dL_locks_620 rfl (lv_at hl 11 rfl) ?_
                                refine lv_iload hx hb dL_locks_621 (lv_at hl 10 rfl) ?_
                                refine fk_callV (As := [.int (nI t)]) (rest := [.int (nI k)]) ⟨hx, hb, hml, hown, hts⟩ (kc_locks l D ad cI cT cJ _ (kk_give S t (nI a) (S 0 a &&& 1073741824)) t ht) (cwV 1 hts gL_locks_X2_locks rfl rfl rfl (by decide +kernel) ⟨Nat.le_of_ble_eq_true rfl, Nat.le_of_ble_eq_true rfl⟩) (fk_rvK hK hP) hK hP hD hS hA rfl hl.1 rfl (Nat.le_of_ble_eq_true rfl) dL_locks_623 ⟨Nat.le_of_ble_eq_true rfl, Nat.le_of_ble_eq_true rfl⟩ (fun H locs hP hD hS => ?_)
                                refine W.eq (g2 := F0 m 626 ls [.int ((kk_give S t (nI a) (S 0 a &&& 1073741824)) 10 t), .int (nI k)]) rfl ?_
                                refine W.eq (g2 := F0 m 626 ls [.int (nI k1), .int (nI k)]) (by rw [show ((kk_give S t (nI a) (S 0 a &&& 1073741824)) 10 t) = (nI k1) from ek1]) ?_
                                refine lv_icmp_ge (tgt := 660) hx hb dL_locks_626 (by decide) (fun c_67 => absurd c_67 (nI_ge (a := k) (b := k1) (by omega) (by omega))) (fun c_67 => ?_)
                                rcases Bool.eq_false_or_eq_true w with rfl | rfl
                                · have hl : lv_has ls 25 [(24, .int (nI k)), (23, .int 1), (22, .int 0), (21, .int 0), (19, .int 0), (18, .int (nI k9)), (13, .long (pl_thr S (nI t))), (10, .int (-1)), (9, .int (S 0 a)), (5, .int (nI a)), (4, .int (nI t)), (0, .ref (ad 0))] := hl
                                  refine lv_iload hx hb dL_locks_629 (lv_at hl 1 rfl) ?_
                                  refine lv_if_ne (tgt := 647) hx hb dL_locks_631 (by decide) (fun _ => ?_) (fun c => absurd c (by decide))
                                  refine lv_iconst (v := 1) hx hb dL_locks_647 (by decide) ?_
                                  refine lv_goto (tgt := 652) hx hb dL_locks_648 (by decide) ?_
                                  refine lv_istore (lv' := [(23, .int 1), (24, .int (nI k)), (22, .int 0), (21, .int 0), (19, .int 0), (18, .int (nI k9)), (13, .long (pl_thr S (nI t))), (10, .int (-1)), (9, .int (S 0 a)), (5, .int (nI a)), (4, .int (nI t)), (0, .ref (ad 0))]) hx hb dL_locks_652 hl (by decide) rfl (fun ls hl => ?_)
                                  refine lv_iinc (v := (nI (k + 1))) (lv' := [(24, .int (nI (k + 1))), (23, .int 1), (22, .int 0), (21, .int 0), (19, .int 0), (18, .int (nI k9)), (13, .long (pl_thr S (nI t))), (10, .int (-1)), (9, .int (S 0 a)), (5, .int (nI a)), (4, .int (nI t)), (0, .ref (ad 0))]) hx hb dL_locks_654 hl (k := 1) rfl (nI_1 k) (by decide) rfl (fun ls hl => ?_)
                                  refine lv_goto (tgt := 618) hx hb dL_locks_657 (by decide) ?_
                                  exact ih2 (k + 1) true (by omega) (Or.inl rfl) _ _ _ hP hD hS (lv_sub hl [0, 1, 2, 3, 4, 5, 6, 7, 8, 9, 10, 11] rfl)
                                · have hl : lv_has ls 25 [(24, .int (nI k)), (23, .int 0), (22, .int 0), (21, .int 0), (19, .int 0), (18, .int (nI k9)), (13, .long (pl_thr S (nI t))), (10, .int (-1)), (9, .int (S 0 a)), (5, .int (nI a)), (4, .int (nI t)), (0, .ref (ad 0))] := hl
                                  by_cases hlk : kk_addrAt (kk_give S t (nI a) (S 0 a &&& 1073741824)) t (nI k) = nI a
                                  · refine lv_iload hx hb dL_locks_629 (lv_at hl 1 rfl) ?_
                                    refine lv_if_ne (tgt := 647) hx hb dL_locks_631 (by decide) (fun c => absurd c (by decide)) (fun _ => ?_)
                                    refine lv_aload_n hx hb dL_locks_634 rfl (lv_at hl 11 rfl) ?_
                                    refine lv_iload hx hb dL_locks_635 (lv_at hl 10 rfl) ?_
                                    refine lv_iload hx hb dL_locks_637 (lv_at hl 0 rfl) ?_
                                    refine fk_callV (As := [.int (nI t), .int (nI k)]) (rest := []) ⟨hx, hb, hml, hown, hts⟩ (kc_lockAt l D ad cI cT cJ _ (kk_give S t (nI a) (S 0 a &&& 1073741824)) t ht (nI k) hG1.1.sz ⟨nI_pos' (by omega), by rw [ek1]; exact nI_lt (by omega) (by omega)⟩) (cwV 2 hts gL_locks_X2_lockAt rfl rfl rfl (by decide +kernel) ⟨Nat.le_of_ble_eq_true rfl, Nat.le_of_ble_eq_true rfl⟩) (fk_rvK hK hP) hK hP hD hS hA rfl hl.1 rfl (Nat.le_of_ble_eq_true rfl) dL_locks_639 ⟨Nat.le_of_ble_eq_true rfl, Nat.le_of_ble_eq_true rfl⟩ (fun H locs hP hD hS => ?_)
                                    refine W.eq (g2 := F0 m 642 ls [.int (kk_addrAt (kk_give S t (nI a) (S 0 a &&& 1073741824)) t (nI k))]) rfl ?_
                                    refine W.eq (g2 := F0 m 642 ls [.int (nI a)]) (by rw [show (kk_addrAt (kk_give S t (nI a) (S 0 a &&& 1073741824)) t (nI k)) = (nI a) from hlk]) ?_
                                    refine lv_iload hx hb dL_locks_642 (lv_at hl 9 rfl) ?_
                                    refine lv_icmp_ne (tgt := 651) hx hb dL_locks_644 (by decide) (fun c => absurd rfl c) (fun _ => ?_)
                                    refine lv_iconst (v := 1) hx hb dL_locks_647 (by decide) ?_
                                    refine lv_goto (tgt := 652) hx hb dL_locks_648 (by decide) ?_
                                    refine lv_istore (lv' := [(23, .int 1), (24, .int (nI k)), (22, .int 0), (21, .int 0), (19, .int 0), (18, .int (nI k9)), (13, .long (pl_thr S (nI t))), (10, .int (-1)), (9, .int (S 0 a)), (5, .int (nI a)), (4, .int (nI t)), (0, .ref (ad 0))]) hx hb dL_locks_652 hl (by decide) rfl (fun ls hl => ?_)
                                    refine lv_iinc (v := (nI (k + 1))) (lv' := [(24, .int (nI (k + 1))), (23, .int 1), (22, .int 0), (21, .int 0), (19, .int 0), (18, .int (nI k9)), (13, .long (pl_thr S (nI t))), (10, .int (-1)), (9, .int (S 0 a)), (5, .int (nI a)), (4, .int (nI t)), (0, .ref (ad 0))]) hx hb dL_locks_654 hl (k := 1) rfl (nI_1 k) (by decide) rfl (fun ls hl => ?_)
                                    refine lv_goto (tgt := 618) hx hb dL_locks_657 (by decide) ?_
                                    exact ih2 (k + 1) true (by omega) (Or.inl rfl) _ _ _ hP hD hS (lv_sub hl [0, 1, 2, 3, 4, 5, 6, 7, 8, 9, 10, 11] rfl)
                                  · have hkj : k + 1 ≤ j9 := by
                                      rcases hw with h9 | h9
                                      · cases h9
                                      · have : k ≠ j9 := fun z => hlk (by rw [z]; exact ej9)
                                        omega
                                    refine lv_iload hx hb dL_locks_629 (lv_at hl 1 rfl) ?_
                                    refine lv_if_ne (tgt := 647) hx hb dL_locks_631 (by decide) (fun c => absurd c (by decide)) (fun _ => ?_)
                                    refine lv_aload_n hx hb dL_locks_634 rfl (lv_at hl 11 rfl) ?_
                                    refine lv_iload hx hb dL_locks_635 (lv_at hl 10 rfl) ?_
                                    refine lv_iload hx hb dL_locks_637 (lv_at hl 0 rfl) ?_
                                    refine fk_callV (As := [.int (nI t), .int (nI k)]) (rest := []) ⟨hx, hb, hml, hown, hts⟩ (kc_lockAt l D ad cI cT cJ _ (kk_give S t (nI a) (S 0 a &&& 1073741824)) t ht (nI k) hG1.1.sz ⟨nI_pos' (by omega), by rw [ek1]; exact nI_lt (by omega) (by omega)⟩) (cwV 2 hts gL_locks_X2_lockAt rfl rfl rfl (by decide +kernel) ⟨Nat.le_of_ble_eq_true rfl, Nat.le_of_ble_eq_true rfl⟩) (fk_rvK hK hP) hK hP hD hS hA rfl hl.1 rfl (Nat.le_of_ble_eq_true rfl) dL_locks_639 ⟨Nat.le_of_ble_eq_true rfl, Nat.le_of_ble_eq_true rfl⟩ (fun H locs hP hD hS => ?_)
                                    refine W.eq (g2 := F0 m 642 ls [.int (kk_addrAt (kk_give S t (nI a) (S 0 a &&& 1073741824)) t (nI k))]) rfl ?_
                                    refine lv_iload hx hb dL_locks_642 (lv_at hl 9 rfl) ?_
                                    refine lv_icmp_ne (tgt := 651) hx hb dL_locks_644 (by decide) (fun c_71 => ?_) (fun c9 => absurd c9 hlk)
                                    refine lv_iconst (v := 0) hx hb dL_locks_651 (by decide) ?_
                                    refine lv_istore (lv' := [(23, .int 0), (24, .int (nI k)), (22, .int 0), (21, .int 0), (19, .int 0), (18, .int (nI k9)), (13, .long (pl_thr S (nI t))), (10, .int (-1)), (9, .int (S 0 a)), (5, .int (nI a)), (4, .int (nI t)), (0, .ref (ad 0))]) hx hb dL_locks_652 hl (by decide) rfl (fun ls hl => ?_)
                                    refine lv_iinc (v := (nI (k + 1))) (lv' := [(24, .int (nI (k + 1))), (23, .int 0), (22, .int 0), (21, .int 0), (19, .int 0), (18, .int (nI k9)), (13, .long (pl_thr S (nI t))), (10, .int (-1)), (9, .int (S 0 a)), (5, .int (nI a)), (4, .int (nI t)), (0, .ref (ad 0))]) hx hb dL_locks_654 hl (k := 1) rfl (nI_1 k) (by decide) rfl (fun ls hl => ?_)
                                    refine lv_goto (tgt := 618) hx hb dL_locks_657 (by decide) ?_
                                    exact ih2 (k + 1) false (by omega) (Or.inr hkj) _ _ _ hP hD hS (lv_sub hl [0, 1, 2, 3, 4, 5, 6, 7, 8, 9, 10, 11] rfl)
                            exact loop2 k1 0 false (by omega) (Or.inr (Nat.zero_le _)) _ _ _ hP hD hS (lv_sub hl [0, 1, 2, 3, 5, 6, 9, 11, 12, 16, 17, 18] rfl)
                        · have hbn : ¬ S 0 a &&& 1073741824 = 0 := by rw [hb0]; decide
                          rcases Bool.eq_false_or_eq_true ((kq_A S a).any (fun t => decide (S 1 t = 2))) with hW9 | hW9
                          · have hl : lv_has ls 25 [(20, .int (nI k)), (19, .int 1), (18, .int (nI k9)), (17, .int 1), (15, .long (pl_wds S (-1))), (13, .long (pl_thr S (nI t))), (11, .long (pl_thr S (-1))), (10, .int (-1)), (9, .int (S 0 a)), (8, .int 0), (7, .int to), (6, .int 0), (5, .int (nI a)), (4, .int (nI t)), (0, .ref (ad 0)), (2, .int y), (3, .int od), (1, .ref q)] := by rw [hW9] at hl; exact hl
                            refine lv_iload hx hb dL_locks_305 (lv_at hl 7 rfl) ?_
                            refine lv_bipush (v := 7) hx hb dL_locks_307 (by decide) ?_
                            refine lv_icmp_gt (tgt := 327) hx hb dL_locks_309 (by decide) (fun c => absurd c (by decide)) (fun _ => ?_)
                            refine lv_iload hx hb dL_locks_312 (lv_at hl 7 rfl) ?_
                            refine lv_if_lt (tgt := 331) hx hb dL_locks_314 (by decide) (fun _ => ?_) (fun c => absurd c (by decide))
                            refine lv_iconst (v := 0) hx hb dL_locks_331 (by decide) ?_
                            refine lv_istore (lv' := [(20, .int 0), (19, .int 1), (18, .int (nI k9)), (17, .int 1), (15, .long (pl_wds S (-1))), (13, .long (pl_thr S (nI t))), (11, .long (pl_thr S (-1))), (10, .int (-1)), (9, .int (S 0 a)), (8, .int 0), (7, .int to), (6, .int 0), (5, .int (nI a)), (4, .int (nI t)), (0, .ref (ad 0)), (2, .int y), (3, .int od), (1, .ref q)]) hx hb dL_locks_332 hl (by decide) rfl (fun ls hl => ?_)
                            refine lv_aload_n hx hb dL_locks_334 rfl (lv_at hl 14 rfl) ?_
                            refine lv_iconst (v := 0) hx hb dL_locks_335 (by decide) ?_
                            refine lv_iload hx hb dL_locks_336 (lv_at hl 13 rfl) ?_
                            refine lv_iload hx hb dL_locks_338 (lv_at hl 12 rfl) ?_
                            refine lv_iload hx hb dL_locks_340 (lv_at hl 10 rfl) ?_
                            refine lv_iconst (v := 0) hx hb dL_locks_342 (by decide) ?_
                            obtain ⟨hk1, hk2⟩ := kk_lock_give (t := t) how to
                            rw [if_neg hbn] at hk1
                            obtain ⟨hG1, hgt, hg1, hgw, k8, k1, j9, ek8, hk8, ek1, hk16, hj9, ej9, hkk⟩ := kq_give hG ht ha (S 0 a &&& 1073741824) hs0
                            have hke : k8 = k9 := (nI_eq (by omega) (by omega)).mp (ek8.symm.trans ek9)
                            refine fk_lcallS (As := [.ref (ad 0), .int 0, .int (nI t), .int (nI a), .int to, .int 0]) (rest := []) ⟨hx, hb, hml, hown, hts⟩ (Lc_lock l D ad cI cT cJ _ S _ _ _ _ (kk_give S t (nI a) (S 0 a &&& 1073741824)) 1 (fun X => by have h9 := kc_lock l D ad cI cT cJ X S t ht a ha to hs0 hbad hG.1.sz; rw [hk1, hk2] at h9; exact h9)) (vx_cwSW 6 hts gL_locks_L_acts rfl rfl rfl (by decide +kernel) ⟨Nat.le_of_ble_eq_true rfl, Nat.le_of_ble_eq_true rfl⟩) hK hP hD hS hA hZ hN rfl hl.1 rfl (Nat.le_of_ble_eq_true rfl) dL_locks_343 ⟨Nat.le_of_ble_eq_true rfl, Nat.le_of_ble_eq_true rfl⟩ (fun H locs hP hD hS => ?_)
                            refine W.eq (g2 := F0 m 346 ls [.int 1]) rfl ?_
                            refine lv_istore (lv' := [(21, .int 1), (20, .int 0), (19, .int 1), (18, .int (nI k9)), (17, .int 1), (15, .long (pl_wds S (-1))), (13, .long (pl_thr S (nI t))), (11, .long (pl_thr S (-1))), (10, .int (-1)), (9, .int (S 0 a)), (8, .int 0), (7, .int to), (6, .int 0), (5, .int (nI a)), (4, .int (nI t)), (0, .ref (ad 0)), (2, .int y), (3, .int od), (1, .ref q)]) hx hb dL_locks_346 hl (by decide) rfl (fun ls hl => ?_)
                            refine lv_iload hx hb dL_locks_348 (lv_at hl 12 rfl) ?_
                            refine lv_if_ne (tgt := 363) hx hb dL_locks_350 (by decide) (fun c => absurd c (by decide)) (fun _ => ?_)
                            refine lv_iload hx hb dL_locks_353 (lv_at hl 10 rfl) ?_
                            refine lv_if_ne (tgt := 363) hx hb dL_locks_355 (by decide) (fun c => absurd c (by decide)) (fun _ => ?_)
                            refine lv_iload hx hb dL_locks_358 (lv_at hl 4 rfl) ?_
                            refine lv_if_ne (tgt := 418) hx hb dL_locks_360 (by decide) (fun _ => ?_) (fun c => absurd c (by decide))
                            refine lv_iload hx hb dL_locks_418 (lv_at hl 0 rfl) ?_
                            refine lv_iconst (v := 2) hx hb dL_locks_420 (by decide) ?_
                            refine lv_icmp_le (tgt := 505) hx hb dL_locks_421 (by decide) (fun _ => ?_) (fun c => absurd c (by decide))
                            refine lv_iload hx hb dL_locks_505 (lv_at hl 0 rfl) ?_
                            refine lv_iconst (v := 2) hx hb dL_locks_507 (by decide) ?_
                            refine lv_icmp_ne (tgt := 603) hx hb dL_locks_508 (by decide) (fun _ => ?_) (fun c => absurd c (by decide))
                            refine lv_iload hx hb dL_locks_603 (lv_at hl 9 rfl) ?_
                            refine lv_bipush (v := 30) hx hb dL_locks_605 (by decide) ?_
                            refine lv_ishr hx hb dL_locks_607 ?_
                            refine lv_iconst (v := 1) hx hb dL_locks_608 (by decide) ?_
                            refine lv_iand hx hb dL_locks_609 ?_
                            refine W.eq (g2 := F0 m 610 ls [.int 1]) (by rw [hb1]) ?_
                            refine lv_istore (lv' := [(22, .int 1), (21, .int 1), (20, .int 0), (19, .int 1), (18, .int (nI k9)), (17, .int 1), (15, .long (pl_wds S (-1))), (13, .long (pl_thr S (nI t))), (11, .long (pl_thr S (-1))), (10, .int (-1)), (9, .int (S 0 a)), (8, .int 0), (7, .int to), (6, .int 0), (5, .int (nI a)), (4, .int (nI t)), (0, .ref (ad 0)), (2, .int y), (3, .int od), (1, .ref q)]) hx hb dL_locks_610 hl (by decide) rfl (fun ls hl => ?_)
                            refine lv_iconst (v := 0) hx hb dL_locks_612 (by decide) ?_
                            refine lv_istore (lv' := [(23, .int 0), (22, .int 1), (21, .int 1), (20, .int 0), (19, .int 1), (18, .int (nI k9)), (17, .int 1), (15, .long (pl_wds S (-1))), (13, .long (pl_thr S (nI t))), (11, .long (pl_thr S (-1))), (10, .int (-1)), (9, .int (S 0 a)), (8, .int 0), (7, .int to), (6, .int 0), (5, .int (nI a)), (4, .int (nI t)), (0, .ref (ad 0)), (2, .int y), (3, .int od), (1, .ref q)]) hx hb dL_locks_613 hl (by decide) rfl (fun ls hl => ?_)
                            refine lv_iconst (v := 0) hx hb dL_locks_615 (by decide) ?_
                            refine lv_istore (lv' := [(24, .int 0), (23, .int 0), (22, .int 1), (21, .int 1), (20, .int 0), (19, .int 1), (18, .int (nI k9)), (17, .int 1), (15, .long (pl_wds S (-1))), (13, .long (pl_thr S (nI t))), (11, .long (pl_thr S (-1))), (10, .int (-1)), (9, .int (S 0 a)), (8, .int 0), (7, .int to), (6, .int 0), (5, .int (nI a)), (4, .int (nI t)), (0, .ref (ad 0)), (2, .int y), (3, .int od), (1, .ref q)]) hx hb dL_locks_616 hl (by decide) rfl (fun ls hl => ?_)
                            have loop2 : ∀ (n1 : Nat) (k : Nat) (w : Bool), k + n1 = k1 → (w = true ∨ k ≤ j9) → ∀ (H : Heap) (locs : List Loc) (ls : Array Slot), va_P D vwCl (fk_kW ad cI cT (kk_give S t (nI a) (S 0 a &&& 1073741824)) ++ (q, fk_pr cI P) :: X) H → va_D A (fk_kW ad cI cT (kk_give S t (nI a) (S 0 a &&& 1073741824)) ++ (q, fk_pr cI P) :: X) → va_S A s.heap H locs → lv_has ls 25 [(24, .int (nI k)), (23, .int (fk_b w)), (22, .int 1), (21, .int 1), (19, .int 1), (18, .int (nI k9)), (13, .long (pl_thr S (nI t))), (10, .int (-1)), (9, .int (S 0 a)), (5, .int (nI a)), (4, .int (nI t)), (0, .ref (ad 0))] → W p l e rm_E s m ([.ref (ad 0), .ref q, .int y, .int od] : List Value).toArray below meth c H locs (0 + 1) (0 + 6) (MQ below (fk_QE D (fk_ty cI cT cJ) A (kq_Phi ad cI cT q X (n + 20))) ([.ref (ad 0), .ref q, .int y, .int od] : List Value).toArray s 2 12 A) (F0 m 618 ls []) := by
                              intro n1
                              induction n1 with
                              | zero =>
                                intro k w hk hw H locs ls hP hD hS hl
                                have hw9 : w = true := hw.elim id (fun h9 => absurd h9 (by omega))
                                have hl : lv_has ls 25 [(24, .int (nI k)), (23, .int 1), (22, .int 1), (21, .int 1), (19, .int 1), (18, .int (nI k9)), (13, .long (pl_thr S (nI t))), (10, .int (-1)), (9, .int (S 0 a)), (5, .int (nI a)), (4, .int (nI t)), (0, .ref (ad 0))] := by rw [hw9] at hl; exact hl
                                refine lv_iload hx hb dL_locks_618 (lv_at hl 0 rfl) ?_
                                refine lv_aload_n hx hb dL_locks_620 rfl (lv_at hl 11 rfl) ?_
                                refine lv_iload hx hb dL_locks_621 (lv_at hl 10 rfl) ?_
                                refine fk_callV (As := [.int (nI t)]) (rest := [.int (nI k)]) ⟨hx, hb, hml, hown, hts⟩ (kc_locks l D ad cI cT cJ _ (kk_give S t (nI a) (S 0 a &&& 1073741824)) t ht) (cwV 1 hts gL_locks_X2_locks rfl rfl rfl (by decide +kernel) ⟨Nat.le_of_ble_eq_true rfl, Nat.le_of_ble_eq_true rfl⟩) (fk_rvK hK hP) hK hP hD hS hA rfl hl.1 rfl (Nat.le_of_ble_eq_true rfl) dL_locks_623 ⟨Nat.le_of_ble_eq_true rfl, Nat.le_of_ble_eq_true rfl⟩ (fun H locs hP hD hS => ?_)
                                refine W.eq (g2 := F0 m 626 ls [.int ((kk_give S t (nI a) (S 0 a &&& 1073741824)) 10 t), .int (nI k)]) rfl ?_
                                refine W.eq (g2 := F0 m 626 ls [.int (nI k1), .int (nI k)]) (by rw [show ((kk_give S t (nI a) (S 0 a &&& 1073741824)) 10 t) = (nI k1) from ek1]) ?_
                                refine lv_icmp_ge (tgt := 660) hx hb dL_locks_626 (by decide) (fun c_79 => ?_) (fun c_79 => absurd (nI_le (a := k1) (b := k) (by omega) (by omega)) c_79)
                                rcases hkk with hkk | ⟨hkk, hka⟩
                                · refine lv_iload hx hb dL_locks_660 (lv_at hl 3 rfl) ?_
                                  refine lv_iload hx hb dL_locks_662 (lv_at hl 2 rfl) ?_
                                  refine lv_icmp_ne (tgt := 782) hx hb dL_locks_664 (by decide) (fun c => absurd c (by decide)) (fun _ => ?_)
                                  refine lv_iload hx hb dL_locks_667 (lv_at hl 7 rfl) ?_
                                  refine lv_iconst (v := (-1)) hx hb dL_locks_669 (by decide) ?_
                                  refine lv_icmp_ne (tgt := 782) hx hb dL_locks_670 (by decide) (fun c => absurd c (by decide)) (fun _ => ?_)
                                  refine lv_iload hx hb dL_locks_673 (lv_at hl 1 rfl) ?_
                                  refine lv_if_eq (tgt := 782) hx hb dL_locks_675 (by decide) (fun c => absurd c (by decide)) (fun _ => ?_)
                                  refine lv_aload_n hx hb dL_locks_678 rfl (lv_at hl 11 rfl) ?_
                                  refine lv_iload hx hb dL_locks_679 (lv_at hl 10 rfl) ?_
                                  refine fk_callV (As := [.int (nI t)]) (rest := []) ⟨hx, hb, hml, hown, hts⟩ (kc_locks l D ad cI cT cJ _ (kk_give S t (nI a) (S 0 a &&& 1073741824)) t ht) (cwV 1 hts gL_locks_X2_locks rfl rfl rfl (by decide +kernel) ⟨Nat.le_of_ble_eq_true rfl, Nat.le_of_ble_eq_true rfl⟩) (fk_rvK hK hP) hK hP hD hS hA rfl hl.1 rfl (Nat.le_of_ble_eq_true rfl) dL_locks_681 ⟨Nat.le_of_ble_eq_true rfl, Nat.le_of_ble_eq_true rfl⟩ (fun H locs hP hD hS => ?_)
                                  refine W.eq (g2 := F0 m 684 ls [.int ((kk_give S t (nI a) (S 0 a &&& 1073741824)) 10 t)]) rfl ?_
                                  refine W.eq (g2 := F0 m 684 ls [.int (nI k9)]) (by rw [show ((kk_give S t (nI a) (S 0 a &&& 1073741824)) 10 t) = (nI k9) from (by rw [ek1, hkk, hke])]) ?_
                                  refine lv_iload hx hb dL_locks_684 (lv_at hl 5 rfl) ?_
                                  refine lv_isub hx hb dL_locks_686 ?_
                                  refine lv_iconst (v := 2) hx hb dL_locks_687 (by decide) ?_
                                  refine lv_icmp_ge (tgt := 782) hx hb dL_locks_688 (by decide) (fun c_83 => absurd c_83 (by rw [Int32.sub_self]; decide)) (fun c_83 => ?_)
                                  refine lv_aload_n hx hb dL_locks_691 rfl (lv_at hl 11 rfl) ?_
                                  refine lv_iload hx hb dL_locks_692 (lv_at hl 10 rfl) ?_
                                  refine fk_callV (As := [.int (nI t)]) (rest := []) ⟨hx, hb, hml, hown, hts⟩ (kc_locks l D ad cI cT cJ _ (kk_give S t (nI a) (S 0 a &&& 1073741824)) t ht) (cwV 1 hts gL_locks_X2_locks rfl rfl rfl (by decide +kernel) ⟨Nat.le_of_ble_eq_true rfl, Nat.le_of_ble_eq_true rfl⟩) (fk_rvK hK hP) hK hP hD hS hA rfl hl.1 rfl (Nat.le_of_ble_eq_true rfl) dL_locks_694 ⟨Nat.le_of_ble_eq_true rfl, Nat.le_of_ble_eq_true rfl⟩ (fun H locs hP hD hS => ?_)
                                  refine W.eq (g2 := F0 m 697 ls [.int ((kk_give S t (nI a) (S 0 a &&& 1073741824)) 10 t)]) rfl ?_
                                  refine W.eq (g2 := F0 m 697 ls [.int (nI k9)]) (by rw [show ((kk_give S t (nI a) (S 0 a &&& 1073741824)) 10 t) = (nI k9) from (by rw [ek1, hkk, hke])]) ?_
                                  refine lv_iload hx hb dL_locks_697 (lv_at hl 5 rfl) ?_
                                  refine lv_icmp_lt (tgt := 782) hx hb dL_locks_699 (by decide) (fun c_84 => absurd c_84 (nI_nlt (a := k9) (b := k9) (by omega) (by omega))) (fun c_84 => ?_)
                                  refine lv_aload_n hx hb dL_locks_702 rfl (lv_at hl 11 rfl) ?_
                                  refine lv_iload hx hb dL_locks_703 (lv_at hl 10 rfl) ?_
                                  refine fk_callV (As := [.int (nI t)]) (rest := []) ⟨hx, hb, hml, hown, hts⟩ (kc_locks l D ad cI cT cJ _ (kk_give S t (nI a) (S 0 a &&& 1073741824)) t ht) (cwV 1 hts gL_locks_X2_locks rfl rfl rfl (by decide +kernel) ⟨Nat.le_of_ble_eq_true rfl, Nat.le_of_ble_eq_true rfl⟩) (fk_rvK hK hP) hK hP hD hS hA rfl hl.1 rfl (Nat.le_of_ble_eq_true rfl) dL_locks_705 ⟨Nat.le_of_ble_eq_true rfl, Nat.le_of_ble_eq_true rfl⟩ (fun H locs hP hD hS => ?_)
                                  refine W.eq (g2 := F0 m 708 ls [.int ((kk_give S t (nI a) (S 0 a &&& 1073741824)) 10 t)]) rfl ?_
                                  refine W.eq (g2 := F0 m 708 ls [.int (nI k9)]) (by rw [show ((kk_give S t (nI a) (S 0 a &&& 1073741824)) 10 t) = (nI k9) from (by rw [ek1, hkk, hke])]) ?_
                                  refine lv_iload hx hb dL_locks_708 (lv_at hl 5 rfl) ?_
                                  refine lv_icmp_eq (tgt := 726) hx hb dL_locks_710 (by decide) (fun _ => ?_) (fun c => absurd rfl c)
                                  refine lv_aload_n hx hb dL_locks_726 rfl (lv_at hl 11 rfl) ?_
                                  refine lv_iload hx hb dL_locks_727 (lv_at hl 9 rfl) ?_
                                  refine fk_callV (As := [.int (nI a)]) (rest := []) ⟨hx, hb, hml, hown, hts⟩ (kc_word l D ad cI cT cJ _ (kk_give S t (nI a) (S 0 a &&& 1073741824)) a ha) (cwV 1 hts gL_locks_X2_word rfl rfl rfl (by decide +kernel) ⟨Nat.le_of_ble_eq_true rfl, Nat.le_of_ble_eq_true rfl⟩) (fk_rvK hK hP) hK hP hD hS hA rfl hl.1 rfl (Nat.le_of_ble_eq_true rfl) dL_locks_729 ⟨Nat.le_of_ble_eq_true rfl, Nat.le_of_ble_eq_true rfl⟩ (fun H locs hP hD hS => ?_)
                                  refine W.eq (g2 := F0 m 732 ls [.int ((kk_give S t (nI a) (S 0 a &&& 1073741824)) 0 a)]) rfl ?_
                                  refine lv_iload hx hb dL_locks_732 (lv_at hl 10 rfl) ?_
                                  refine lv_iconst (v := 1) hx hb dL_locks_734 (by decide) ?_
                                  refine lv_iadd hx hb dL_locks_735 ?_
                                  refine W.eq (g2 := F0 m 736 ls [.int (nI (t + 1)), .int ((kk_give S t (nI a) (S 0 a &&& 1073741824)) 0 a)]) (by rw [nI_1]) ?_
                                  refine lv_iload hx hb dL_locks_736 (lv_at hl 2 rfl) ?_
                                  refine lv_bipush (v := 30) hx hb dL_locks_738 (by decide) ?_
                                  refine lv_ishl hx hb dL_locks_740 ?_
                                  refine lv_iadd hx hb dL_locks_741 ?_
                                  refine lv_iload hx hb dL_locks_742 (lv_at hl 4 rfl) ?_
                                  refine lv_if_eq (tgt := 752) hx hb dL_locks_744 (by decide) (fun c => absurd c (by decide)) (fun _ => ?_)
                                  refine lv_ldc (own := RL) (v := (-2147483648)) hx hb hown (hts (.constant RL 159 (-2147483648)) (List.mem_of_getElem? (i := 4) rfl)) dL_locks_747 ?_
                                  refine lv_goto (tgt := 753) hx hb dL_locks_749 (by decide) ?_
                                  refine lv_ior hx hb dL_locks_753 ?_
                                  refine lv_icmp_ne (tgt := 782) hx hb dL_locks_754 (by decide) (fun c_86 => absurd c_86 (fun h9 => h9 (by rw [hgw, if_neg (fun z => by have := (kq_lk_any S a).mpr z; rw [hW9] at this; cases this), (pl_wd ht).2, hb0]))) (fun c_86 => ?_)
                                  refine lv_aload_n hx hb dL_locks_757 rfl (lv_at hl 11 rfl) ?_
                                  refine lv_iload hx hb dL_locks_758 (lv_at hl 10 rfl) ?_
                                  refine fk_callV (As := [.int (nI t)]) (rest := []) ⟨hx, hb, hml, hown, hts⟩ (kc_stateOf l D ad cI cT cJ _ (kk_give S t (nI a) (S 0 a &&& 1073741824)) t ht) (cwV 1 hts gL_locks_X2_stateOf rfl rfl rfl (by decide +kernel) ⟨Nat.le_of_ble_eq_true rfl, Nat.le_of_ble_eq_true rfl⟩) (fk_rvK hK hP) hK hP hD hS hA rfl hl.1 rfl (Nat.le_of_ble_eq_true rfl) dL_locks_760 ⟨Nat.le_of_ble_eq_true rfl, Nat.le_of_ble_eq_true rfl⟩ (fun H locs hP hD hS => ?_)
                                  refine W.eq (g2 := F0 m 763 ls [.int ((kk_give S t (nI a) (S 0 a &&& 1073741824)) 1 t)]) rfl ?_
                                  refine W.eq (g2 := F0 m 763 ls [.int 0]) (by rw [show ((kk_give S t (nI a) (S 0 a &&& 1073741824)) 1 t) = (0 : Int32) from hg1]) ?_
                                  refine lv_if_ne (tgt := 782) hx hb dL_locks_763 (by decide) (fun c => absurd c (by decide)) (fun _ => ?_)
                                  refine lv_aload_n hx hb dL_locks_766 rfl (lv_at hl 11 rfl) ?_
                                  refine lv_iload hx hb dL_locks_767 (lv_at hl 10 rfl) ?_
                                  refine fk_callS (As := [.ref (ad 0), .int (nI t)]) (rest := []) ⟨hx, hb, hml, hown, hts⟩ (kl_threads l D ad cI cT cJ _ (kk_give S t (nI a) (S 0 a &&& 1073741824)) hG1.1.sz hG1.1.J (nI t)) (va_cwS 2 hts gL_locks_L_threads rfl rfl rfl (by decide +kernel) ⟨Nat.le_of_ble_eq_true rfl, Nat.le_of_ble_eq_true rfl⟩) hK hP hD hS hA rfl hl.1 rfl (Nat.le_of_ble_eq_true rfl) dL_locks_769 ⟨Nat.le_of_ble_eq_true rfl, Nat.le_of_ble_eq_true rfl⟩ (fun H locs hP hD hS => ?_)
                                  refine W.eq (g2 := F0 m 772 ls [.long (pl_thr (kk_give S t (nI a) (S 0 a &&& 1073741824)) (nI t))]) rfl ?_
                                  refine W.eq (g2 := F0 m 772 ls [.long (pl_thr S (nI t))]) (by rw [show (pl_thr (kk_give S t (nI a) (S 0 a &&& 1073741824)) (nI t)) = (pl_thr S (nI t)) from hgt]) ?_
                                  refine lv_lload hx hb dL_locks_772 (lv_at hl 6 rfl) ?_
                                  refine W.lcmp hx hb dL_locks_774 ?_
                                  refine W.eq (g2 := F0 m 775 ls [.int 0]) (by rw [fk_cmp_self]) ?_
                                  refine lv_if_ne (tgt := 782) hx hb dL_locks_775 (by decide) (fun c => absurd c (by decide)) (fun _ => ?_)
                                  refine lv_iconst (v := 1) hx hb dL_locks_778 (by decide) ?_
                                  refine lv_goto (tgt := 783) hx hb dL_locks_779 (by decide) ?_
                                  exact fk_zretE (Nat.le_of_ble_eq_true rfl) (Nat.le_of_ble_eq_true rfl) hx hb hr hlocks hP hK hD hS rfl ⟨rfl, _, _, rfl, (hG1).wk (by omega)⟩ dL_locks_783
                                · refine lv_iload hx hb dL_locks_660 (lv_at hl 3 rfl) ?_
                                  refine lv_iload hx hb dL_locks_662 (lv_at hl 2 rfl) ?_
                                  refine lv_icmp_ne (tgt := 782) hx hb dL_locks_664 (by decide) (fun c => absurd c (by decide)) (fun _ => ?_)
                                  refine lv_iload hx hb dL_locks_667 (lv_at hl 7 rfl) ?_
                                  refine lv_iconst (v := (-1)) hx hb dL_locks_669 (by decide) ?_
                                  refine lv_icmp_ne (tgt := 782) hx hb dL_locks_670 (by decide) (fun c => absurd c (by decide)) (fun _ => ?_)
                                  refine lv_iload hx hb dL_locks_673 (lv_at hl 1 rfl) ?_
                                  refine lv_if_eq (tgt := 782) hx hb dL_locks_675 (by decide) (fun c => absurd c (by decide)) (fun _ => ?_)
                                  refine lv_aload_n hx hb dL_locks_678 rfl (lv_at hl 11 rfl) ?_
                                  refine lv_iload hx hb dL_locks_679 (lv_at hl 10 rfl) ?_
                                  refine fk_callV (As := [.int (nI t)]) (rest := []) ⟨hx, hb, hml, hown, hts⟩ (kc_locks l D ad cI cT cJ _ (kk_give S t (nI a) (S 0 a &&& 1073741824)) t ht) (cwV 1 hts gL_locks_X2_locks rfl rfl rfl (by decide +kernel) ⟨Nat.le_of_ble_eq_true rfl, Nat.le_of_ble_eq_true rfl⟩) (fk_rvK hK hP) hK hP hD hS hA rfl hl.1 rfl (Nat.le_of_ble_eq_true rfl) dL_locks_681 ⟨Nat.le_of_ble_eq_true rfl, Nat.le_of_ble_eq_true rfl⟩ (fun H locs hP hD hS => ?_)
                                  refine W.eq (g2 := F0 m 684 ls [.int ((kk_give S t (nI a) (S 0 a &&& 1073741824)) 10 t)]) rfl ?_
                                  refine W.eq (g2 := F0 m 684 ls [.int (nI (k9 + 1))]) (by rw [show ((kk_give S t (nI a) (S 0 a &&& 1073741824)) 10 t) = (nI (k9 + 1)) from (by rw [ek1, hkk, hke])]) ?_
                                  refine lv_iload hx hb dL_locks_684 (lv_at hl 5 rfl) ?_
                                  refine lv_isub hx hb dL_locks_686 ?_
                                  refine lv_iconst (v := 2) hx hb dL_locks_687 (by decide) ?_
                                  refine lv_icmp_ge (tgt := 782) hx hb dL_locks_688 (by decide) (fun c_92 => absurd c_92 (by rw [pk_sub (by omega), Nat.add_sub_cancel_left]; decide)) (fun c_92 => ?_)
                                  refine lv_aload_n hx hb dL_locks_691 rfl (lv_at hl 11 rfl) ?_
                                  refine lv_iload hx hb dL_locks_692 (lv_at hl 10 rfl) ?_
                                  refine fk_callV (As := [.int (nI t)]) (rest := []) ⟨hx, hb, hml, hown, hts⟩ (kc_locks l D ad cI cT cJ _ (kk_give S t (nI a) (S 0 a &&& 1073741824)) t ht) (cwV 1 hts gL_locks_X2_locks rfl rfl rfl (by decide +kernel) ⟨Nat.le_of_ble_eq_true rfl, Nat.le_of_ble_eq_true rfl⟩) (fk_rvK hK hP) hK hP hD hS hA rfl hl.1 rfl (Nat.le_of_ble_eq_true rfl) dL_locks_694 ⟨Nat.le_of_ble_eq_true rfl, Nat.le_of_ble_eq_true rfl⟩ (fun H locs hP hD hS => ?_)
                                  refine W.eq (g2 := F0 m 697 ls [.int ((kk_give S t (nI a) (S 0 a &&& 1073741824)) 10 t)]) rfl ?_
                                  refine W.eq (g2 := F0 m 697 ls [.int (nI (k9 + 1))]) (by rw [show ((kk_give S t (nI a) (S 0 a &&& 1073741824)) 10 t) = (nI (k9 + 1)) from (by rw [ek1, hkk, hke])]) ?_
                                  refine lv_iload hx hb dL_locks_697 (lv_at hl 5 rfl) ?_
                                  refine lv_icmp_lt (tgt := 782) hx hb dL_locks_699 (by decide) (fun c_93 => absurd c_93 (nI_nlt (a := k9 + 1) (b := k9) (by omega) (by omega))) (fun c_93 => ?_)
                                  refine lv_aload_n hx hb dL_locks_702 rfl (lv_at hl 11 rfl) ?_
                                  refine lv_iload hx hb dL_locks_703 (lv_at hl 10 rfl) ?_
                                  refine fk_callV (As := [.int (nI t)]) (rest := []) ⟨hx, hb, hml, hown, hts⟩ (kc_locks l D ad cI cT cJ _ (kk_give S t (nI a) (S 0 a &&& 1073741824)) t ht) (cwV 1 hts gL_locks_X2_locks rfl rfl rfl (by decide +kernel) ⟨Nat.le_of_ble_eq_true rfl, Nat.le_of_ble_eq_true rfl⟩) (fk_rvK hK hP) hK hP hD hS hA rfl hl.1 rfl (Nat.le_of_ble_eq_true rfl) dL_locks_705 ⟨Nat.le_of_ble_eq_true rfl, Nat.le_of_ble_eq_true rfl⟩ (fun H locs hP hD hS => ?_)
                                  refine W.eq (g2 := F0 m 708 ls [.int ((kk_give S t (nI a) (S 0 a &&& 1073741824)) 10 t)]) rfl ?_
                                  refine W.eq (g2 := F0 m 708 ls [.int (nI (k9 + 1))]) (by rw [show ((kk_give S t (nI a) (S 0 a &&& 1073741824)) 10 t) = (nI (k9 + 1)) from (by rw [ek1, hkk, hke])]) ?_
                                  refine lv_iload hx hb dL_locks_708 (lv_at hl 5 rfl) ?_
                                  refine lv_icmp_eq (tgt := 726) hx hb dL_locks_710 (by decide) (fun c_94 => absurd c_94 (fun c9 => absurd ((nI_eq (by omega) (by omega)).mp c9) (by omega))) (fun c_94 => ?_)
                                  refine lv_aload_n hx hb dL_locks_713 rfl (lv_at hl 11 rfl) ?_
                                  refine lv_iload hx hb dL_locks_714 (lv_at hl 10 rfl) ?_
                                  refine lv_iload hx hb dL_locks_716 (lv_at hl 5 rfl) ?_
                                  refine fk_callV (As := [.int (nI t), .int (nI k9)]) (rest := []) ⟨hx, hb, hml, hown, hts⟩ (kc_lockAt l D ad cI cT cJ _ (kk_give S t (nI a) (S 0 a &&& 1073741824)) t ht (nI k9) hG1.1.sz ⟨nI_pos' (by omega), by rw [ek1, hkk, hke]; exact nI_lt (by omega) (by omega)⟩) (cwV 2 hts gL_locks_X2_lockAt rfl rfl rfl (by decide +kernel) ⟨Nat.le_of_ble_eq_true rfl, Nat.le_of_ble_eq_true rfl⟩) (fk_rvK hK hP) hK hP hD hS hA rfl hl.1 rfl (Nat.le_of_ble_eq_true rfl) dL_locks_718 ⟨Nat.le_of_ble_eq_true rfl, Nat.le_of_ble_eq_true rfl⟩ (fun H locs hP hD hS => ?_)
                                  refine W.eq (g2 := F0 m 721 ls [.int (kk_addrAt (kk_give S t (nI a) (S 0 a &&& 1073741824)) t (nI k9))]) rfl ?_
                                  refine W.eq (g2 := F0 m 721 ls [.int (nI a)]) (by rw [show (kk_addrAt (kk_give S t (nI a) (S 0 a &&& 1073741824)) t (nI k9)) = (nI a) from (by rw [← hke]; exact hka)]) ?_
                                  refine lv_iload hx hb dL_locks_721 (lv_at hl 9 rfl) ?_
                                  refine lv_icmp_ne (tgt := 782) hx hb dL_locks_723 (by decide) (fun c => absurd rfl c) (fun _ => ?_)
                                  refine lv_aload_n hx hb dL_locks_726 rfl (lv_at hl 11 rfl) ?_
                                  refine lv_iload hx hb dL_locks_727 (lv_at hl 9 rfl) ?_
                                  refine fk_callV (As := [.int (nI a)]) (rest := []) ⟨hx, hb, hml, hown, hts⟩ (kc_word l D ad cI cT cJ _ (kk_give S t (nI a) (S 0 a &&& 1073741824)) a ha) (cwV 1 hts gL_locks_X2_word rfl rfl rfl (by decide +kernel) ⟨Nat.le_of_ble_eq_true rfl, Nat.le_of_ble_eq_true rfl⟩) (fk_rvK hK hP) hK hP hD hS hA rfl hl.1 rfl (Nat.le_of_ble_eq_true rfl) dL_locks_729 ⟨Nat.le_of_ble_eq_true rfl, Nat.le_of_ble_eq_true rfl⟩ (fun H locs hP hD hS => ?_)
                                  refine W.eq (g2 := F0 m 732 ls [.int ((kk_give S t (nI a) (S 0 a &&& 1073741824)) 0 a)]) rfl ?_
                                  refine lv_iload hx hb dL_locks_732 (lv_at hl 10 rfl) ?_
                                  refine lv_iconst (v := 1) hx hb dL_locks_734 (by decide) ?_
                                  refine lv_iadd hx hb dL_locks_735 ?_
                                  refine W.eq (g2 := F0 m 736 ls [.int (nI (t + 1)), .int ((kk_give S t (nI a) (S 0 a &&& 1073741824)) 0 a)]) (by rw [nI_1]) ?_
                                  refine lv_iload hx hb dL_locks_736 (lv_at hl 2 rfl) ?_
                                  refine lv_bipush (v := 30) hx hb dL_locks_738 (by decide) ?_
                                  refine lv_ishl hx hb dL_locks_740 ?_
                                  refine lv_iadd hx hb dL_locks_741 ?_
                                  refine lv_iload hx hb dL_locks_742 (lv_at hl 4 rfl) ?_
                                  refine lv_if_eq (tgt := 752) hx hb dL_locks_744 (by decide) (fun c => absurd c (by decide)) (fun _ => ?_)
                                  refine lv_ldc (own := RL) (v := (-2147483648)) hx hb hown (hts (.constant RL 159 (-2147483648)) (List.mem_of_getElem? (i := 4) rfl)) dL_locks_747 ?_
                                  refine lv_goto (tgt := 753) hx hb dL_locks_749 (by decide) ?_
                                  refine lv_ior hx hb dL_locks_753 ?_
                                  refine lv_icmp_ne (tgt := 782) hx hb dL_locks_754 (by decide) (fun c_96 => absurd c_96 (fun h9 => h9 (by rw [hgw, if_neg (fun z => by have := (kq_lk_any S a).mpr z; rw [hW9] at this; cases this), (pl_wd ht).2, hb0]))) (fun c_96 => ?_)
                                  refine lv_aload_n hx hb dL_locks_757 rfl (lv_at hl 11 rfl) ?_
                                  refine lv_iload hx hb dL_locks_758 (lv_at hl 10 rfl) ?_
                                  refine fk_callV (As := [.int (nI t)]) (rest := []) ⟨hx, hb, hml, hown, hts⟩ (kc_stateOf l D ad cI cT cJ _ (kk_give S t (nI a) (S 0 a &&& 1073741824)) t ht) (cwV 1 hts gL_locks_X2_stateOf rfl rfl rfl (by decide +kernel) ⟨Nat.le_of_ble_eq_true rfl, Nat.le_of_ble_eq_true rfl⟩) (fk_rvK hK hP) hK hP hD hS hA rfl hl.1 rfl (Nat.le_of_ble_eq_true rfl) dL_locks_760 ⟨Nat.le_of_ble_eq_true rfl, Nat.le_of_ble_eq_true rfl⟩ (fun H locs hP hD hS => ?_)
                                  refine W.eq (g2 := F0 m 763 ls [.int ((kk_give S t (nI a) (S 0 a &&& 1073741824)) 1 t)]) rfl ?_
                                  refine W.eq (g2 := F0 m 763 ls [.int 0]) (by rw [show ((kk_give S t (nI a) (S 0 a &&& 1073741824)) 1 t) = (0 : Int32) from hg1]) ?_
                                  refine lv_if_ne (tgt := 782) hx hb dL_locks_763 (by decide) (fun c => absurd c (by decide)) (fun _ => ?_)
                                  refine lv_aload_n hx hb dL_locks_766 rfl (lv_at hl 11 rfl) ?_
                                  refine lv_iload hx hb dL_locks_767 (lv_at hl 10 rfl) ?_
                                  refine fk_callS (As := [.ref (ad 0), .int (nI t)]) (rest := []) ⟨hx, hb, hml, hown, hts⟩ (kl_threads l D ad cI cT cJ _ (kk_give S t (nI a) (S 0 a &&& 1073741824)) hG1.1.sz hG1.1.J (nI t)) (va_cwS 2 hts gL_locks_L_threads rfl rfl rfl (by decide +kernel) ⟨Nat.le_of_ble_eq_true rfl, Nat.le_of_ble_eq_true rfl⟩) hK hP hD hS hA rfl hl.1 rfl (Nat.le_of_ble_eq_true rfl) dL_locks_769 ⟨Nat.le_of_ble_eq_true rfl, Nat.le_of_ble_eq_true rfl⟩ (fun H locs hP hD hS => ?_)
                                  refine W.eq (g2 := F0 m 772 ls [.long (pl_thr (kk_give S t (nI a) (S 0 a &&& 1073741824)) (nI t))]) rfl ?_
                                  refine W.eq (g2 := F0 m 772 ls [.long (pl_thr S (nI t))]) (by rw [show (pl_thr (kk_give S t (nI a) (S 0 a &&& 1073741824)) (nI t)) = (pl_thr S (nI t)) from hgt]) ?_
                                  refine lv_lload hx hb dL_locks_772 (lv_at hl 6 rfl) ?_
                                  refine W.lcmp hx hb dL_locks_774 ?_
                                  refine W.eq (g2 := F0 m 775 ls [.int 0]) (by rw [fk_cmp_self]) ?_
                                  refine lv_if_ne (tgt := 782) hx hb dL_locks_775 (by decide) (fun c => absurd c (by decide)) (fun _ => ?_)
                                  refine lv_iconst (v := 1) hx hb dL_locks_778 (by decide) ?_
                                  refine lv_goto (tgt := 783) hx hb dL_locks_779 (by decide) ?_
                                  exact fk_zretE (Nat.le_of_ble_eq_true rfl) (Nat.le_of_ble_eq_true rfl) hx hb hr hlocks hP hK hD hS rfl ⟨rfl, _, _, rfl, (hG1).wk (by omega)⟩ dL_locks_783
                              | succ n1 ih2 =>
                                intro k w hk hw H locs ls hP hD hS hl
                                refine lv_iload hx hb dL_locks_618 (lv_at hl 0 rfl) ?_
                                refine lv_aload_n hx hb dL_locks_620 rfl (lv_at hl 11 rfl) ?_
                                refine lv_iload hx hb dL_locks_621 (lv_at hl 10 rfl) ?_
                                refine fk_callV (As := [.int (nI t)]) (rest := [.int (nI k)]) ⟨hx, hb, hml, hown, hts⟩ (kc_locks l D ad cI cT cJ _ (kk_give S t (nI a) (S 0 a &&& 1073741824)) t ht) (cwV 1 hts gL_locks_X2_locks rfl rfl rfl (by decide +kernel) ⟨Nat.le_of_ble_eq_true rfl, Nat.le_of_ble_eq_true rfl⟩) (fk_rvK hK hP) hK hP hD hS hA rfl hl.1 rfl (Nat.le_of_ble_eq_true rfl) dL_locks_623 ⟨Nat.le_of_ble_eq_true rfl, Nat.le_of_ble_eq_true rfl⟩ (fun H locs hP hD hS => ?_)
                                refine W.eq (g2 := F0 m 626 ls [.int ((kk_give S t (nI a) (S 0 a &&& 1073741824)) 10 t), .int (nI k)]) rfl ?_
                                refine W.eq (g2 := F0 m 626 ls [.int (nI k1), .int (nI k)]) (by rw [show ((kk_give S t (nI a) (S 0 a &&& 1073741824)) 10 t) = (nI k1) from ek1]) ?_
                                refine lv_icmp_ge (tgt := 660) hx hb dL_locks_626 (by decide) (fun c_99 => absurd c_99 (nI_ge (a := k) (b := k1) (by omega) (by omega))) (fun c_99 => ?_)
                                rcases Bool.eq_false_or_eq_true w with rfl | rfl
                                · have hl : lv_has ls 25 [(24, .int (nI k)), (23, .int 1), (22, .int 1), (21, .int 1), (19, .int 1), (18, .int (nI k9)), (13, .long (pl_thr S (nI t))), (10, .int (-1)), (9, .int (S 0 a)), (5, .int (nI a)), (4, .int (nI t)), (0, .ref (ad 0))] := hl
                                  refine lv_iload hx hb dL_locks_629 (lv_at hl 1 rfl) ?_
                                  refine lv_if_ne (tgt := 647) hx hb dL_locks_631 (by decide) (fun _ => ?_) (fun c => absurd c (by decide))
                                  refine lv_iconst (v := 1) hx hb dL_locks_647 (by decide) ?_
                                  refine lv_goto (tgt := 652) hx hb dL_locks_648 (by decide) ?_
                                  refine lv_istore (lv' := [(23, .int 1), (24, .int (nI k)), (22, .int 1), (21, .int 1), (19, .int 1), (18, .int (nI k9)), (13, .long (pl_thr S (nI t))), (10, .int (-1)), (9, .int (S 0 a)), (5, .int (nI a)), (4, .int (nI t)), (0, .ref (ad 0))]) hx hb dL_locks_652 hl (by decide) rfl (fun ls hl => ?_)
                                  refine lv_iinc (v := (nI (k + 1))) (lv' := [(24, .int (nI (k + 1))), (23, .int 1), (22, .int 1), (21, .int 1), (19, .int 1), (18, .int (nI k9)), (13, .long (pl_thr S (nI t))), (10, .int (-1)), (9, .int (S 0 a)), (5, .int (nI a)), (4, .int (nI t)), (0, .ref (ad 0))]) hx hb dL_locks_654 hl (k := 1) rfl (nI_1 k) (by decide) rfl (fun ls hl => ?_)
                                  refine lv_goto (tgt := 618) hx hb dL_locks_657 (by decide) ?_
                                  exact ih2 (k + 1) true (by omega) (Or.inl rfl) _ _ _ hP hD hS (lv_sub hl [0, 1, 2, 3, 4, 5, 6, 7, 8, 9, 10, 11] rfl)
                                · have hl : lv_has ls 25 [(24, .int (nI k)), (23, .int 0), (22, .int 1), (21, .int 1), (19, .int 1), (18, .int (nI k9)), (13, .long (pl_thr S (nI t))), (10, .int (-1)), (9, .int (S 0 a)), (5, .int (nI a)), (4, .int (nI t)), (0, .ref (ad 0))] := hl
                                  by_cases hlk : kk_addrAt (kk_give S t (nI a) (S 0 a &&& 1073741824)) t (nI k) = nI a
                                  · refine lv_iload hx hb dL_locks_629 (lv_at hl 1 rfl) ?_
                                    refine lv_if_ne (tgt := 647) hx hb dL_locks_631 (by decide) (fun c => absurd c (by decide)) (fun _ => ?_)
                                    refine lv_aload_n hx hb dL_locks_634 rfl (lv_at hl 11 rfl) ?_
                                    refine lv_iload hx hb dL_locks_635 (lv_at hl 10 rfl) ?_
                                    refine lv_iload hx hb dL_locks_637 (lv_at hl 0 rfl) ?_
                                    refine fk_callV (As := [.int (nI t), .int (nI k)]) (rest := []) ⟨hx, hb, hml, hown, hts⟩ (kc_lockAt l D ad cI cT cJ _ (kk_give S t (nI a) (S 0 a &&& 1073741824)) t ht (nI k) hG1.1.sz ⟨nI_pos' (by omega), by rw [ek1]; exact nI_lt (by omega) (by omega)⟩) (cwV 2 hts gL_locks_X2_lockAt rfl rfl rfl (by decide +kernel) ⟨Nat.le_of_ble_eq_true rfl, Nat.le_of_ble_eq_true rfl⟩) (fk_rvK hK hP) hK hP hD hS hA rfl hl.1 rfl (Nat.le_of_ble_eq_true rfl) dL_locks_639 ⟨Nat.le_of_ble_eq_true rfl, Nat.le_of_ble_eq_true rfl⟩ (fun H locs hP hD hS => ?_)
                                    refine W.eq (g2 := F0 m 642 ls [.int (kk_addrAt (kk_give S t (nI a) (S 0 a &&& 1073741824)) t (nI k))]) rfl ?_
                                    refine W.eq (g2 := F0 m 642 ls [.int (nI a)]) (by rw [show (kk_addrAt (kk_give S t (nI a) (S 0 a &&& 1073741824)) t (nI k)) = (nI a) from hlk]) ?_
                                    refine lv_iload hx hb dL_locks_642 (lv_at hl 9 rfl) ?_
                                    refine lv_icmp_ne (tgt := 651) hx hb dL_locks_644 (by decide) (fun c => absurd rfl c) (fun _ => ?_)
                                    refine lv_iconst (v := 1) hx hb dL_locks_647 (by decide) ?_
                                    refine lv_goto (tgt := 652) hx hb dL_locks_648 (by decide) ?_
                                    refine lv_istore (lv' := [(23, .int 1), (24, .int (nI k)), (22, .int 1), (21, .int 1), (19, .int 1), (18, .int (nI k9)), (13, .long (pl_thr S (nI t))), (10, .int (-1)), (9, .int (S 0 a)), (5, .int (nI a)), (4, .int (nI t)), (0, .ref (ad 0))]) hx hb dL_locks_652 hl (by decide) rfl (fun ls hl => ?_)
                                    refine lv_iinc (v := (nI (k + 1))) (lv' := [(24, .int (nI (k + 1))), (23, .int 1), (22, .int 1), (21, .int 1), (19, .int 1), (18, .int (nI k9)), (13, .long (pl_thr S (nI t))), (10, .int (-1)), (9, .int (S 0 a)), (5, .int (nI a)), (4, .int (nI t)), (0, .ref (ad 0))]) hx hb dL_locks_654 hl (k := 1) rfl (nI_1 k) (by decide) rfl (fun ls hl => ?_)
                                    refine lv_goto (tgt := 618) hx hb dL_locks_657 (by decide) ?_
                                    exact ih2 (k + 1) true (by omega) (Or.inl rfl) _ _ _ hP hD hS (lv_sub hl [0, 1, 2, 3, 4, 5, 6, 7, 8, 9, 10, 11] rfl)
                                  · have hkj : k + 1 ≤ j9 := by
                                      rcases hw with h9 | h9
                                      · cases h9
                                      · have : k ≠ j9 := fun z => hlk (by rw [z]; exact ej9)
                                        omega
                                    refine lv_iload hx hb dL_locks_629 (lv_at hl 1 rfl) ?_
                                    refine lv_if_ne (tgt := 647) hx hb dL_locks_631 (by decide) (fun c => absurd c (by decide)) (fun _ => ?_)
                                    refine lv_aload_n hx hb dL_locks_634 rfl (lv_at hl 11 rfl) ?_
                                    refine lv_iload hx hb dL_locks_635 (lv_at hl 10 rfl) ?_
                                    refine lv_iload hx hb dL_locks_637 (lv_at hl 0 rfl) ?_
                                    refine fk_callV (As := [.int (nI t), .int (nI k)]) (rest := []) ⟨hx, hb, hml, hown, hts⟩ (kc_lockAt l D ad cI cT cJ _ (kk_give S t (nI a) (S 0 a &&& 1073741824)) t ht (nI k) hG1.1.sz ⟨nI_pos' (by omega), by rw [ek1]; exact nI_lt (by omega) (by omega)⟩) (cwV 2 hts gL_locks_X2_lockAt rfl rfl rfl (by decide +kernel) ⟨Nat.le_of_ble_eq_true rfl, Nat.le_of_ble_eq_true rfl⟩) (fk_rvK hK hP) hK hP hD hS hA rfl hl.1 rfl (Nat.le_of_ble_eq_true rfl) dL_locks_639 ⟨Nat.le_of_ble_eq_true rfl, Nat.le_of_ble_eq_true rfl⟩ (fun H locs hP hD hS => ?_)
                                    refine W.eq (g2 := F0 m 642 ls [.int (kk_addrAt (kk_give S t (nI a) (S 0 a &&& 1073741824)) t (nI k))]) rfl ?_
                                    refine lv_iload hx hb dL_locks_642 (lv_at hl 9 rfl) ?_
                                    refine lv_icmp_ne (tgt := 651) hx hb dL_locks_644 (by decide) (fun c_103 => ?_) (fun c9 => absurd c9 hlk)
                                    refine lv_iconst (v := 0) hx hb dL_locks_651 (by decide) ?_
                                    refine lv_istore (lv' := [(23, .int 0), (24, .int (nI k)), (22, .int 1), (21, .int 1), (19, .int 1), (18, .int (nI k9)), (13, .long (pl_thr S (nI t))), (10, .int (-1)), (9, .int (S 0 a)), (5, .int (nI a)), (4, .int (nI t)), (0, .ref (ad 0))]) hx hb dL_locks_652 hl (by decide) rfl (fun ls hl => ?_)
                                    refine lv_iinc (v := (nI (k + 1))) (lv' := [(24, .int (nI (k + 1))), (23, .int 0), (22, .int 1), (21, .int 1), (19, .int 1), (18, .int (nI k9)), (13, .long (pl_thr S (nI t))), (10, .int (-1)), (9, .int (S 0 a)), (5, .int (nI a)), (4, .int (nI t)), (0, .ref (ad 0))]) hx hb dL_locks_654 hl (k := 1) rfl (nI_1 k) (by decide) rfl (fun ls hl => ?_)
                                    refine lv_goto (tgt := 618) hx hb dL_locks_657 (by decide) ?_
                                    exact ih2 (k + 1) false (by omega) (Or.inr hkj) _ _ _ hP hD hS (lv_sub hl [0, 1, 2, 3, 4, 5, 6, 7, 8, 9, 10, 11] rfl)
                            exact loop2 k1 0 false (by omega) (Or.inr (Nat.zero_le _)) _ _ _ hP hD hS (lv_sub hl [0, 1, 2, 3, 5, 6, 9, 11, 12, 16, 17, 18] rfl)
                          · have hl : lv_has ls 25 [(20, .int (nI k)), (19, .int 0), (18, .int (nI k9)), (17, .int 1), (15, .long (pl_wds S (-1))), (13, .long (pl_thr S (nI t))), (11, .long (pl_thr S (-1))), (10, .int (-1)), (9, .int (S 0 a)), (8, .int 0), (7, .int to), (6, .int 0), (5, .int (nI a)), (4, .int (nI t)), (0, .ref (ad 0)), (2, .int y), (3, .int od), (1, .ref q)] := by rw [hW9] at hl; exact hl
                            refine lv_iload hx hb dL_locks_305 (lv_at hl 7 rfl) ?_
                            refine lv_bipush (v := 7) hx hb dL_locks_307 (by decide) ?_
                            refine lv_icmp_gt (tgt := 327) hx hb dL_locks_309 (by decide) (fun c => absurd c (by decide)) (fun _ => ?_)
                            refine lv_iload hx hb dL_locks_312 (lv_at hl 7 rfl) ?_
                            refine lv_if_lt (tgt := 331) hx hb dL_locks_314 (by decide) (fun _ => ?_) (fun c => absurd c (by decide))
                            refine lv_iconst (v := 0) hx hb dL_locks_331 (by decide) ?_
                            refine lv_istore (lv' := [(20, .int 0), (19, .int 0), (18, .int (nI k9)), (17, .int 1), (15, .long (pl_wds S (-1))), (13, .long (pl_thr S (nI t))), (11, .long (pl_thr S (-1))), (10, .int (-1)), (9, .int (S 0 a)), (8, .int 0), (7, .int to), (6, .int 0), (5, .int (nI a)), (4, .int (nI t)), (0, .ref (ad 0)), (2, .int y), (3, .int od), (1, .ref q)]) hx hb dL_locks_332 hl (by decide) rfl (fun ls hl => ?_)
                            refine lv_aload_n hx hb dL_locks_334 rfl (lv_at hl 14 rfl) ?_
                            refine lv_iconst (v := 0) hx hb dL_locks_335 (by decide) ?_
                            refine lv_iload hx hb dL_locks_336 (lv_at hl 13 rfl) ?_
                            refine lv_iload hx hb dL_locks_338 (lv_at hl 12 rfl) ?_
                            refine lv_iload hx hb dL_locks_340 (lv_at hl 10 rfl) ?_
                            refine lv_iconst (v := 0) hx hb dL_locks_342 (by decide) ?_
                            obtain ⟨hk1, hk2⟩ := kk_lock_give (t := t) how to
                            rw [if_neg hbn] at hk1
                            obtain ⟨hG1, hgt, hg1, hgw, k8, k1, j9, ek8, hk8, ek1, hk16, hj9, ej9, hkk⟩ := kq_give hG ht ha (S 0 a &&& 1073741824) hs0
                            have hke : k8 = k9 := (nI_eq (by omega) (by omega)).mp (ek8.symm.trans ek9)
                            refine fk_lcallS (As := [.ref (ad 0), .int 0, .int (nI t), .int (nI a), .int to, .int 0]) (rest := []) ⟨hx, hb, hml, hown, hts⟩ (Lc_lock l D ad cI cT cJ _ S _ _ _ _ (kk_give S t (nI a) (S 0 a &&& 1073741824)) 1 (fun X => by have h9 := kc_lock l D ad cI cT cJ X S t ht a ha to hs0 hbad hG.1.sz; rw [hk1, hk2] at h9; exact h9)) (vx_cwSW 6 hts gL_locks_L_acts rfl rfl rfl (by decide +kernel) ⟨Nat.le_of_ble_eq_true rfl, Nat.le_of_ble_eq_true rfl⟩) hK hP hD hS hA hZ hN rfl hl.1 rfl (Nat.le_of_ble_eq_true rfl) dL_locks_343 ⟨Nat.le_of_ble_eq_true rfl, Nat.le_of_ble_eq_true rfl⟩ (fun H locs hP hD hS => ?_)
                            refine W.eq (g2 := F0 m 346 ls [.int 1]) rfl ?_
                            refine lv_istore (lv' := [(21, .int 1), (20, .int 0), (19, .int 0), (18, .int (nI k9)), (17, .int 1), (15, .long (pl_wds S (-1))), (13, .long (pl_thr S (nI t))), (11, .long (pl_thr S (-1))), (10, .int (-1)), (9, .int (S 0 a)), (8, .int 0), (7, .int to), (6, .int 0), (5, .int (nI a)), (4, .int (nI t)), (0, .ref (ad 0)), (2, .int y), (3, .int od), (1, .ref q)]) hx hb dL_locks_346 hl (by decide) rfl (fun ls hl => ?_)
                            refine lv_iload hx hb dL_locks_348 (lv_at hl 12 rfl) ?_
                            refine lv_if_ne (tgt := 363) hx hb dL_locks_350 (by decide) (fun c => absurd c (by decide)) (fun _ => ?_)
                            refine lv_iload hx hb dL_locks_353 (lv_at hl 10 rfl) ?_
                            refine lv_if_ne (tgt := 363) hx hb dL_locks_355 (by decide) (fun c => absurd c (by decide)) (fun _ => ?_)
                            refine lv_iload hx hb dL_locks_358 (lv_at hl 4 rfl) ?_
                            refine lv_if_ne (tgt := 418) hx hb dL_locks_360 (by decide) (fun _ => ?_) (fun c => absurd c (by decide))
                            refine lv_iload hx hb dL_locks_418 (lv_at hl 0 rfl) ?_
                            refine lv_iconst (v := 2) hx hb dL_locks_420 (by decide) ?_
                            refine lv_icmp_le (tgt := 505) hx hb dL_locks_421 (by decide) (fun _ => ?_) (fun c => absurd c (by decide))
                            refine lv_iload hx hb dL_locks_505 (lv_at hl 0 rfl) ?_
                            refine lv_iconst (v := 2) hx hb dL_locks_507 (by decide) ?_
                            refine lv_icmp_ne (tgt := 603) hx hb dL_locks_508 (by decide) (fun _ => ?_) (fun c => absurd c (by decide))
                            refine lv_iload hx hb dL_locks_603 (lv_at hl 9 rfl) ?_
                            refine lv_bipush (v := 30) hx hb dL_locks_605 (by decide) ?_
                            refine lv_ishr hx hb dL_locks_607 ?_
                            refine lv_iconst (v := 1) hx hb dL_locks_608 (by decide) ?_
                            refine lv_iand hx hb dL_locks_609 ?_
                            refine W.eq (g2 := F0 m 610 ls [.int 1]) (by rw [hb1]) ?_
                            refine lv_istore (lv' := [(22, .int 1), (21, .int 1), (20, .int 0), (19, .int 0), (18, .int (nI k9)), (17, .int 1), (15, .long (pl_wds S (-1))), (13, .long (pl_thr S (nI t))), (11, .long (pl_thr S (-1))), (10, .int (-1)), (9, .int (S 0 a)), (8, .int 0), (7, .int to), (6, .int 0), (5, .int (nI a)), (4, .int (nI t)), (0, .ref (ad 0)), (2, .int y), (3, .int od), (1, .ref q)]) hx hb dL_locks_610 hl (by decide) rfl (fun ls hl => ?_)
                            refine lv_iconst (v := 0) hx hb dL_locks_612 (by decide) ?_
                            refine lv_istore (lv' := [(23, .int 0), (22, .int 1), (21, .int 1), (20, .int 0), (19, .int 0), (18, .int (nI k9)), (17, .int 1), (15, .long (pl_wds S (-1))), (13, .long (pl_thr S (nI t))), (11, .long (pl_thr S (-1))), (10, .int (-1)), (9, .int (S 0 a)), (8, .int 0), (7, .int to), (6, .int 0), (5, .int (nI a)), (4, .int (nI t)), (0, .ref (ad 0)), (2, .int y), (3, .int od), (1, .ref q)]) hx hb dL_locks_613 hl (by decide) rfl (fun ls hl => ?_)
                            refine lv_iconst (v := 0) hx hb dL_locks_615 (by decide) ?_
                            refine lv_istore (lv' := [(24, .int 0), (23, .int 0), (22, .int 1), (21, .int 1), (20, .int 0), (19, .int 0), (18, .int (nI k9)), (17, .int 1), (15, .long (pl_wds S (-1))), (13, .long (pl_thr S (nI t))), (11, .long (pl_thr S (-1))), (10, .int (-1)), (9, .int (S 0 a)), (8, .int 0), (7, .int to), (6, .int 0), (5, .int (nI a)), (4, .int (nI t)), (0, .ref (ad 0)), (2, .int y), (3, .int od), (1, .ref q)]) hx hb dL_locks_616 hl (by decide) rfl (fun ls hl => ?_)
                            have loop2 : ∀ (n1 : Nat) (k : Nat) (w : Bool), k + n1 = k1 → (w = true ∨ k ≤ j9) → ∀ (H : Heap) (locs : List Loc) (ls : Array Slot), va_P D vwCl (fk_kW ad cI cT (kk_give S t (nI a) (S 0 a &&& 1073741824)) ++ (q, fk_pr cI P) :: X) H → va_D A (fk_kW ad cI cT (kk_give S t (nI a) (S 0 a &&& 1073741824)) ++ (q, fk_pr cI P) :: X) → va_S A s.heap H locs → lv_has ls 25 [(24, .int (nI k)), (23, .int (fk_b w)), (22, .int 1), (21, .int 1), (19, .int 0), (18, .int (nI k9)), (13, .long (pl_thr S (nI t))), (10, .int (-1)), (9, .int (S 0 a)), (5, .int (nI a)), (4, .int (nI t)), (0, .ref (ad 0))] → W p l e rm_E s m ([.ref (ad 0), .ref q, .int y, .int od] : List Value).toArray below meth c H locs (0 + 1) (0 + 6) (MQ below (fk_QE D (fk_ty cI cT cJ) A (kq_Phi ad cI cT q X (n + 20))) ([.ref (ad 0), .ref q, .int y, .int od] : List Value).toArray s 2 12 A) (F0 m 618 ls []) := by
                              intro n1
                              induction n1 with
                              | zero =>
                                intro k w hk hw H locs ls hP hD hS hl
                                have hw9 : w = true := hw.elim id (fun h9 => absurd h9 (by omega))
                                have hl : lv_has ls 25 [(24, .int (nI k)), (23, .int 1), (22, .int 1), (21, .int 1), (19, .int 0), (18, .int (nI k9)), (13, .long (pl_thr S (nI t))), (10, .int (-1)), (9, .int (S 0 a)), (5, .int (nI a)), (4, .int (nI t)), (0, .ref (ad 0))] := by rw [hw9] at hl; exact hl
                                refine lv_iload hx hb dL_locks_618 (lv_at hl 0 rfl) ?_
                                refine lv_aload_n hx hb dL_locks_620 rfl (lv_at hl 11 rfl) ?_
                                refine lv_iload hx hb dL_locks_621 (lv_at hl 10 rfl) ?_
                                refine fk_callV (As := [.int (nI t)]) (rest := [.int (nI k)]) ⟨hx, hb, hml, hown, hts⟩ (kc_locks l D ad cI cT cJ _ (kk_give S t (nI a) (S 0 a &&& 1073741824)) t ht) (cwV 1 hts gL_locks_X2_locks rfl rfl rfl (by decide +kernel) ⟨Nat.le_of_ble_eq_true rfl, Nat.le_of_ble_eq_true rfl⟩) (fk_rvK hK hP) hK hP hD hS hA rfl hl.1 rfl (Nat.le_of_ble_eq_true rfl) dL_locks_623 ⟨Nat.le_of_ble_eq_true rfl, Nat.le_of_ble_eq_true rfl⟩ (fun H locs hP hD hS => ?_)
                                refine W.eq (g2 := F0 m 626 ls [.int ((kk_give S t (nI a) (S 0 a &&& 1073741824)) 10 t), .int (nI k)]) rfl ?_
                                refine W.eq (g2 := F0 m 626 ls [.int (nI k1), .int (nI k)]) (by rw [show ((kk_give S t (nI a) (S 0 a &&& 1073741824)) 10 t) = (nI k1) from ek1]) ?_
                                refine lv_icmp_ge (tgt := 660) hx hb dL_locks_626 (by decide) (fun c_111 => ?_) (fun c_111 => absurd (nI_le (a := k1) (b := k) (by omega) (by omega)) c_111)
                                rcases hkk with hkk | ⟨hkk, hka⟩
                                · refine lv_iload hx hb dL_locks_660 (lv_at hl 3 rfl) ?_
                                  refine lv_iload hx hb dL_locks_662 (lv_at hl 2 rfl) ?_
                                  refine lv_icmp_ne (tgt := 782) hx hb dL_locks_664 (by decide) (fun c => absurd c (by decide)) (fun _ => ?_)
                                  refine lv_iload hx hb dL_locks_667 (lv_at hl 7 rfl) ?_
                                  refine lv_iconst (v := (-1)) hx hb dL_locks_669 (by decide) ?_
                                  refine lv_icmp_ne (tgt := 782) hx hb dL_locks_670 (by decide) (fun c => absurd c (by decide)) (fun _ => ?_)
                                  refine lv_iload hx hb dL_locks_673 (lv_at hl 1 rfl) ?_
                                  refine lv_if_eq (tgt := 782) hx hb dL_locks_675 (by decide) (fun c => absurd c (by decide)) (fun _ => ?_)
                                  refine lv_aload_n hx hb dL_locks_678 rfl (lv_at hl 11 rfl) ?_
                                  refine lv_iload hx hb dL_locks_679 (lv_at hl 10 rfl) ?_
                                  refine fk_callV (As := [.int (nI t)]) (rest := []) ⟨hx, hb, hml, hown, hts⟩ (kc_locks l D ad cI cT cJ _ (kk_give S t (nI a) (S 0 a &&& 1073741824)) t ht) (cwV 1 hts gL_locks_X2_locks rfl rfl rfl (by decide +kernel) ⟨Nat.le_of_ble_eq_true rfl, Nat.le_of_ble_eq_true rfl⟩) (fk_rvK hK hP) hK hP hD hS hA rfl hl.1 rfl (Nat.le_of_ble_eq_true rfl) dL_locks_681 ⟨Nat.le_of_ble_eq_true rfl, Nat.le_of_ble_eq_true rfl⟩ (fun H locs hP hD hS => ?_)
                                  refine W.eq (g2 := F0 m 684 ls [.int ((kk_give S t (nI a) (S 0 a &&& 1073741824)) 10 t)]) rfl ?_
                                  refine W.eq (g2 := F0 m 684 ls [.int (nI k9)]) (by rw [show ((kk_give S t (nI a) (S 0 a &&& 1073741824)) 10 t) = (nI k9) from (by rw [ek1, hkk, hke])]) ?_
                                  refine lv_iload hx hb dL_locks_684 (lv_at hl 5 rfl) ?_
                                  refine lv_isub hx hb dL_locks_686 ?_
                                  refine lv_iconst (v := 2) hx hb dL_locks_687 (by decide) ?_
                                  refine lv_icmp_ge (tgt := 782) hx hb dL_locks_688 (by decide) (fun c_115 => absurd c_115 (by rw [Int32.sub_self]; decide)) (fun c_115 => ?_)
                                  refine lv_aload_n hx hb dL_locks_691 rfl (lv_at hl 11 rfl) ?_
                                  refine lv_iload hx hb dL_locks_692 (lv_at hl 10 rfl) ?_
                                  refine fk_callV (As := [.int (nI t)]) (rest := []) ⟨hx, hb, hml, hown, hts⟩ (kc_locks l D ad cI cT cJ _ (kk_give S t (nI a) (S 0 a &&& 1073741824)) t ht) (cwV 1 hts gL_locks_X2_locks rfl rfl rfl (by decide +kernel) ⟨Nat.le_of_ble_eq_true rfl, Nat.le_of_ble_eq_true rfl⟩) (fk_rvK hK hP) hK hP hD hS hA rfl hl.1 rfl (Nat.le_of_ble_eq_true rfl) dL_locks_694 ⟨Nat.le_of_ble_eq_true rfl, Nat.le_of_ble_eq_true rfl⟩ (fun H locs hP hD hS => ?_)
                                  refine W.eq (g2 := F0 m 697 ls [.int ((kk_give S t (nI a) (S 0 a &&& 1073741824)) 10 t)]) rfl ?_
                                  refine W.eq (g2 := F0 m 697 ls [.int (nI k9)]) (by rw [show ((kk_give S t (nI a) (S 0 a &&& 1073741824)) 10 t) = (nI k9) from (by rw [ek1, hkk, hke])]) ?_
                                  refine lv_iload hx hb dL_locks_697 (lv_at hl 5 rfl) ?_
                                  refine lv_icmp_lt (tgt := 782) hx hb dL_locks_699 (by decide) (fun c_116 => absurd c_116 (nI_nlt (a := k9) (b := k9) (by omega) (by omega))) (fun c_116 => ?_)
                                  refine lv_aload_n hx hb dL_locks_702 rfl (lv_at hl 11 rfl) ?_
                                  refine lv_iload hx hb dL_locks_703 (lv_at hl 10 rfl) ?_
                                  refine fk_callV (As := [.int (nI t)]) (rest := []) ⟨hx, hb, hml, hown, hts⟩ (kc_locks l D ad cI cT cJ _ (kk_give S t (nI a) (S 0 a &&& 1073741824)) t ht) (cwV 1 hts gL_locks_X2_locks rfl rfl rfl (by decide +kernel) ⟨Nat.le_of_ble_eq_true rfl, Nat.le_of_ble_eq_true rfl⟩) (fk_rvK hK hP) hK hP hD hS hA rfl hl.1 rfl (Nat.le_of_ble_eq_true rfl) dL_locks_705 ⟨Nat.le_of_ble_eq_true rfl, Nat.le_of_ble_eq_true rfl⟩ (fun H locs hP hD hS => ?_)
                                  refine W.eq (g2 := F0 m 708 ls [.int ((kk_give S t (nI a) (S 0 a &&& 1073741824)) 10 t)]) rfl ?_
                                  refine W.eq (g2 := F0 m 708 ls [.int (nI k9)]) (by rw [show ((kk_give S t (nI a) (S 0 a &&& 1073741824)) 10 t) = (nI k9) from (by rw [ek1, hkk, hke])]) ?_
                                  refine lv_iload hx hb dL_locks_708 (lv_at hl 5 rfl) ?_
                                  refine lv_icmp_eq (tgt := 726) hx hb dL_locks_710 (by decide) (fun _ => ?_) (fun c => absurd rfl c)
                                  refine lv_aload_n hx hb dL_locks_726 rfl (lv_at hl 11 rfl) ?_
                                  refine lv_iload hx hb dL_locks_727 (lv_at hl 9 rfl) ?_
                                  refine fk_callV (As := [.int (nI a)]) (rest := []) ⟨hx, hb, hml, hown, hts⟩ (kc_word l D ad cI cT cJ _ (kk_give S t (nI a) (S 0 a &&& 1073741824)) a ha) (cwV 1 hts gL_locks_X2_word rfl rfl rfl (by decide +kernel) ⟨Nat.le_of_ble_eq_true rfl, Nat.le_of_ble_eq_true rfl⟩) (fk_rvK hK hP) hK hP hD hS hA rfl hl.1 rfl (Nat.le_of_ble_eq_true rfl) dL_locks_729 ⟨Nat.le_of_ble_eq_true rfl, Nat.le_of_ble_eq_true rfl⟩ (fun H locs hP hD hS => ?_)
                                  refine W.eq (g2 := F0 m 732 ls [.int ((kk_give S t (nI a) (S 0 a &&& 1073741824)) 0 a)]) rfl ?_
                                  refine lv_iload hx hb dL_locks_732 (lv_at hl 10 rfl) ?_
                                  refine lv_iconst (v := 1) hx hb dL_locks_734 (by decide) ?_
                                  refine lv_iadd hx hb dL_locks_735 ?_
                                  refine W.eq (g2 := F0 m 736 ls [.int (nI (t + 1)), .int ((kk_give S t (nI a) (S 0 a &&& 1073741824)) 0 a)]) (by rw [nI_1]) ?_
                                  refine lv_iload hx hb dL_locks_736 (lv_at hl 2 rfl) ?_
                                  refine lv_bipush (v := 30) hx hb dL_locks_738 (by decide) ?_
                                  refine lv_ishl hx hb dL_locks_740 ?_
                                  refine lv_iadd hx hb dL_locks_741 ?_
                                  refine lv_iload hx hb dL_locks_742 (lv_at hl 4 rfl) ?_
                                  refine lv_if_eq (tgt := 752) hx hb dL_locks_744 (by decide) (fun _ => ?_) (fun c => absurd c (by decide))
                                  refine lv_iconst (v := 0) hx hb dL_locks_752 (by decide) ?_
                                  refine lv_ior hx hb dL_locks_753 ?_
                                  refine lv_icmp_ne (tgt := 782) hx hb dL_locks_754 (by decide) (fun c_118 => absurd c_118 (fun h9 => h9 (by rw [hgw, if_pos ((kq_lk_any S a).mp hW9), (pl_wd ht).2, hb0]))) (fun c_118 => ?_)
                                  refine lv_aload_n hx hb dL_locks_757 rfl (lv_at hl 11 rfl) ?_
                                  refine lv_iload hx hb dL_locks_758 (lv_at hl 10 rfl) ?_
                                  refine fk_callV (As := [.int (nI t)]) (rest := []) ⟨hx, hb, hml, hown, hts⟩ (kc_stateOf l D ad cI cT cJ _ (kk_give S t (nI a) (S 0 a &&& 1073741824)) t ht) (cwV 1 hts gL_locks_X2_stateOf rfl rfl rfl (by decide +kernel) ⟨Nat.le_of_ble_eq_true rfl, Nat.le_of_ble_eq_true rfl⟩) (fk_rvK hK hP) hK hP hD hS hA rfl hl.1 rfl (Nat.le_of_ble_eq_true rfl) dL_locks_760 ⟨Nat.le_of_ble_eq_true rfl, Nat.le_of_ble_eq_true rfl⟩ (fun H locs hP hD hS => ?_)
                                  refine W.eq (g2 := F0 m 763 ls [.int ((kk_give S t (nI a) (S 0 a &&& 1073741824)) 1 t)]) rfl ?_
                                  refine W.eq (g2 := F0 m 763 ls [.int 0]) (by rw [show ((kk_give S t (nI a) (S 0 a &&& 1073741824)) 1 t) = (0 : Int32) from hg1]) ?_
                                  refine lv_if_ne (tgt := 782) hx hb dL_locks_763 (by decide) (fun c => absurd c (by decide)) (fun _ => ?_)
                                  refine lv_aload_n hx hb dL_locks_766 rfl (lv_at hl 11 rfl) ?_
                                  refine lv_iload hx hb dL_locks_767 (lv_at hl 10 rfl) ?_
                                  refine fk_callS (As := [.ref (ad 0), .int (nI t)]) (rest := []) ⟨hx, hb, hml, hown, hts⟩ (kl_threads l D ad cI cT cJ _ (kk_give S t (nI a) (S 0 a &&& 1073741824)) hG1.1.sz hG1.1.J (nI t)) (va_cwS 2 hts gL_locks_L_threads rfl rfl rfl (by decide +kernel) ⟨Nat.le_of_ble_eq_true rfl, Nat.le_of_ble_eq_true rfl⟩) hK hP hD hS hA rfl hl.1 rfl (Nat.le_of_ble_eq_true rfl) dL_locks_769 ⟨Nat.le_of_ble_eq_true rfl, Nat.le_of_ble_eq_true rfl⟩ (fun H locs hP hD hS => ?_)
                                  refine W.eq (g2 := F0 m 772 ls [.long (pl_thr (kk_give S t (nI a) (S 0 a &&& 1073741824)) (nI t))]) rfl ?_
                                  refine W.eq (g2 := F0 m 772 ls [.long (pl_thr S (nI t))]) (by rw [show (pl_thr (kk_give S t (nI a) (S 0 a &&& 1073741824)) (nI t)) = (pl_thr S (nI t)) from hgt]) ?_
                                  refine lv_lload hx hb dL_locks_772 (lv_at hl 6 rfl) ?_
                                  refine W.lcmp hx hb dL_locks_774 ?_
                                  refine W.eq (g2 := F0 m 775 ls [.int 0]) (by rw [fk_cmp_self]) ?_
                                  refine lv_if_ne (tgt := 782) hx hb dL_locks_775 (by decide) (fun c => absurd c (by decide)) (fun _ => ?_)
                                  refine lv_iconst (v := 1) hx hb dL_locks_778 (by decide) ?_
                                  refine lv_goto (tgt := 783) hx hb dL_locks_779 (by decide) ?_
                                  exact fk_zretE (Nat.le_of_ble_eq_true rfl) (Nat.le_of_ble_eq_true rfl) hx hb hr hlocks hP hK hD hS rfl ⟨rfl, _, _, rfl, (hG1).wk (by omega)⟩ dL_locks_783
                                · refine lv_iload hx hb dL_locks_660 (lv_at hl 3 rfl) ?_
                                  refine lv_iload hx hb dL_locks_662 (lv_at hl 2 rfl) ?_
                                  refine lv_icmp_ne (tgt := 782) hx hb dL_locks_664 (by decide) (fun c => absurd c (by decide)) (fun _ => ?_)
                                  refine lv_iload hx hb dL_locks_667 (lv_at hl 7 rfl) ?_
                                  refine lv_iconst (v := (-1)) hx hb dL_locks_669 (by decide) ?_
                                  refine lv_icmp_ne (tgt := 782) hx hb dL_locks_670 (by decide) (fun c => absurd c (by decide)) (fun _ => ?_)
                                  refine lv_iload hx hb dL_locks_673 (lv_at hl 1 rfl) ?_
                                  refine lv_if_eq (tgt := 782) hx hb dL_locks_675 (by decide) (fun c => absurd c (by decide)) (fun _ => ?_)
                                  refine lv_aload_n hx hb dL_locks_678 rfl (lv_at hl 11 rfl) ?_
                                  refine lv_iload hx hb dL_locks_679 (lv_at hl 10 rfl) ?_
                                  refine fk_callV (As := [.int (nI t)]) (rest := []) ⟨hx, hb, hml, hown, hts⟩ (kc_locks l D ad cI cT cJ _ (kk_give S t (nI a) (S 0 a &&& 1073741824)) t ht) (cwV 1 hts gL_locks_X2_locks rfl rfl rfl (by decide +kernel) ⟨Nat.le_of_ble_eq_true rfl, Nat.le_of_ble_eq_true rfl⟩) (fk_rvK hK hP) hK hP hD hS hA rfl hl.1 rfl (Nat.le_of_ble_eq_true rfl) dL_locks_681 ⟨Nat.le_of_ble_eq_true rfl, Nat.le_of_ble_eq_true rfl⟩ (fun H locs hP hD hS => ?_)
                                  refine W.eq (g2 := F0 m 684 ls [.int ((kk_give S t (nI a) (S 0 a &&& 1073741824)) 10 t)]) rfl ?_
                                  refine W.eq (g2 := F0 m 684 ls [.int (nI (k9 + 1))]) (by rw [show ((kk_give S t (nI a) (S 0 a &&& 1073741824)) 10 t) = (nI (k9 + 1)) from (by rw [ek1, hkk, hke])]) ?_
                                  refine lv_iload hx hb dL_locks_684 (lv_at hl 5 rfl) ?_
                                  refine lv_isub hx hb dL_locks_686 ?_
                                  refine lv_iconst (v := 2) hx hb dL_locks_687 (by decide) ?_
                                  refine lv_icmp_ge (tgt := 782) hx hb dL_locks_688 (by decide) (fun c_124 => absurd c_124 (by rw [pk_sub (by omega), Nat.add_sub_cancel_left]; decide)) (fun c_124 => ?_)
                                  refine lv_aload_n hx hb dL_locks_691 rfl (lv_at hl 11 rfl) ?_
                                  refine lv_iload hx hb dL_locks_692 (lv_at hl 10 rfl) ?_
                                  refine fk_callV (As := [.int (nI t)]) (rest := []) ⟨hx, hb, hml, hown, hts⟩ (kc_locks l D ad cI cT cJ _ (kk_give S t (nI a) (S 0 a &&& 1073741824)) t ht) (cwV 1 hts gL_locks_X2_locks rfl rfl rfl (by decide +kernel) ⟨Nat.le_of_ble_eq_true rfl, Nat.le_of_ble_eq_true rfl⟩) (fk_rvK hK hP) hK hP hD hS hA rfl hl.1 rfl (Nat.le_of_ble_eq_true rfl) dL_locks_694 ⟨Nat.le_of_ble_eq_true rfl, Nat.le_of_ble_eq_true rfl⟩ (fun H locs hP hD hS => ?_)
                                  refine W.eq (g2 := F0 m 697 ls [.int ((kk_give S t (nI a) (S 0 a &&& 1073741824)) 10 t)]) rfl ?_
                                  refine W.eq (g2 := F0 m 697 ls [.int (nI (k9 + 1))]) (by rw [show ((kk_give S t (nI a) (S 0 a &&& 1073741824)) 10 t) = (nI (k9 + 1)) from (by rw [ek1, hkk, hke])]) ?_
                                  refine lv_iload hx hb dL_locks_697 (lv_at hl 5 rfl) ?_
                                  refine lv_icmp_lt (tgt := 782) hx hb dL_locks_699 (by decide) (fun c_125 => absurd c_125 (nI_nlt (a := k9 + 1) (b := k9) (by omega) (by omega))) (fun c_125 => ?_)
                                  refine lv_aload_n hx hb dL_locks_702 rfl (lv_at hl 11 rfl) ?_
                                  refine lv_iload hx hb dL_locks_703 (lv_at hl 10 rfl) ?_
                                  refine fk_callV (As := [.int (nI t)]) (rest := []) ⟨hx, hb, hml, hown, hts⟩ (kc_locks l D ad cI cT cJ _ (kk_give S t (nI a) (S 0 a &&& 1073741824)) t ht) (cwV 1 hts gL_locks_X2_locks rfl rfl rfl (by decide +kernel) ⟨Nat.le_of_ble_eq_true rfl, Nat.le_of_ble_eq_true rfl⟩) (fk_rvK hK hP) hK hP hD hS hA rfl hl.1 rfl (Nat.le_of_ble_eq_true rfl) dL_locks_705 ⟨Nat.le_of_ble_eq_true rfl, Nat.le_of_ble_eq_true rfl⟩ (fun H locs hP hD hS => ?_)
                                  refine W.eq (g2 := F0 m 708 ls [.int ((kk_give S t (nI a) (S 0 a &&& 1073741824)) 10 t)]) rfl ?_
                                  refine W.eq (g2 := F0 m 708 ls [.int (nI (k9 + 1))]) (by rw [show ((kk_give S t (nI a) (S 0 a &&& 1073741824)) 10 t) = (nI (k9 + 1)) from (by rw [ek1, hkk, hke])]) ?_
                                  refine lv_iload hx hb dL_locks_708 (lv_at hl 5 rfl) ?_
                                  refine lv_icmp_eq (tgt := 726) hx hb dL_locks_710 (by decide) (fun c_126 => absurd c_126 (fun c9 => absurd ((nI_eq (by omega) (by omega)).mp c9) (by omega))) (fun c_126 => ?_)
                                  refine lv_aload_n hx hb dL_locks_713 rfl (lv_at hl 11 rfl) ?_
                                  refine lv_iload hx hb dL_locks_714 (lv_at hl 10 rfl) ?_
                                  refine lv_iload hx hb dL_locks_716 (lv_at hl 5 rfl) ?_
                                  refine fk_callV (As := [.int (nI t), .int (nI k9)]) (rest := []) ⟨hx, hb, hml, hown, hts⟩ (kc_lockAt l D ad cI cT cJ _ (kk_give S t (nI a) (S 0 a &&& 1073741824)) t ht (nI k9) hG1.1.sz ⟨nI_pos' (by omega), by rw [ek1, hkk, hke]; exact nI_lt (by omega) (by omega)⟩) (cwV 2 hts gL_locks_X2_lockAt rfl rfl rfl (by decide +kernel) ⟨Nat.le_of_ble_eq_true rfl, Nat.le_of_ble_eq_true rfl⟩) (fk_rvK hK hP) hK hP hD hS hA rfl hl.1 rfl (Nat.le_of_ble_eq_true rfl) dL_locks_718 ⟨Nat.le_of_ble_eq_true rfl, Nat.le_of_ble_eq_true rfl⟩ (fun H locs hP hD hS => ?_)
                                  refine W.eq (g2 := F0 m 721 ls [.int (kk_addrAt (kk_give S t (nI a) (S 0 a &&& 1073741824)) t (nI k9))]) rfl ?_
                                  refine W.eq (g2 := F0 m 721 ls [.int (nI a)]) (by rw [show (kk_addrAt (kk_give S t (nI a) (S 0 a &&& 1073741824)) t (nI k9)) = (nI a) from (by rw [← hke]; exact hka)]) ?_
                                  refine lv_iload hx hb dL_locks_721 (lv_at hl 9 rfl) ?_
                                  refine lv_icmp_ne (tgt := 782) hx hb dL_locks_723 (by decide) (fun c => absurd rfl c) (fun _ => ?_)
                                  refine lv_aload_n hx hb dL_locks_726 rfl (lv_at hl 11 rfl) ?_
                                  refine lv_iload hx hb dL_locks_727 (lv_at hl 9 rfl) ?_
                                  refine fk_callV (As := [.int (nI a)]) (rest := []) ⟨hx, hb, hml, hown, hts⟩ (kc_word l D ad cI cT cJ _ (kk_give S t (nI a) (S 0 a &&& 1073741824)) a ha) (cwV 1 hts gL_locks_X2_word rfl rfl rfl (by decide +kernel) ⟨Nat.le_of_ble_eq_true rfl, Nat.le_of_ble_eq_true rfl⟩) (fk_rvK hK hP) hK hP hD hS hA rfl hl.1 rfl (Nat.le_of_ble_eq_true rfl) dL_locks_729 ⟨Nat.le_of_ble_eq_true rfl, Nat.le_of_ble_eq_true rfl⟩ (fun H locs hP hD hS => ?_)
                                  refine W.eq (g2 := F0 m 732 ls [.int ((kk_give S t (nI a) (S 0 a &&& 1073741824)) 0 a)]) rfl ?_
                                  refine lv_iload hx hb dL_locks_732 (lv_at hl 10 rfl) ?_
                                  refine lv_iconst (v := 1) hx hb dL_locks_734 (by decide) ?_
                                  refine lv_iadd hx hb dL_locks_735 ?_
                                  refine W.eq (g2 := F0 m 736 ls [.int (nI (t + 1)), .int ((kk_give S t (nI a) (S 0 a &&& 1073741824)) 0 a)]) (by rw [nI_1]) ?_
                                  refine lv_iload hx hb dL_locks_736 (lv_at hl 2 rfl) ?_
                                  refine lv_bipush (v := 30) hx hb dL_locks_738 (by decide) ?_
                                  refine lv_ishl hx hb dL_locks_740 ?_
                                  refine lv_iadd hx hb dL_locks_741 ?_
                                  refine lv_iload hx hb dL_locks_742 (lv_at hl 4 rfl) ?_
                                  refine lv_if_eq (tgt := 752) hx hb dL_locks_744 (by decide) (fun _ => ?_) (fun c => absurd c (by decide))
                                  refine lv_iconst (v := 0) hx hb dL_locks_752 (by decide) ?_
                                  refine lv_ior hx hb dL_locks_753 ?_
                                  refine lv_icmp_ne (tgt := 782) hx hb dL_locks_754 (by decide) (fun c_128 => absurd c_128 (fun h9 => h9 (by rw [hgw, if_pos ((kq_lk_any S a).mp hW9), (pl_wd ht).2, hb0]))) (fun c_128 => ?_)
                                  refine lv_aload_n hx hb dL_locks_757 rfl (lv_at hl 11 rfl) ?_
                                  refine lv_iload hx hb dL_locks_758 (lv_at hl 10 rfl) ?_
                                  refine fk_callV (As := [.int (nI t)]) (rest := []) ⟨hx, hb, hml, hown, hts⟩ (kc_stateOf l D ad cI cT cJ _ (kk_give S t (nI a) (S 0 a &&& 1073741824)) t ht) (cwV 1 hts gL_locks_X2_stateOf rfl rfl rfl (by decide +kernel) ⟨Nat.le_of_ble_eq_true rfl, Nat.le_of_ble_eq_true rfl⟩) (fk_rvK hK hP) hK hP hD hS hA rfl hl.1 rfl (Nat.le_of_ble_eq_true rfl) dL_locks_760 ⟨Nat.le_of_ble_eq_true rfl, Nat.le_of_ble_eq_true rfl⟩ (fun H locs hP hD hS => ?_)
                                  refine W.eq (g2 := F0 m 763 ls [.int ((kk_give S t (nI a) (S 0 a &&& 1073741824)) 1 t)]) rfl ?_
                                  refine W.eq (g2 := F0 m 763 ls [.int 0]) (by rw [show ((kk_give S t (nI a) (S 0 a &&& 1073741824)) 1 t) = (0 : Int32) from hg1]) ?_
                                  refine lv_if_ne (tgt := 782) hx hb dL_locks_763 (by decide) (fun c => absurd c (by decide)) (fun _ => ?_)
                                  refine lv_aload_n hx hb dL_locks_766 rfl (lv_at hl 11 rfl) ?_
                                  refine lv_iload hx hb dL_locks_767 (lv_at hl 10 rfl) ?_
                                  refine fk_callS (As := [.ref (ad 0), .int (nI t)]) (rest := []) ⟨hx, hb, hml, hown, hts⟩ (kl_threads l D ad cI cT cJ _ (kk_give S t (nI a) (S 0 a &&& 1073741824)) hG1.1.sz hG1.1.J (nI t)) (va_cwS 2 hts gL_locks_L_threads rfl rfl rfl (by decide +kernel) ⟨Nat.le_of_ble_eq_true rfl, Nat.le_of_ble_eq_true rfl⟩) hK hP hD hS hA rfl hl.1 rfl (Nat.le_of_ble_eq_true rfl) dL_locks_769 ⟨Nat.le_of_ble_eq_true rfl, Nat.le_of_ble_eq_true rfl⟩ (fun H locs hP hD hS => ?_)
                                  refine W.eq (g2 := F0 m 772 ls [.long (pl_thr (kk_give S t (nI a) (S 0 a &&& 1073741824)) (nI t))]) rfl ?_
                                  refine W.eq (g2 := F0 m 772 ls [.long (pl_thr S (nI t))]) (by rw [show (pl_thr (kk_give S t (nI a) (S 0 a &&& 1073741824)) (nI t)) = (pl_thr S (nI t)) from hgt]) ?_
                                  refine lv_lload hx hb dL_locks_772 (lv_at hl 6 rfl) ?_
                                  refine W.lcmp hx hb dL_locks_774 ?_
                                  refine W.eq (g2 := F0 m 775 ls [.int 0]) (by rw [fk_cmp_self]) ?_
                                  refine lv_if_ne (tgt := 782) hx hb dL_locks_775 (by decide) (fun c => absurd c (by decide)) (fun _ => ?_)
                                  refine lv_iconst (v := 1) hx hb dL_locks_778 (by decide) ?_
                                  refine lv_goto (tgt := 783) hx hb dL_locks_779 (by decide) ?_
                                  exact fk_zretE (Nat.le_of_ble_eq_true rfl) (Nat.le_of_ble_eq_true rfl) hx hb hr hlocks hP hK hD hS rfl ⟨rfl, _, _, rfl, (hG1).wk (by omega)⟩ dL_locks_783
                              | succ n1 ih2 =>
                                intro k w hk hw H locs ls hP hD hS hl
                                refine lv_iload hx hb dL_locks_618 (lv_at hl 0 rfl) ?_
                                refine lv_aload_n hx hb dL_locks_620 rfl (lv_at hl 11 rfl) ?_
                                refine lv_iload hx hb dL_locks_621 (lv_at hl 10 rfl) ?_
                                refine fk_callV (As := [.int (nI t)]) (rest := [.int (nI k)]) ⟨hx, hb, hml, hown, hts⟩ (kc_locks l D ad cI cT cJ _ (kk_give S t (nI a) (S 0 a &&& 1073741824)) t ht) (cwV 1 hts gL_locks_X2_locks rfl rfl rfl (by decide +kernel) ⟨Nat.le_of_ble_eq_true rfl, Nat.le_of_ble_eq_true rfl⟩) (fk_rvK hK hP) hK hP hD hS hA rfl hl.1 rfl (Nat.le_of_ble_eq_true rfl) dL_locks_623 ⟨Nat.le_of_ble_eq_true rfl, Nat.le_of_ble_eq_true rfl⟩ (fun H locs hP hD hS => ?_)
                                refine W.eq (g2 := F0 m 626 ls [.int ((kk_give S t (nI a) (S 0 a &&& 1073741824)) 10 t), .int (nI k)]) rfl ?_
                                refine W.eq (g2 := F0 m 626 ls [.int (nI k1), .int (nI k)]) (by rw [show ((kk_give S t (nI a) (S 0 a &&& 1073741824)) 10 t) = (nI k1) from ek1]) ?_
                                refine lv_icmp_ge (tgt := 660) hx hb dL_locks_626 (by decide) (fun c_131 => absurd c_131 (nI_ge (a := k) (b := k1) (by omega) (by omega))) (fun c_131 => ?_)
                                rcases Bool.eq_false_or_eq_true w with rfl | rfl
                                · have hl : lv_has ls 25 [(24, .int (nI k)), (23, .int 1), (22, .int 1), (21, .int 1), (19, .int 0), (18, .int (nI k9)), (13, .long (pl_thr S (nI t))), (10, .int (-1)), (9, .int (S 0 a)), (5, .int (nI a)), (4, .int (nI t)), (0, .ref (ad 0))] := hl
                                  refine lv_iload hx hb dL_locks_629 (lv_at hl 1 rfl) ?_
                                  refine lv_if_ne (tgt := 647) hx hb dL_locks_631 (by decide) (fun _ => ?_) (fun c => absurd c (by decide))
                                  refine lv_iconst (v := 1) hx hb dL_locks_647 (by decide) ?_
                                  refine lv_goto (tgt := 652) hx hb dL_locks_648 (by decide) ?_
                                  refine lv_istore (lv' := [(23, .int 1), (24, .int (nI k)), (22, .int 1), (21, .int 1), (19, .int 0), (18, .int (nI k9)), (13, .long (pl_thr S (nI t))), (10, .int (-1)), (9, .int (S 0 a)), (5, .int (nI a)), (4, .int (nI t)), (0, .ref (ad 0))]) hx hb dL_locks_652 hl (by decide) rfl (fun ls hl => ?_)
                                  refine lv_iinc (v := (nI (k + 1))) (lv' := [(24, .int (nI (k + 1))), (23, .int 1), (22, .int 1), (21, .int 1), (19, .int 0), (18, .int (nI k9)), (13, .long (pl_thr S (nI t))), (10, .int (-1)), (9, .int (S 0 a)), (5, .int (nI a)), (4, .int (nI t)), (0, .ref (ad 0))]) hx hb dL_locks_654 hl (k := 1) rfl (nI_1 k) (by decide) rfl (fun ls hl => ?_)
                                  refine lv_goto (tgt := 618) hx hb dL_locks_657 (by decide) ?_
                                  exact ih2 (k + 1) true (by omega) (Or.inl rfl) _ _ _ hP hD hS (lv_sub hl [0, 1, 2, 3, 4, 5, 6, 7, 8, 9, 10, 11] rfl)
                                · have hl : lv_has ls 25 [(24, .int (nI k)), (23, .int 0), (22, .int 1), (21, .int 1), (19, .int 0), (18, .int (nI k9)), (13, .long (pl_thr S (nI t))), (10, .int (-1)), (9, .int (S 0 a)), (5, .int (nI a)), (4, .int (nI t)), (0, .ref (ad 0))] := hl
                                  by_cases hlk : kk_addrAt (kk_give S t (nI a) (S 0 a &&& 1073741824)) t (nI k) = nI a
                                  · refine lv_iload hx hb dL_locks_629 (lv_at hl 1 rfl) ?_
                                    refine lv_if_ne (tgt := 647) hx hb dL_locks_631 (by decide) (fun c => absurd c (by decide)) (fun _ => ?_)
                                    refine lv_aload_n hx hb dL_locks_634 rfl (lv_at hl 11 rfl) ?_
                                    refine lv_iload hx hb dL_locks_635 (lv_at hl 10 rfl) ?_
                                    refine lv_iload hx hb dL_locks_637 (lv_at hl 0 rfl) ?_
                                    refine fk_callV (As := [.int (nI t), .int (nI k)]) (rest := []) ⟨hx, hb, hml, hown, hts⟩ (kc_lockAt l D ad cI cT cJ _ (kk_give S t (nI a) (S 0 a &&& 1073741824)) t ht (nI k) hG1.1.sz ⟨nI_pos' (by omega), by rw [ek1]; exact nI_lt (by omega) (by omega)⟩) (cwV 2 hts gL_locks_X2_lockAt rfl rfl rfl (by decide +kernel) ⟨Nat.le_of_ble_eq_true rfl, Nat.le_of_ble_eq_true rfl⟩) (fk_rvK hK hP) hK hP hD hS hA rfl hl.1 rfl (Nat.le_of_ble_eq_true rfl) dL_locks_639 ⟨Nat.le_of_ble_eq_true rfl, Nat.le_of_ble_eq_true rfl⟩ (fun H locs hP hD hS => ?_)
                                    refine W.eq (g2 := F0 m 642 ls [.int (kk_addrAt (kk_give S t (nI a) (S 0 a &&& 1073741824)) t (nI k))]) rfl ?_
                                    refine W.eq (g2 := F0 m 642 ls [.int (nI a)]) (by rw [show (kk_addrAt (kk_give S t (nI a) (S 0 a &&& 1073741824)) t (nI k)) = (nI a) from hlk]) ?_
                                    refine lv_iload hx hb dL_locks_642 (lv_at hl 9 rfl) ?_
                                    refine lv_icmp_ne (tgt := 651) hx hb dL_locks_644 (by decide) (fun c => absurd rfl c) (fun _ => ?_)
                                    refine lv_iconst (v := 1) hx hb dL_locks_647 (by decide) ?_
                                    refine lv_goto (tgt := 652) hx hb dL_locks_648 (by decide) ?_
                                    refine lv_istore (lv' := [(23, .int 1), (24, .int (nI k)), (22, .int 1), (21, .int 1), (19, .int 0), (18, .int (nI k9)), (13, .long (pl_thr S (nI t))), (10, .int (-1)), (9, .int (S 0 a)), (5, .int (nI a)), (4, .int (nI t)), (0, .ref (ad 0))]) hx hb dL_locks_652 hl (by decide) rfl (fun ls hl => ?_)
                                    refine lv_iinc (v := (nI (k + 1))) (lv' := [(24, .int (nI (k + 1))), (23, .int 1), (22, .int 1), (21, .int 1), (19, .int 0), (18, .int (nI k9)), (13, .long (pl_thr S (nI t))), (10, .int (-1)), (9, .int (S 0 a)), (5, .int (nI a)), (4, .int (nI t)), (0, .ref (ad 0))]) hx hb dL_locks_654 hl (k := 1) rfl (nI_1 k) (by decide) rfl (fun ls hl => ?_)
                                    refine lv_goto (tgt := 618) hx hb dL_locks_657 (by decide) ?_
                                    exact ih2 (k + 1) true (by omega) (Or.inl rfl) _ _ _ hP hD hS (lv_sub hl [0, 1, 2, 3, 4, 5, 6, 7, 8, 9, 10, 11] rfl)
                                  · have hkj : k + 1 ≤ j9 := by
                                      rcases hw with h9 | h9
                                      · cases h9
                                      · have : k ≠ j9 := fun z => hlk (by rw [z]; exact ej9)
                                        omega
                                    refine lv_iload hx hb dL_locks_629 (lv_at hl 1 rfl) ?_
                                    refine lv_if_ne (tgt := 647) hx hb dL_locks_631 (by decide) (fun c => absurd c (by decide)) (fun _ => ?_)
                                    refine lv_aload_n hx hb dL_locks_634 rfl (lv_at hl 11 rfl) ?_
                                    refine lv_iload hx hb dL_locks_635 (lv_at hl 10 rfl) ?_
                                    refine lv_iload hx hb dL_locks_637 (lv_at hl 0 rfl) ?_
                                    refine fk_callV (As := [.int (nI t), .int (nI k)]) (rest := []) ⟨hx, hb, hml, hown, hts⟩ (kc_lockAt l D ad cI cT cJ _ (kk_give S t (nI a) (S 0 a &&& 1073741824)) t ht (nI k) hG1.1.sz ⟨nI_pos' (by omega), by rw [ek1]; exact nI_lt (by omega) (by omega)⟩) (cwV 2 hts gL_locks_X2_lockAt rfl rfl rfl (by decide +kernel) ⟨Nat.le_of_ble_eq_true rfl, Nat.le_of_ble_eq_true rfl⟩) (fk_rvK hK hP) hK hP hD hS hA rfl hl.1 rfl (Nat.le_of_ble_eq_true rfl) dL_locks_639 ⟨Nat.le_of_ble_eq_true rfl, Nat.le_of_ble_eq_true rfl⟩ (fun H locs hP hD hS => ?_)
                                    refine W.eq (g2 := F0 m 642 ls [.int (kk_addrAt (kk_give S t (nI a) (S 0 a &&& 1073741824)) t (nI k))]) rfl ?_
                                    refine lv_iload hx hb dL_locks_642 (lv_at hl 9 rfl) ?_
                                    refine lv_icmp_ne (tgt := 651) hx hb dL_locks_644 (by decide) (fun c_135 => ?_) (fun c9 => absurd c9 hlk)
                                    refine lv_iconst (v := 0) hx hb dL_locks_651 (by decide) ?_
                                    refine lv_istore (lv' := [(23, .int 0), (24, .int (nI k)), (22, .int 1), (21, .int 1), (19, .int 0), (18, .int (nI k9)), (13, .long (pl_thr S (nI t))), (10, .int (-1)), (9, .int (S 0 a)), (5, .int (nI a)), (4, .int (nI t)), (0, .ref (ad 0))]) hx hb dL_locks_652 hl (by decide) rfl (fun ls hl => ?_)
                                    refine lv_iinc (v := (nI (k + 1))) (lv' := [(24, .int (nI (k + 1))), (23, .int 0), (22, .int 1), (21, .int 1), (19, .int 0), (18, .int (nI k9)), (13, .long (pl_thr S (nI t))), (10, .int (-1)), (9, .int (S 0 a)), (5, .int (nI a)), (4, .int (nI t)), (0, .ref (ad 0))]) hx hb dL_locks_654 hl (k := 1) rfl (nI_1 k) (by decide) rfl (fun ls hl => ?_)
                                    refine lv_goto (tgt := 618) hx hb dL_locks_657 (by decide) ?_
                                    exact ih2 (k + 1) false (by omega) (Or.inr hkj) _ _ _ hP hD hS (lv_sub hl [0, 1, 2, 3, 4, 5, 6, 7, 8, 9, 10, 11] rfl)
                            exact loop2 k1 0 false (by omega) (Or.inr (Nat.zero_le _)) _ _ _ hP hD hS (lv_sub hl [0, 1, 2, 3, 5, 6, 9, 11, 12, 16, 17, 18] rfl)
                      · have hl : lv_has ls 25 [(20, .int (nI k)), (19, .int (fk_b ((kq_A S a).any (fun t => decide (S 1 t = 2))))), (18, .int (nI k9)), (17, .int 1), (15, .long (pl_wds S (-1))), (13, .long (pl_thr S (nI t))), (11, .long (pl_thr S (-1))), (10, .int (nI o)), (9, .int (S 0 a)), (8, .int 0), (7, .int to), (6, .int 0), (5, .int (nI a)), (4, .int (nI t)), (0, .ref (ad 0)), (2, .int y), (3, .int od), (1, .ref q)] := by rw [hoe] at hl; exact hl
                        by_cases hod : S 1 o = 3
                        · refine lv_iload hx hb dL_locks_305 (lv_at hl 7 rfl) ?_
                          refine lv_bipush (v := 7) hx hb dL_locks_307 (by decide) ?_
                          refine lv_icmp_gt (tgt := 327) hx hb dL_locks_309 (by decide) (fun c_136 => absurd c_136 (nI_nlt (a := 7) (b := o) (by omega) (by omega))) (fun c_136 => ?_)
                          refine lv_iload hx hb dL_locks_312 (lv_at hl 7 rfl) ?_
                          refine lv_if_lt (tgt := 331) hx hb dL_locks_314 (by decide) (fun c_137 => absurd c_137 (nI_pos (by omega))) (fun c_137 => ?_)
                          refine lv_aload_n hx hb dL_locks_317 rfl (lv_at hl 14 rfl) ?_
                          refine lv_iload hx hb dL_locks_318 (lv_at hl 7 rfl) ?_
                          refine fk_callV (As := [.int (nI o)]) (rest := []) ⟨hx, hb, hml, hown, hts⟩ (kc_stateOf l D ad cI cT cJ _ S o ho8) (cwV 1 hts gL_locks_X2_stateOf rfl rfl rfl (by decide +kernel) ⟨Nat.le_of_ble_eq_true rfl, Nat.le_of_ble_eq_true rfl⟩) (fk_rvK hK hP) hK hP hD hS hA rfl hl.1 rfl (Nat.le_of_ble_eq_true rfl) dL_locks_320 ⟨Nat.le_of_ble_eq_true rfl, Nat.le_of_ble_eq_true rfl⟩ (fun H locs hP hD hS => ?_)
                          refine W.eq (g2 := F0 m 323 ls [.int (S 1 o)]) rfl ?_
                          refine W.eq (g2 := F0 m 323 ls [.int 3]) (by rw [show (S 1 o) = (3 : Int32) from hod]) ?_
                          refine lv_iconst (v := 3) hx hb dL_locks_323 (by decide) ?_
                          refine lv_icmp_ne (tgt := 331) hx hb dL_locks_324 (by decide) (fun c => absurd c (by decide)) (fun _ => ?_)
                          refine lv_iconst (v := 1) hx hb dL_locks_327 (by decide) ?_
                          refine lv_goto (tgt := 332) hx hb dL_locks_328 (by decide) ?_
                          refine lv_istore (lv' := [(20, .int 1), (19, .int (fk_b ((kq_A S a).any (fun t => decide (S 1 t = 2))))), (18, .int (nI k9)), (17, .int 1), (15, .long (pl_wds S (-1))), (13, .long (pl_thr S (nI t))), (11, .long (pl_thr S (-1))), (10, .int (nI o)), (9, .int (S 0 a)), (8, .int 0), (7, .int to), (6, .int 0), (5, .int (nI a)), (4, .int (nI t)), (0, .ref (ad 0)), (2, .int y), (3, .int od), (1, .ref q)]) hx hb dL_locks_332 hl (by decide) rfl (fun ls hl => ?_)
                          refine lv_aload_n hx hb dL_locks_334 rfl (lv_at hl 14 rfl) ?_
                          refine lv_iconst (v := 0) hx hb dL_locks_335 (by decide) ?_
                          refine lv_iload hx hb dL_locks_336 (lv_at hl 13 rfl) ?_
                          refine lv_iload hx hb dL_locks_338 (lv_at hl 12 rfl) ?_
                          refine lv_iload hx hb dL_locks_340 (lv_at hl 10 rfl) ?_
                          refine lv_iconst (v := 0) hx hb dL_locks_342 (by decide) ?_
                          obtain ⟨hk1, hk2⟩ := kk_lock_own (t := t) ha how ho8 hoe to
                          rw [if_pos hod] at hk1 hk2
                          refine fk_lcallS (As := [.ref (ad 0), .int 0, .int (nI t), .int (nI a), .int to, .int 0]) (rest := []) ⟨hx, hb, hml, hown, hts⟩ (Lc_lock l D ad cI cT cJ _ S _ _ _ _ S 4 (fun X => by have h9 := kc_lock l D ad cI cT cJ X S t ht a ha to hs0 hbad hG.1.sz; rw [hk1, hk2] at h9; exact h9)) (vx_cwSW 6 hts gL_locks_L_acts rfl rfl rfl (by decide +kernel) ⟨Nat.le_of_ble_eq_true rfl, Nat.le_of_ble_eq_true rfl⟩) hK hP hD hS hA hZ hN rfl hl.1 rfl (Nat.le_of_ble_eq_true rfl) dL_locks_343 ⟨Nat.le_of_ble_eq_true rfl, Nat.le_of_ble_eq_true rfl⟩ (fun H locs hP hD hS => ?_)
                          refine W.eq (g2 := F0 m 346 ls [.int 4]) rfl ?_
                          refine lv_istore (lv' := [(21, .int 4), (20, .int 1), (19, .int (fk_b ((kq_A S a).any (fun t => decide (S 1 t = 2))))), (18, .int (nI k9)), (17, .int 1), (15, .long (pl_wds S (-1))), (13, .long (pl_thr S (nI t))), (11, .long (pl_thr S (-1))), (10, .int (nI o)), (9, .int (S 0 a)), (8, .int 0), (7, .int to), (6, .int 0), (5, .int (nI a)), (4, .int (nI t)), (0, .ref (ad 0)), (2, .int y), (3, .int od), (1, .ref q)]) hx hb dL_locks_346 hl (by decide) rfl (fun ls hl => ?_)
                          refine lv_iload hx hb dL_locks_348 (lv_at hl 12 rfl) ?_
                          refine lv_if_ne (tgt := 363) hx hb dL_locks_350 (by decide) (fun c => absurd c (by decide)) (fun _ => ?_)
                          refine lv_iload hx hb dL_locks_353 (lv_at hl 10 rfl) ?_
                          refine lv_if_ne (tgt := 363) hx hb dL_locks_355 (by decide) (fun c => absurd c (by decide)) (fun _ => ?_)
                          refine lv_iload hx hb dL_locks_358 (lv_at hl 4 rfl) ?_
                          refine lv_if_ne (tgt := 418) hx hb dL_locks_360 (by decide) (fun _ => ?_) (fun c => absurd c (by decide))
                          refine lv_iload hx hb dL_locks_418 (lv_at hl 0 rfl) ?_
                          refine lv_iconst (v := 2) hx hb dL_locks_420 (by decide) ?_
                          refine lv_icmp_le (tgt := 505) hx hb dL_locks_421 (by decide) (fun c => absurd c (by decide)) (fun _ => ?_)
                          refine lv_iload hx hb dL_locks_424 (lv_at hl 0 rfl) ?_
                          refine lv_iconst (v := 3) hx hb dL_locks_426 (by decide) ?_
                          refine lv_icmp_ne (tgt := 459) hx hb dL_locks_427 (by decide) (fun _ => ?_) (fun c => absurd c (by decide))
                          refine lv_iload hx hb dL_locks_459 (lv_at hl 0 rfl) ?_
                          refine lv_iconst (v := 4) hx hb dL_locks_461 (by decide) ?_
                          refine lv_icmp_ne (tgt := 503) hx hb dL_locks_462 (by decide) (fun c => absurd c (by decide)) (fun _ => ?_)
                          refine lv_iload hx hb dL_locks_465 (lv_at hl 1 rfl) ?_
                          refine lv_if_eq (tgt := 503) hx hb dL_locks_467 (by decide) (fun c => absurd c (by decide)) (fun _ => ?_)
                          refine lv_iload hx hb dL_locks_470 (lv_at hl 8 rfl) ?_
                          refine lv_iload hx hb dL_locks_472 (lv_at hl 14 rfl) ?_
                          refine lv_icmp_eq (tgt := 503) hx hb dL_locks_474 (by decide) (fun c_146 => absurd c_146 (fun c9 => absurd ((congrArg (S 1) ((nI_eq (by omega) (by omega)).mp c9)).symm.trans hod) (by rw [hs0]; decide))) (fun c_146 => ?_)
                          refine lv_aload_n hx hb dL_locks_477 rfl (lv_at hl 15 rfl) ?_
                          refine lv_iconst (v := (-1)) hx hb dL_locks_478 (by decide) ?_
                          refine fk_callS (As := [.ref (ad 0), .int (-1)]) (rest := []) ⟨hx, hb, hml, hown, hts⟩ (kl_threads l D ad cI cT cJ _ S hG.1.sz hG.1.J (-1)) (va_cwS 2 hts gL_locks_L_threads rfl rfl rfl (by decide +kernel) ⟨Nat.le_of_ble_eq_true rfl, Nat.le_of_ble_eq_true rfl⟩) hK hP hD hS hA rfl hl.1 rfl (Nat.le_of_ble_eq_true rfl) dL_locks_479 ⟨Nat.le_of_ble_eq_true rfl, Nat.le_of_ble_eq_true rfl⟩ (fun H locs hP hD hS => ?_)
                          refine W.eq (g2 := F0 m 482 ls [.long (pl_thr S (-1))]) rfl ?_
                          refine lv_lload hx hb dL_locks_482 (lv_at hl 7 rfl) ?_
                          refine W.lcmp hx hb dL_locks_484 ?_
                          refine W.eq (g2 := F0 m 485 ls [.int 0]) (by rw [fk_cmp_self]) ?_
                          refine lv_if_ne (tgt := 503) hx hb dL_locks_485 (by decide) (fun c => absurd c (by decide)) (fun _ => ?_)
                          refine lv_aload_n hx hb dL_locks_488 rfl (lv_at hl 15 rfl) ?_
                          refine lv_iconst (v := (-1)) hx hb dL_locks_489 (by decide) ?_
                          refine fk_callS (As := [.ref (ad 0), .int (-1)]) (rest := []) ⟨hx, hb, hml, hown, hts⟩ (kl_words l D ad cI cT cJ _ S (-1)) (va_cwS 2 hts gL_locks_L_words rfl rfl rfl (by decide +kernel) ⟨Nat.le_of_ble_eq_true rfl, Nat.le_of_ble_eq_true rfl⟩) hK hP hD hS hA rfl hl.1 rfl (Nat.le_of_ble_eq_true rfl) dL_locks_490 ⟨Nat.le_of_ble_eq_true rfl, Nat.le_of_ble_eq_true rfl⟩ (fun H locs hP hD hS => ?_)
                          refine W.eq (g2 := F0 m 493 ls [.long (pl_wds S (-1))]) rfl ?_
                          refine lv_lload hx hb dL_locks_493 (lv_at hl 5 rfl) ?_
                          refine W.lcmp hx hb dL_locks_495 ?_
                          refine W.eq (g2 := F0 m 496 ls [.int 0]) (by rw [fk_cmp_self]) ?_
                          refine lv_if_ne (tgt := 503) hx hb dL_locks_496 (by decide) (fun c => absurd c (by decide)) (fun _ => ?_)
                          refine lv_iconst (v := 1) hx hb dL_locks_499 (by decide) ?_
                          refine lv_goto (tgt := 504) hx hb dL_locks_500 (by decide) ?_
                          exact fk_zretE (Nat.le_of_ble_eq_true rfl) (Nat.le_of_ble_eq_true rfl) hx hb hr hlocks hP hK hD hS rfl ⟨rfl, _, _, rfl, (hG).wk (by omega)⟩ dL_locks_504
                        · by_cases hot : o = t
                          · have hl : lv_has ls 25 [(20, .int (nI k)), (19, .int (fk_b ((kq_A S a).any (fun t => decide (S 1 t = 2))))), (18, .int (nI k9)), (17, .int 1), (15, .long (pl_wds S (-1))), (13, .long (pl_thr S (nI t))), (11, .long (pl_thr S (-1))), (10, .int (nI t)), (9, .int (S 0 a)), (8, .int 0), (7, .int to), (6, .int 0), (5, .int (nI a)), (4, .int (nI t)), (0, .ref (ad 0)), (2, .int y), (3, .int od), (1, .ref q)] := by rw [hot] at hl; exact hl
                            refine lv_iload hx hb dL_locks_305 (lv_at hl 7 rfl) ?_
                            refine lv_bipush (v := 7) hx hb dL_locks_307 (by decide) ?_
                            refine lv_icmp_gt (tgt := 327) hx hb dL_locks_309 (by decide) (fun c_149 => absurd c_149 (nI_nlt (a := 7) (b := t) (by omega) (by omega))) (fun c_149 => ?_)
                            refine lv_iload hx hb dL_locks_312 (lv_at hl 7 rfl) ?_
                            refine lv_if_lt (tgt := 331) hx hb dL_locks_314 (by decide) (fun c_150 => absurd c_150 (nI_pos (by omega))) (fun c_150 => ?_)
                            refine lv_aload_n hx hb dL_locks_317 rfl (lv_at hl 14 rfl) ?_
                            refine lv_iload hx hb dL_locks_318 (lv_at hl 7 rfl) ?_
                            refine fk_callV (As := [.int (nI t)]) (rest := []) ⟨hx, hb, hml, hown, hts⟩ (kc_stateOf l D ad cI cT cJ _ S t ht) (cwV 1 hts gL_locks_X2_stateOf rfl rfl rfl (by decide +kernel) ⟨Nat.le_of_ble_eq_true rfl, Nat.le_of_ble_eq_true rfl⟩) (fk_rvK hK hP) hK hP hD hS hA rfl hl.1 rfl (Nat.le_of_ble_eq_true rfl) dL_locks_320 ⟨Nat.le_of_ble_eq_true rfl, Nat.le_of_ble_eq_true rfl⟩ (fun H locs hP hD hS => ?_)
                            refine W.eq (g2 := F0 m 323 ls [.int (S 1 t)]) rfl ?_
                            refine W.eq (g2 := F0 m 323 ls [.int 0]) (by rw [show (S 1 t) = (0 : Int32) from hs0]) ?_
                            refine lv_iconst (v := 3) hx hb dL_locks_323 (by decide) ?_
                            refine lv_icmp_ne (tgt := 331) hx hb dL_locks_324 (by decide) (fun _ => ?_) (fun c => absurd c (by decide))
                            refine lv_iconst (v := 0) hx hb dL_locks_331 (by decide) ?_
                            refine lv_istore (lv' := [(20, .int 0), (19, .int (fk_b ((kq_A S a).any (fun t => decide (S 1 t = 2))))), (18, .int (nI k9)), (17, .int 1), (15, .long (pl_wds S (-1))), (13, .long (pl_thr S (nI t))), (11, .long (pl_thr S (-1))), (10, .int (nI t)), (9, .int (S 0 a)), (8, .int 0), (7, .int to), (6, .int 0), (5, .int (nI a)), (4, .int (nI t)), (0, .ref (ad 0)), (2, .int y), (3, .int od), (1, .ref q)]) hx hb dL_locks_332 hl (by decide) rfl (fun ls hl => ?_)
                            refine lv_aload_n hx hb dL_locks_334 rfl (lv_at hl 14 rfl) ?_
                            refine lv_iconst (v := 0) hx hb dL_locks_335 (by decide) ?_
                            refine lv_iload hx hb dL_locks_336 (lv_at hl 13 rfl) ?_
                            refine lv_iload hx hb dL_locks_338 (lv_at hl 12 rfl) ?_
                            refine lv_iload hx hb dL_locks_340 (lv_at hl 10 rfl) ?_
                            refine lv_iconst (v := 0) hx hb dL_locks_342 (by decide) ?_
                            obtain ⟨hk1, hk2⟩ := kk_lock_own (t := t) ha how ho8 hoe to
                            rw [if_neg hod, if_pos hot] at hk1 hk2
                            refine fk_lcallS (As := [.ref (ad 0), .int 0, .int (nI t), .int (nI a), .int to, .int 0]) (rest := []) ⟨hx, hb, hml, hown, hts⟩ (Lc_lock l D ad cI cT cJ _ S _ _ _ _ S 3 (fun X => by have h9 := kc_lock l D ad cI cT cJ X S t ht a ha to hs0 hbad hG.1.sz; rw [hk1, hk2] at h9; exact h9)) (vx_cwSW 6 hts gL_locks_L_acts rfl rfl rfl (by decide +kernel) ⟨Nat.le_of_ble_eq_true rfl, Nat.le_of_ble_eq_true rfl⟩) hK hP hD hS hA hZ hN rfl hl.1 rfl (Nat.le_of_ble_eq_true rfl) dL_locks_343 ⟨Nat.le_of_ble_eq_true rfl, Nat.le_of_ble_eq_true rfl⟩ (fun H locs hP hD hS => ?_)
                            refine W.eq (g2 := F0 m 346 ls [.int 3]) rfl ?_
                            refine lv_istore (lv' := [(21, .int 3), (20, .int 0), (19, .int (fk_b ((kq_A S a).any (fun t => decide (S 1 t = 2))))), (18, .int (nI k9)), (17, .int 1), (15, .long (pl_wds S (-1))), (13, .long (pl_thr S (nI t))), (11, .long (pl_thr S (-1))), (10, .int (nI t)), (9, .int (S 0 a)), (8, .int 0), (7, .int to), (6, .int 0), (5, .int (nI a)), (4, .int (nI t)), (0, .ref (ad 0)), (2, .int y), (3, .int od), (1, .ref q)]) hx hb dL_locks_346 hl (by decide) rfl (fun ls hl => ?_)
                            refine lv_iload hx hb dL_locks_348 (lv_at hl 12 rfl) ?_
                            refine lv_if_ne (tgt := 363) hx hb dL_locks_350 (by decide) (fun c => absurd c (by decide)) (fun _ => ?_)
                            refine lv_iload hx hb dL_locks_353 (lv_at hl 10 rfl) ?_
                            refine lv_if_ne (tgt := 363) hx hb dL_locks_355 (by decide) (fun c => absurd c (by decide)) (fun _ => ?_)
                            refine lv_iload hx hb dL_locks_358 (lv_at hl 4 rfl) ?_
                            refine lv_if_ne (tgt := 418) hx hb dL_locks_360 (by decide) (fun _ => ?_) (fun c => absurd c (by decide))
                            refine lv_iload hx hb dL_locks_418 (lv_at hl 0 rfl) ?_
                            refine lv_iconst (v := 2) hx hb dL_locks_420 (by decide) ?_
                            refine lv_icmp_le (tgt := 505) hx hb dL_locks_421 (by decide) (fun c => absurd c (by decide)) (fun _ => ?_)
                            refine lv_iload hx hb dL_locks_424 (lv_at hl 0 rfl) ?_
                            refine lv_iconst (v := 3) hx hb dL_locks_426 (by decide) ?_
                            refine lv_icmp_ne (tgt := 459) hx hb dL_locks_427 (by decide) (fun c => absurd c (by decide)) (fun _ => ?_)
                            refine lv_iload hx hb dL_locks_430 (lv_at hl 8 rfl) ?_
                            refine lv_iload hx hb dL_locks_432 (lv_at hl 14 rfl) ?_
                            refine lv_icmp_eq (tgt := 477) hx hb dL_locks_434 (by decide) (fun _ => ?_) (fun c => absurd rfl c)
                            refine lv_aload_n hx hb dL_locks_477 rfl (lv_at hl 15 rfl) ?_
                            refine lv_iconst (v := (-1)) hx hb dL_locks_478 (by decide) ?_
                            refine fk_callS (As := [.ref (ad 0), .int (-1)]) (rest := []) ⟨hx, hb, hml, hown, hts⟩ (kl_threads l D ad cI cT cJ _ S hG.1.sz hG.1.J (-1)) (va_cwS 2 hts gL_locks_L_threads rfl rfl rfl (by decide +kernel) ⟨Nat.le_of_ble_eq_true rfl, Nat.le_of_ble_eq_true rfl⟩) hK hP hD hS hA rfl hl.1 rfl (Nat.le_of_ble_eq_true rfl) dL_locks_479 ⟨Nat.le_of_ble_eq_true rfl, Nat.le_of_ble_eq_true rfl⟩ (fun H locs hP hD hS => ?_)
                            refine W.eq (g2 := F0 m 482 ls [.long (pl_thr S (-1))]) rfl ?_
                            refine lv_lload hx hb dL_locks_482 (lv_at hl 7 rfl) ?_
                            refine W.lcmp hx hb dL_locks_484 ?_
                            refine W.eq (g2 := F0 m 485 ls [.int 0]) (by rw [fk_cmp_self]) ?_
                            refine lv_if_ne (tgt := 503) hx hb dL_locks_485 (by decide) (fun c => absurd c (by decide)) (fun _ => ?_)
                            refine lv_aload_n hx hb dL_locks_488 rfl (lv_at hl 15 rfl) ?_
                            refine lv_iconst (v := (-1)) hx hb dL_locks_489 (by decide) ?_
                            refine fk_callS (As := [.ref (ad 0), .int (-1)]) (rest := []) ⟨hx, hb, hml, hown, hts⟩ (kl_words l D ad cI cT cJ _ S (-1)) (va_cwS 2 hts gL_locks_L_words rfl rfl rfl (by decide +kernel) ⟨Nat.le_of_ble_eq_true rfl, Nat.le_of_ble_eq_true rfl⟩) hK hP hD hS hA rfl hl.1 rfl (Nat.le_of_ble_eq_true rfl) dL_locks_490 ⟨Nat.le_of_ble_eq_true rfl, Nat.le_of_ble_eq_true rfl⟩ (fun H locs hP hD hS => ?_)
                            refine W.eq (g2 := F0 m 493 ls [.long (pl_wds S (-1))]) rfl ?_
                            refine lv_lload hx hb dL_locks_493 (lv_at hl 5 rfl) ?_
                            refine W.lcmp hx hb dL_locks_495 ?_
                            refine W.eq (g2 := F0 m 496 ls [.int 0]) (by rw [fk_cmp_self]) ?_
                            refine lv_if_ne (tgt := 503) hx hb dL_locks_496 (by decide) (fun c => absurd c (by decide)) (fun _ => ?_)
                            refine lv_iconst (v := 1) hx hb dL_locks_499 (by decide) ?_
                            refine lv_goto (tgt := 504) hx hb dL_locks_500 (by decide) ?_
                            exact fk_zretE (Nat.le_of_ble_eq_true rfl) (Nat.le_of_ble_eq_true rfl) hx hb hr hlocks hP hK hD hS rfl ⟨rfl, _, _, rfl, (hG).wk (by omega)⟩ dL_locks_504
                          · by_cases hheld : kk_held S t 8 (some o) = true
                            · refine lv_iload hx hb dL_locks_305 (lv_at hl 7 rfl) ?_
                              refine lv_bipush (v := 7) hx hb dL_locks_307 (by decide) ?_
                              refine lv_icmp_gt (tgt := 327) hx hb dL_locks_309 (by decide) (fun c_159 => absurd c_159 (nI_nlt (a := 7) (b := o) (by omega) (by omega))) (fun c_159 => ?_)
                              refine lv_iload hx hb dL_locks_312 (lv_at hl 7 rfl) ?_
                              refine lv_if_lt (tgt := 331) hx hb dL_locks_314 (by decide) (fun c_160 => absurd c_160 (nI_pos (by omega))) (fun c_160 => ?_)
                              refine lv_aload_n hx hb dL_locks_317 rfl (lv_at hl 14 rfl) ?_
                              refine lv_iload hx hb dL_locks_318 (lv_at hl 7 rfl) ?_
                              refine fk_callV (As := [.int (nI o)]) (rest := []) ⟨hx, hb, hml, hown, hts⟩ (kc_stateOf l D ad cI cT cJ _ S o ho8) (cwV 1 hts gL_locks_X2_stateOf rfl rfl rfl (by decide +kernel) ⟨Nat.le_of_ble_eq_true rfl, Nat.le_of_ble_eq_true rfl⟩) (fk_rvK hK hP) hK hP hD hS hA rfl hl.1 rfl (Nat.le_of_ble_eq_true rfl) dL_locks_320 ⟨Nat.le_of_ble_eq_true rfl, Nat.le_of_ble_eq_true rfl⟩ (fun H locs hP hD hS => ?_)
                              refine W.eq (g2 := F0 m 323 ls [.int (S 1 o)]) rfl ?_
                              refine lv_iconst (v := 3) hx hb dL_locks_323 (by decide) ?_
                              refine lv_icmp_ne (tgt := 331) hx hb dL_locks_324 (by decide) (fun c_161 => ?_) (fun c9 => absurd c9 hod)
                              refine lv_iconst (v := 0) hx hb dL_locks_331 (by decide) ?_
                              refine lv_istore (lv' := [(20, .int 0), (19, .int (fk_b ((kq_A S a).any (fun t => decide (S 1 t = 2))))), (18, .int (nI k9)), (17, .int 1), (15, .long (pl_wds S (-1))), (13, .long (pl_thr S (nI t))), (11, .long (pl_thr S (-1))), (10, .int (nI o)), (9, .int (S 0 a)), (8, .int 0), (7, .int to), (6, .int 0), (5, .int (nI a)), (4, .int (nI t)), (0, .ref (ad 0)), (2, .int y), (3, .int od), (1, .ref q)]) hx hb dL_locks_332 hl (by decide) rfl (fun ls hl => ?_)
                              refine lv_aload_n hx hb dL_locks_334 rfl (lv_at hl 14 rfl) ?_
                              refine lv_iconst (v := 0) hx hb dL_locks_335 (by decide) ?_
                              refine lv_iload hx hb dL_locks_336 (lv_at hl 13 rfl) ?_
                              refine lv_iload hx hb dL_locks_338 (lv_at hl 12 rfl) ?_
                              refine lv_iload hx hb dL_locks_340 (lv_at hl 10 rfl) ?_
                              refine lv_iconst (v := 0) hx hb dL_locks_342 (by decide) ?_
                              obtain ⟨hk1, hk2⟩ := kk_lock_own (t := t) ha how ho8 hoe to
                              rw [if_neg hod, if_neg hot, if_pos hheld] at hk1 hk2
                              have hbb := kk_blocked_pos ht (show ¬ S 1 t = 2 by rw [hs0]; decide) ho8 hheld
                              refine fk_lcallS (As := [.ref (ad 0), .int 0, .int (nI t), .int (nI a), .int to, .int 0]) (rest := []) ⟨hx, hb, hml, hown, hts⟩ (Lc_lock l D ad cI cT cJ _ S _ _ _ _ S 3 (fun X => by have h9 := kc_lock l D ad cI cT cJ X S t ht a ha to hs0 hbad hG.1.sz; rw [hk1, hk2] at h9; exact h9)) (vx_cwSW 6 hts gL_locks_L_acts rfl rfl rfl (by decide +kernel) ⟨Nat.le_of_ble_eq_true rfl, Nat.le_of_ble_eq_true rfl⟩) hK hP hD hS hA hZ hN rfl hl.1 rfl (Nat.le_of_ble_eq_true rfl) dL_locks_343 ⟨Nat.le_of_ble_eq_true rfl, Nat.le_of_ble_eq_true rfl⟩ (fun H locs hP hD hS => ?_)
                              refine W.eq (g2 := F0 m 346 ls [.int 3]) rfl ?_
                              refine lv_istore (lv' := [(21, .int 3), (20, .int 0), (19, .int (fk_b ((kq_A S a).any (fun t => decide (S 1 t = 2))))), (18, .int (nI k9)), (17, .int 1), (15, .long (pl_wds S (-1))), (13, .long (pl_thr S (nI t))), (11, .long (pl_thr S (-1))), (10, .int (nI o)), (9, .int (S 0 a)), (8, .int 0), (7, .int to), (6, .int 0), (5, .int (nI a)), (4, .int (nI t)), (0, .ref (ad 0)), (2, .int y), (3, .int od), (1, .ref q)]) hx hb dL_locks_346 hl (by decide) rfl (fun ls hl => ?_)
                              refine lv_iload hx hb dL_locks_348 (lv_at hl 12 rfl) ?_
                              refine lv_if_ne (tgt := 363) hx hb dL_locks_350 (by decide) (fun c => absurd c (by decide)) (fun _ => ?_)
                              refine lv_iload hx hb dL_locks_353 (lv_at hl 10 rfl) ?_
                              refine lv_if_ne (tgt := 363) hx hb dL_locks_355 (by decide) (fun c => absurd c (by decide)) (fun _ => ?_)
                              refine lv_iload hx hb dL_locks_358 (lv_at hl 4 rfl) ?_
                              refine lv_if_ne (tgt := 418) hx hb dL_locks_360 (by decide) (fun _ => ?_) (fun c => absurd c (by decide))
                              refine lv_iload hx hb dL_locks_418 (lv_at hl 0 rfl) ?_
                              refine lv_iconst (v := 2) hx hb dL_locks_420 (by decide) ?_
                              refine lv_icmp_le (tgt := 505) hx hb dL_locks_421 (by decide) (fun c => absurd c (by decide)) (fun _ => ?_)
                              refine lv_iload hx hb dL_locks_424 (lv_at hl 0 rfl) ?_
                              refine lv_iconst (v := 3) hx hb dL_locks_426 (by decide) ?_
                              refine lv_icmp_ne (tgt := 459) hx hb dL_locks_427 (by decide) (fun c => absurd c (by decide)) (fun _ => ?_)
                              refine lv_iload hx hb dL_locks_430 (lv_at hl 8 rfl) ?_
                              refine lv_iload hx hb dL_locks_432 (lv_at hl 14 rfl) ?_
                              refine lv_icmp_eq (tgt := 477) hx hb dL_locks_434 (by decide) (fun c_167 => absurd c_167 (fun c9 => hot ((nI_eq (by omega) (by omega)).mp c9))) (fun c_167 => ?_)
                              refine lv_iload hx hb dL_locks_437 (lv_at hl 8 rfl) ?_
                              refine lv_if_lt (tgt := 503) hx hb dL_locks_439 (by decide) (fun c_168 => absurd c_168 (nI_pos (by omega))) (fun c_168 => ?_)
                              refine lv_iload hx hb dL_locks_442 (lv_at hl 1 rfl) ?_
                              refine lv_if_ne (tgt := 503) hx hb dL_locks_444 (by decide) (fun c => absurd c (by decide)) (fun _ => ?_)
                              refine lv_aload_n hx hb dL_locks_447 rfl (lv_at hl 15 rfl) ?_
                              refine lv_iload hx hb dL_locks_448 (lv_at hl 14 rfl) ?_
                              refine fk_callV (As := [.int (nI t)]) (rest := []) ⟨hx, hb, hml, hown, hts⟩ (kc_blockedBy l D ad cI cT cJ _ S t ht) (cwV 1 hts gL_locks_X2_blockedBy rfl rfl rfl (by decide +kernel) ⟨Nat.le_of_ble_eq_true rfl, Nat.le_of_ble_eq_true rfl⟩) (fk_rvK hK hP) hK hP hD hS hA rfl hl.1 rfl (Nat.le_of_ble_eq_true rfl) dL_locks_450 ⟨Nat.le_of_ble_eq_true rfl, Nat.le_of_ble_eq_true rfl⟩ (fun H locs hP hD hS => ?_)
                              refine W.eq (g2 := F0 m 453 ls [.int (fk_bc (kk_bcl S 8 (kk_bit t)) - 1)]) rfl ?_
                              refine lv_if_le (tgt := 503) hx hb dL_locks_453 (by decide) (fun c_170 => absurd c_170 (Int32.not_le.mpr hbb)) (fun c_170 => ?_)
                              refine lv_goto (tgt := 477) hx hb dL_locks_456 (by decide) ?_
                              refine lv_aload_n hx hb dL_locks_477 rfl (lv_at hl 15 rfl) ?_
                              refine lv_iconst (v := (-1)) hx hb dL_locks_478 (by decide) ?_
                              refine fk_callS (As := [.ref (ad 0), .int (-1)]) (rest := []) ⟨hx, hb, hml, hown, hts⟩ (kl_threads l D ad cI cT cJ _ S hG.1.sz hG.1.J (-1)) (va_cwS 2 hts gL_locks_L_threads rfl rfl rfl (by decide +kernel) ⟨Nat.le_of_ble_eq_true rfl, Nat.le_of_ble_eq_true rfl⟩) hK hP hD hS hA rfl hl.1 rfl (Nat.le_of_ble_eq_true rfl) dL_locks_479 ⟨Nat.le_of_ble_eq_true rfl, Nat.le_of_ble_eq_true rfl⟩ (fun H locs hP hD hS => ?_)
                              refine W.eq (g2 := F0 m 482 ls [.long (pl_thr S (-1))]) rfl ?_
                              refine lv_lload hx hb dL_locks_482 (lv_at hl 7 rfl) ?_
                              refine W.lcmp hx hb dL_locks_484 ?_
                              refine W.eq (g2 := F0 m 485 ls [.int 0]) (by rw [fk_cmp_self]) ?_
                              refine lv_if_ne (tgt := 503) hx hb dL_locks_485 (by decide) (fun c => absurd c (by decide)) (fun _ => ?_)
                              refine lv_aload_n hx hb dL_locks_488 rfl (lv_at hl 15 rfl) ?_
                              refine lv_iconst (v := (-1)) hx hb dL_locks_489 (by decide) ?_
                              refine fk_callS (As := [.ref (ad 0), .int (-1)]) (rest := []) ⟨hx, hb, hml, hown, hts⟩ (kl_words l D ad cI cT cJ _ S (-1)) (va_cwS 2 hts gL_locks_L_words rfl rfl rfl (by decide +kernel) ⟨Nat.le_of_ble_eq_true rfl, Nat.le_of_ble_eq_true rfl⟩) hK hP hD hS hA rfl hl.1 rfl (Nat.le_of_ble_eq_true rfl) dL_locks_490 ⟨Nat.le_of_ble_eq_true rfl, Nat.le_of_ble_eq_true rfl⟩ (fun H locs hP hD hS => ?_)
                              refine W.eq (g2 := F0 m 493 ls [.long (pl_wds S (-1))]) rfl ?_
                              refine lv_lload hx hb dL_locks_493 (lv_at hl 5 rfl) ?_
                              refine W.lcmp hx hb dL_locks_495 ?_
                              refine W.eq (g2 := F0 m 496 ls [.int 0]) (by rw [fk_cmp_self]) ?_
                              refine lv_if_ne (tgt := 503) hx hb dL_locks_496 (by decide) (fun c => absurd c (by decide)) (fun _ => ?_)
                              refine lv_iconst (v := 1) hx hb dL_locks_499 (by decide) ?_
                              refine lv_goto (tgt := 504) hx hb dL_locks_500 (by decide) ?_
                              exact fk_zretE (Nat.le_of_ble_eq_true rfl) (Nat.le_of_ble_eq_true rfl) hx hb hr hlocks hP hK hD hS rfl ⟨rfl, _, _, rfl, (hG).wk (by omega)⟩ dL_locks_504
                            · refine lv_iload hx hb dL_locks_305 (lv_at hl 7 rfl) ?_
                              refine lv_bipush (v := 7) hx hb dL_locks_307 (by decide) ?_
                              refine lv_icmp_gt (tgt := 327) hx hb dL_locks_309 (by decide) (fun c_173 => absurd c_173 (nI_nlt (a := 7) (b := o) (by omega) (by omega))) (fun c_173 => ?_)
                              refine lv_iload hx hb dL_locks_312 (lv_at hl 7 rfl) ?_
                              refine lv_if_lt (tgt := 331) hx hb dL_locks_314 (by decide) (fun c_174 => absurd c_174 (nI_pos (by omega))) (fun c_174 => ?_)
                              refine lv_aload_n hx hb dL_locks_317 rfl (lv_at hl 14 rfl) ?_
                              refine lv_iload hx hb dL_locks_318 (lv_at hl 7 rfl) ?_
                              refine fk_callV (As := [.int (nI o)]) (rest := []) ⟨hx, hb, hml, hown, hts⟩ (kc_stateOf l D ad cI cT cJ _ S o ho8) (cwV 1 hts gL_locks_X2_stateOf rfl rfl rfl (by decide +kernel) ⟨Nat.le_of_ble_eq_true rfl, Nat.le_of_ble_eq_true rfl⟩) (fk_rvK hK hP) hK hP hD hS hA rfl hl.1 rfl (Nat.le_of_ble_eq_true rfl) dL_locks_320 ⟨Nat.le_of_ble_eq_true rfl, Nat.le_of_ble_eq_true rfl⟩ (fun H locs hP hD hS => ?_)
                              refine W.eq (g2 := F0 m 323 ls [.int (S 1 o)]) rfl ?_
                              refine lv_iconst (v := 3) hx hb dL_locks_323 (by decide) ?_
                              refine lv_icmp_ne (tgt := 331) hx hb dL_locks_324 (by decide) (fun c_175 => ?_) (fun c9 => absurd c9 hod)
                              refine lv_iconst (v := 0) hx hb dL_locks_331 (by decide) ?_
                              refine lv_istore (lv' := [(20, .int 0), (19, .int (fk_b ((kq_A S a).any (fun t => decide (S 1 t = 2))))), (18, .int (nI k9)), (17, .int 1), (15, .long (pl_wds S (-1))), (13, .long (pl_thr S (nI t))), (11, .long (pl_thr S (-1))), (10, .int (nI o)), (9, .int (S 0 a)), (8, .int 0), (7, .int to), (6, .int 0), (5, .int (nI a)), (4, .int (nI t)), (0, .ref (ad 0)), (2, .int y), (3, .int od), (1, .ref q)]) hx hb dL_locks_332 hl (by decide) rfl (fun ls hl => ?_)
                              refine lv_aload_n hx hb dL_locks_334 rfl (lv_at hl 14 rfl) ?_
                              refine lv_iconst (v := 0) hx hb dL_locks_335 (by decide) ?_
                              refine lv_iload hx hb dL_locks_336 (lv_at hl 13 rfl) ?_
                              refine lv_iload hx hb dL_locks_338 (lv_at hl 12 rfl) ?_
                              refine lv_iload hx hb dL_locks_340 (lv_at hl 10 rfl) ?_
                              refine lv_iconst (v := 0) hx hb dL_locks_342 (by decide) ?_
                              obtain ⟨hk1, hk2⟩ := kk_lock_own (t := t) ha how ho8 hoe to
                              rw [if_neg hod, if_neg hot, if_neg hheld] at hk1 hk2
                              have hG1 := hG.wait ht (by omega) hs0 ha (S 0 a ||| (-2147483648)) hbad
                              refine fk_lcallS (As := [.ref (ad 0), .int 0, .int (nI t), .int (nI a), .int to, .int 0]) (rest := []) ⟨hx, hb, hml, hown, hts⟩ (Lc_lock l D ad cI cT cJ _ S _ _ _ _ (kk_begin (fk_up S 0 a (S 0 a ||| (-2147483648))) t 2 (nI a) 255 to) 2 (fun X => by have h9 := kc_lock l D ad cI cT cJ X S t ht a ha to hs0 hbad hG.1.sz; rw [hk1, hk2] at h9; exact h9)) (vx_cwSW 6 hts gL_locks_L_acts rfl rfl rfl (by decide +kernel) ⟨Nat.le_of_ble_eq_true rfl, Nat.le_of_ble_eq_true rfl⟩) hK hP hD hS hA hZ hN rfl hl.1 rfl (Nat.le_of_ble_eq_true rfl) dL_locks_343 ⟨Nat.le_of_ble_eq_true rfl, Nat.le_of_ble_eq_true rfl⟩ (fun H locs hP hD hS => ?_)
                              refine W.eq (g2 := F0 m 346 ls [.int 2]) rfl ?_
                              refine lv_istore (lv' := [(21, .int 2), (20, .int 0), (19, .int (fk_b ((kq_A S a).any (fun t => decide (S 1 t = 2))))), (18, .int (nI k9)), (17, .int 1), (15, .long (pl_wds S (-1))), (13, .long (pl_thr S (nI t))), (11, .long (pl_thr S (-1))), (10, .int (nI o)), (9, .int (S 0 a)), (8, .int 0), (7, .int to), (6, .int 0), (5, .int (nI a)), (4, .int (nI t)), (0, .ref (ad 0)), (2, .int y), (3, .int od), (1, .ref q)]) hx hb dL_locks_346 hl (by decide) rfl (fun ls hl => ?_)
                              refine lv_iload hx hb dL_locks_348 (lv_at hl 12 rfl) ?_
                              refine lv_if_ne (tgt := 363) hx hb dL_locks_350 (by decide) (fun c => absurd c (by decide)) (fun _ => ?_)
                              refine lv_iload hx hb dL_locks_353 (lv_at hl 10 rfl) ?_
                              refine lv_if_ne (tgt := 363) hx hb dL_locks_355 (by decide) (fun c => absurd c (by decide)) (fun _ => ?_)
                              refine lv_iload hx hb dL_locks_358 (lv_at hl 4 rfl) ?_
                              refine lv_if_ne (tgt := 418) hx hb dL_locks_360 (by decide) (fun _ => ?_) (fun c => absurd c (by decide))
                              refine lv_iload hx hb dL_locks_418 (lv_at hl 0 rfl) ?_
                              refine lv_iconst (v := 2) hx hb dL_locks_420 (by decide) ?_
                              refine lv_icmp_le (tgt := 505) hx hb dL_locks_421 (by decide) (fun _ => ?_) (fun c => absurd c (by decide))
                              refine lv_iload hx hb dL_locks_505 (lv_at hl 0 rfl) ?_
                              refine lv_iconst (v := 2) hx hb dL_locks_507 (by decide) ?_
                              refine lv_icmp_ne (tgt := 603) hx hb dL_locks_508 (by decide) (fun c => absurd c (by decide)) (fun _ => ?_)
                              refine lv_aload_n hx hb dL_locks_511 rfl (lv_at hl 18 rfl) ?_
                              refine lv_bipush (v := 8) hx hb dL_locks_512 (by decide) ?_
                              refine lv_iload hx hb dL_locks_514 (lv_at hl 14 rfl) ?_
                              refine lv_iadd hx hb dL_locks_516 ?_
                              refine W.eq (g2 := F0 m 517 ls [.int (nI (8 + t)), .ref q]) (by rw [show (8 : Int32) = nI 8 from rfl, nI_add]) ?_
                              refine lv_sipush (v := 255) hx hb dL_locks_517 (by decide) ?_
                              refine va_iast hx hb hK hP hD hS 27 0 fk_at27 rfl (vp_in_nI (show 8 + t < 16 from (by omega)) (by decide)) dL_locks_520 (fun H locs hP hD hS => ?_)
                              have hP : va_P D vwCl (fk_kW ad cI cT (kk_begin (fk_up S 0 a (S 0 a ||| (-2147483648))) t 2 (nI a) 255 to) ++ (q, fk_pr cI (upd P (8 + t) 255)) :: X) H := by rw [fk_set27, nI_clamp (by omega)] at hP; exact hP
                              have hD : va_D A (fk_kW ad cI cT (kk_begin (fk_up S 0 a (S 0 a ||| (-2147483648))) t 2 (nI a) 255 to) ++ (q, fk_pr cI (upd P (8 + t) 255)) :: X) := by rw [fk_set27, nI_clamp (by omega)] at hD; exact hD
                              refine W.eq (g2 := F0 m 521 ls []) rfl ?_
                              refine lv_iload hx hb dL_locks_521 (lv_at hl 8 rfl) ?_
                              refine lv_if_lt (tgt := 601) hx hb dL_locks_523 (by decide) (fun c_181 => absurd c_181 (nI_pos (by omega))) (fun c_181 => ?_)
                              refine lv_iload hx hb dL_locks_526 (lv_at hl 8 rfl) ?_
                              refine lv_iload hx hb dL_locks_528 (lv_at hl 14 rfl) ?_
                              refine lv_icmp_eq (tgt := 601) hx hb dL_locks_530 (by decide) (fun c_182 => absurd c_182 (fun c9 => hot ((nI_eq (by omega) (by omega)).mp c9))) (fun c_182 => ?_)
                              refine lv_iload hx hb dL_locks_533 (lv_at hl 1 rfl) ?_
                              refine lv_if_ne (tgt := 601) hx hb dL_locks_535 (by decide) (fun c => absurd c (by decide)) (fun _ => ?_)
                              refine lv_aload_n hx hb dL_locks_538 rfl (lv_at hl 15 rfl) ?_
                              refine lv_iload hx hb dL_locks_539 (lv_at hl 14 rfl) ?_
                              refine fk_callV (As := [.int (nI t)]) (rest := []) ⟨hx, hb, hml, hown, hts⟩ (kc_stateOf l D ad cI cT cJ _ (kk_begin (fk_up S 0 a (S 0 a ||| (-2147483648))) t 2 (nI a) 255 to) t ht) (cwV 1 hts gL_locks_X2_stateOf rfl rfl rfl (by decide +kernel) ⟨Nat.le_of_ble_eq_true rfl, Nat.le_of_ble_eq_true rfl⟩) (fk_rvK hK hP) hK hP hD hS hA rfl hl.1 rfl (Nat.le_of_ble_eq_true rfl) dL_locks_541 ⟨Nat.le_of_ble_eq_true rfl, Nat.le_of_ble_eq_true rfl⟩ (fun H locs hP hD hS => ?_)
                              refine W.eq (g2 := F0 m 544 ls [.int ((kk_begin (fk_up S 0 a (S 0 a ||| (-2147483648))) t 2 (nI a) 255 to) 1 t)]) rfl ?_
                              refine W.eq (g2 := F0 m 544 ls [.int 2]) (by rw [show ((kk_begin (fk_up S 0 a (S 0 a ||| (-2147483648))) t 2 (nI a) 255 to) 1 t) = (2 : Int32) from kk_begin_1]) ?_
                              refine lv_iconst (v := 2) hx hb dL_locks_544 (by decide) ?_
                              refine lv_icmp_ne (tgt := 601) hx hb dL_locks_545 (by decide) (fun c => absurd c (by decide)) (fun _ => ?_)
                              refine lv_aload_n hx hb dL_locks_548 rfl (lv_at hl 15 rfl) ?_
                              refine lv_aload_n hx hb dL_locks_549 rfl (lv_at hl 18 rfl) ?_
                              refine lv_iload hx hb dL_locks_550 (lv_at hl 14 rfl) ?_
                              refine lv_iload hx hb dL_locks_552 (lv_at hl 13 rfl) ?_
                              refine fk_callS (As := [.ref (ad 0), .ref q, .int (nI t), .int (nI a)]) (rest := []) ⟨hx, hb, hml, hown, hts⟩ (kl_joined l D ad cI cT cJ _ (kk_begin (fk_up S 0 a (S 0 a ||| (-2147483648))) t 2 (nI a) 255 to) q (upd P (8 + t) 255) t a hG1.1.J (kk_begin_Jd (hG.word a _).1 (by omega) ht ha 2 255 to) hG1.1.pr) (va_cwS 4 hts gL_locks_L_joined rfl rfl rfl (by decide +kernel) ⟨Nat.le_of_ble_eq_true rfl, Nat.le_of_ble_eq_true rfl⟩) hK hP hD hS hA rfl hl.1 rfl (Nat.le_of_ble_eq_true rfl) dL_locks_554 ⟨Nat.le_of_ble_eq_true rfl, Nat.le_of_ble_eq_true rfl⟩ (fun H locs hP hD hS => ?_)
                              refine W.eq (g2 := F0 m 557 ls [.int 1]) rfl ?_
                              refine lv_if_eq (tgt := 601) hx hb dL_locks_557 (by decide) (fun c => absurd c (by decide)) (fun _ => ?_)
                              refine lv_aload_n hx hb dL_locks_560 rfl (lv_at hl 15 rfl) ?_
                              refine lv_iload hx hb dL_locks_561 (lv_at hl 13 rfl) ?_
                              refine fk_callV (As := [.int (nI a)]) (rest := []) ⟨hx, hb, hml, hown, hts⟩ (kc_word l D ad cI cT cJ _ (kk_begin (fk_up S 0 a (S 0 a ||| (-2147483648))) t 2 (nI a) 255 to) a ha) (cwV 1 hts gL_locks_X2_word rfl rfl rfl (by decide +kernel) ⟨Nat.le_of_ble_eq_true rfl, Nat.le_of_ble_eq_true rfl⟩) (fk_rvK hK hP) hK hP hD hS hA rfl hl.1 rfl (Nat.le_of_ble_eq_true rfl) dL_locks_563 ⟨Nat.le_of_ble_eq_true rfl, Nat.le_of_ble_eq_true rfl⟩ (fun H locs hP hD hS => ?_)
                              refine W.eq (g2 := F0 m 566 ls [.int ((kk_begin (fk_up S 0 a (S 0 a ||| (-2147483648))) t 2 (nI a) 255 to) 0 a)]) rfl ?_
                              refine W.eq (g2 := F0 m 566 ls [.int ((S 0 a) ||| (-2147483648))]) (by rw [show ((kk_begin (fk_up S 0 a (S 0 a ||| (-2147483648))) t 2 (nI a) 255 to) 0 a) = ((S 0 a) ||| (-2147483648)) from (by rw [kk_begin_g (by decide) (by decide) (by decide) (by decide) (by decide) (by decide) (by decide), fk_up_s])]) ?_
                              refine lv_iload hx hb dL_locks_566 (lv_at hl 9 rfl) ?_
                              refine lv_ldc (own := RL) (v := (-2147483648)) hx hb hown (hts (.constant RL 159 (-2147483648)) (List.mem_of_getElem? (i := 4) rfl)) dL_locks_568 ?_
                              refine lv_ior hx hb dL_locks_570 ?_
                              refine lv_icmp_ne (tgt := 601) hx hb dL_locks_571 (by decide) (fun c => absurd rfl c) (fun _ => ?_)
                              refine lv_aload_n hx hb dL_locks_574 rfl (lv_at hl 15 rfl) ?_
                              refine lv_iload hx hb dL_locks_575 (lv_at hl 14 rfl) ?_
                              refine fk_callS (As := [.ref (ad 0), .int (nI t)]) (rest := []) ⟨hx, hb, hml, hown, hts⟩ (kl_threads l D ad cI cT cJ _ (kk_begin (fk_up S 0 a (S 0 a ||| (-2147483648))) t 2 (nI a) 255 to) hG1.1.sz hG1.1.J (nI t)) (va_cwS 2 hts gL_locks_L_threads rfl rfl rfl (by decide +kernel) ⟨Nat.le_of_ble_eq_true rfl, Nat.le_of_ble_eq_true rfl⟩) hK hP hD hS hA rfl hl.1 rfl (Nat.le_of_ble_eq_true rfl) dL_locks_577 ⟨Nat.le_of_ble_eq_true rfl, Nat.le_of_ble_eq_true rfl⟩ (fun H locs hP hD hS => ?_)
                              refine W.eq (g2 := F0 m 580 ls [.long (pl_thr (kk_begin (fk_up S 0 a (S 0 a ||| (-2147483648))) t 2 (nI a) 255 to) (nI t))]) rfl ?_
                              refine W.eq (g2 := F0 m 580 ls [.long (pl_thr S (nI t))]) (by rw [show (pl_thr (kk_begin (fk_up S 0 a (S 0 a ||| (-2147483648))) t 2 (nI a) 255 to) (nI t)) = (pl_thr S (nI t)) from (hG.1.thr hG1.1 ((kq_Off_word S a _ _).tr (kk_begin_Off 2 (nI a) 255 to ht)))]) ?_
                              refine lv_lload hx hb dL_locks_580 (lv_at hl 6 rfl) ?_
                              refine W.lcmp hx hb dL_locks_582 ?_
                              refine W.eq (g2 := F0 m 583 ls [.int 0]) (by rw [fk_cmp_self]) ?_
                              refine lv_if_ne (tgt := 601) hx hb dL_locks_583 (by decide) (fun c => absurd c (by decide)) (fun _ => ?_)
                              refine lv_aload_n hx hb dL_locks_586 rfl (lv_at hl 15 rfl) ?_
                              refine lv_iload hx hb dL_locks_587 (lv_at hl 14 rfl) ?_
                              refine fk_callV (As := [.int (nI t)]) (rest := []) ⟨hx, hb, hml, hown, hts⟩ (kc_locks l D ad cI cT cJ _ (kk_begin (fk_up S 0 a (S 0 a ||| (-2147483648))) t 2 (nI a) 255 to) t ht) (cwV 1 hts gL_locks_X2_locks rfl rfl rfl (by decide +kernel) ⟨Nat.le_of_ble_eq_true rfl, Nat.le_of_ble_eq_true rfl⟩) (fk_rvK hK hP) hK hP hD hS hA rfl hl.1 rfl (Nat.le_of_ble_eq_true rfl) dL_locks_589 ⟨Nat.le_of_ble_eq_true rfl, Nat.le_of_ble_eq_true rfl⟩ (fun H locs hP hD hS => ?_)
                              refine W.eq (g2 := F0 m 592 ls [.int ((kk_begin (fk_up S 0 a (S 0 a ||| (-2147483648))) t 2 (nI a) 255 to) 10 t)]) rfl ?_
                              refine W.eq (g2 := F0 m 592 ls [.int (nI k9)]) (by rw [show ((kk_begin (fk_up S 0 a (S 0 a ||| (-2147483648))) t 2 (nI a) 255 to) 10 t) = (nI k9) from (by rw [kk_begin_g (by decide) (by decide) (by decide) (by decide) (by decide) (by decide) (by decide), fk_up_f (by decide)]; exact ek9)]) ?_
                              refine lv_iload hx hb dL_locks_592 (lv_at hl 3 rfl) ?_
                              refine lv_icmp_ne (tgt := 601) hx hb dL_locks_594 (by decide) (fun c => absurd rfl c) (fun _ => ?_)
                              refine lv_iconst (v := 1) hx hb dL_locks_597 (by decide) ?_
                              refine lv_goto (tgt := 602) hx hb dL_locks_598 (by decide) ?_
                              exact fk_zretE (Nat.le_of_ble_eq_true rfl) (Nat.le_of_ble_eq_true rfl) hx hb hr hlocks hP hK hD hS rfl ⟨rfl, _, _, rfl, (hG1).wk (by omega)⟩ dL_locks_602
                      · have hl : lv_has ls 25 [(20, .int (nI k)), (19, .int (fk_b ((kq_A S a).any (fun t => decide (S 1 t = 2))))), (18, .int (nI k9)), (17, .int 1), (15, .long (pl_wds S (-1))), (13, .long (pl_thr S (nI t))), (11, .long (pl_thr S (-1))), (10, .int (nI o)), (9, .int (S 0 a)), (8, .int 0), (7, .int to), (6, .int 0), (5, .int (nI a)), (4, .int (nI t)), (0, .ref (ad 0)), (2, .int y), (3, .int od), (1, .ref q)] := by rw [hoe] at hl; exact hl
                        refine lv_iload hx hb dL_locks_305 (lv_at hl 7 rfl) ?_
                        refine lv_bipush (v := 7) hx hb dL_locks_307 (by decide) ?_
                        refine lv_icmp_gt (tgt := 327) hx hb dL_locks_309 (by decide) (fun c_187 => ?_) (fun c9 => absurd (nI_lt (a := 7) (b := o) (by omega) (by omega)) c9)
                        refine lv_iconst (v := 1) hx hb dL_locks_327 (by decide) ?_
                        refine lv_goto (tgt := 332) hx hb dL_locks_328 (by decide) ?_
                        refine lv_istore (lv' := [(20, .int 1), (19, .int (fk_b ((kq_A S a).any (fun t => decide (S 1 t = 2))))), (18, .int (nI k9)), (17, .int 1), (15, .long (pl_wds S (-1))), (13, .long (pl_thr S (nI t))), (11, .long (pl_thr S (-1))), (10, .int (nI o)), (9, .int (S 0 a)), (8, .int 0), (7, .int to), (6, .int 0), (5, .int (nI a)), (4, .int (nI t)), (0, .ref (ad 0)), (2, .int y), (3, .int od), (1, .ref q)]) hx hb dL_locks_332 hl (by decide) rfl (fun ls hl => ?_)
                        refine lv_aload_n hx hb dL_locks_334 rfl (lv_at hl 14 rfl) ?_
                        refine lv_iconst (v := 0) hx hb dL_locks_335 (by decide) ?_
                        refine lv_iload hx hb dL_locks_336 (lv_at hl 13 rfl) ?_
                        refine lv_iload hx hb dL_locks_338 (lv_at hl 12 rfl) ?_
                        refine lv_iload hx hb dL_locks_340 (lv_at hl 10 rfl) ?_
                        refine lv_iconst (v := 0) hx hb dL_locks_342 (by decide) ?_
                        obtain ⟨hk1, hk2⟩ := kk_lock_none (t := t) ha how ho8 ho9 hoe to
                        refine fk_lcallS (As := [.ref (ad 0), .int 0, .int (nI t), .int (nI a), .int to, .int 0]) (rest := []) ⟨hx, hb, hml, hown, hts⟩ (Lc_lock l D ad cI cT cJ _ S _ _ _ _ S 4 (fun X => by have h9 := kc_lock l D ad cI cT cJ X S t ht a ha to hs0 hbad hG.1.sz; rw [hk1, hk2] at h9; exact h9)) (vx_cwSW 6 hts gL_locks_L_acts rfl rfl rfl (by decide +kernel) ⟨Nat.le_of_ble_eq_true rfl, Nat.le_of_ble_eq_true rfl⟩) hK hP hD hS hA hZ hN rfl hl.1 rfl (Nat.le_of_ble_eq_true rfl) dL_locks_343 ⟨Nat.le_of_ble_eq_true rfl, Nat.le_of_ble_eq_true rfl⟩ (fun H locs hP hD hS => ?_)
                        refine W.eq (g2 := F0 m 346 ls [.int 4]) rfl ?_
                        refine lv_istore (lv' := [(21, .int 4), (20, .int 1), (19, .int (fk_b ((kq_A S a).any (fun t => decide (S 1 t = 2))))), (18, .int (nI k9)), (17, .int 1), (15, .long (pl_wds S (-1))), (13, .long (pl_thr S (nI t))), (11, .long (pl_thr S (-1))), (10, .int (nI o)), (9, .int (S 0 a)), (8, .int 0), (7, .int to), (6, .int 0), (5, .int (nI a)), (4, .int (nI t)), (0, .ref (ad 0)), (2, .int y), (3, .int od), (1, .ref q)]) hx hb dL_locks_346 hl (by decide) rfl (fun ls hl => ?_)
                        refine lv_iload hx hb dL_locks_348 (lv_at hl 12 rfl) ?_
                        refine lv_if_ne (tgt := 363) hx hb dL_locks_350 (by decide) (fun c => absurd c (by decide)) (fun _ => ?_)
                        refine lv_iload hx hb dL_locks_353 (lv_at hl 10 rfl) ?_
                        refine lv_if_ne (tgt := 363) hx hb dL_locks_355 (by decide) (fun c => absurd c (by decide)) (fun _ => ?_)
                        refine lv_iload hx hb dL_locks_358 (lv_at hl 4 rfl) ?_
                        refine lv_if_ne (tgt := 418) hx hb dL_locks_360 (by decide) (fun _ => ?_) (fun c => absurd c (by decide))
                        refine lv_iload hx hb dL_locks_418 (lv_at hl 0 rfl) ?_
                        refine lv_iconst (v := 2) hx hb dL_locks_420 (by decide) ?_
                        refine lv_icmp_le (tgt := 505) hx hb dL_locks_421 (by decide) (fun c => absurd c (by decide)) (fun _ => ?_)
                        refine lv_iload hx hb dL_locks_424 (lv_at hl 0 rfl) ?_
                        refine lv_iconst (v := 3) hx hb dL_locks_426 (by decide) ?_
                        refine lv_icmp_ne (tgt := 459) hx hb dL_locks_427 (by decide) (fun _ => ?_) (fun c => absurd c (by decide))
                        refine lv_iload hx hb dL_locks_459 (lv_at hl 0 rfl) ?_
                        refine lv_iconst (v := 4) hx hb dL_locks_461 (by decide) ?_
                        refine lv_icmp_ne (tgt := 503) hx hb dL_locks_462 (by decide) (fun c => absurd c (by decide)) (fun _ => ?_)
                        refine lv_iload hx hb dL_locks_465 (lv_at hl 1 rfl) ?_
                        refine lv_if_eq (tgt := 503) hx hb dL_locks_467 (by decide) (fun c => absurd c (by decide)) (fun _ => ?_)
                        refine lv_iload hx hb dL_locks_470 (lv_at hl 8 rfl) ?_
                        refine lv_iload hx hb dL_locks_472 (lv_at hl 14 rfl) ?_
                        refine lv_icmp_eq (tgt := 503) hx hb dL_locks_474 (by decide) (fun c_195 => absurd c_195 (fun c9 => absurd ((nI_eq (by omega) (by omega)).mp c9) (by omega))) (fun c_195 => ?_)
                        refine lv_aload_n hx hb dL_locks_477 rfl (lv_at hl 15 rfl) ?_
                        refine lv_iconst (v := (-1)) hx hb dL_locks_478 (by decide) ?_
                        refine fk_callS (As := [.ref (ad 0), .int (-1)]) (rest := []) ⟨hx, hb, hml, hown, hts⟩ (kl_threads l D ad cI cT cJ _ S hG.1.sz hG.1.J (-1)) (va_cwS 2 hts gL_locks_L_threads rfl rfl rfl (by decide +kernel) ⟨Nat.le_of_ble_eq_true rfl, Nat.le_of_ble_eq_true rfl⟩) hK hP hD hS hA rfl hl.1 rfl (Nat.le_of_ble_eq_true rfl) dL_locks_479 ⟨Nat.le_of_ble_eq_true rfl, Nat.le_of_ble_eq_true rfl⟩ (fun H locs hP hD hS => ?_)
                        refine W.eq (g2 := F0 m 482 ls [.long (pl_thr S (-1))]) rfl ?_
                        refine lv_lload hx hb dL_locks_482 (lv_at hl 7 rfl) ?_
                        refine W.lcmp hx hb dL_locks_484 ?_
                        refine W.eq (g2 := F0 m 485 ls [.int 0]) (by rw [fk_cmp_self]) ?_
                        refine lv_if_ne (tgt := 503) hx hb dL_locks_485 (by decide) (fun c => absurd c (by decide)) (fun _ => ?_)
                        refine lv_aload_n hx hb dL_locks_488 rfl (lv_at hl 15 rfl) ?_
                        refine lv_iconst (v := (-1)) hx hb dL_locks_489 (by decide) ?_
                        refine fk_callS (As := [.ref (ad 0), .int (-1)]) (rest := []) ⟨hx, hb, hml, hown, hts⟩ (kl_words l D ad cI cT cJ _ S (-1)) (va_cwS 2 hts gL_locks_L_words rfl rfl rfl (by decide +kernel) ⟨Nat.le_of_ble_eq_true rfl, Nat.le_of_ble_eq_true rfl⟩) hK hP hD hS hA rfl hl.1 rfl (Nat.le_of_ble_eq_true rfl) dL_locks_490 ⟨Nat.le_of_ble_eq_true rfl, Nat.le_of_ble_eq_true rfl⟩ (fun H locs hP hD hS => ?_)
                        refine W.eq (g2 := F0 m 493 ls [.long (pl_wds S (-1))]) rfl ?_
                        refine lv_lload hx hb dL_locks_493 (lv_at hl 5 rfl) ?_
                        refine W.lcmp hx hb dL_locks_495 ?_
                        refine W.eq (g2 := F0 m 496 ls [.int 0]) (by rw [fk_cmp_self]) ?_
                        refine lv_if_ne (tgt := 503) hx hb dL_locks_496 (by decide) (fun c => absurd c (by decide)) (fun _ => ?_)
                        refine lv_iconst (v := 1) hx hb dL_locks_499 (by decide) ?_
                        refine lv_goto (tgt := 504) hx hb dL_locks_500 (by decide) ?_
                        exact fk_zretE (Nat.le_of_ble_eq_true rfl) (Nat.le_of_ble_eq_true rfl) hx hb hr hlocks hP hK hD hS rfl ⟨rfl, _, _, rfl, (hG).wk (by omega)⟩ dL_locks_504
                    | succ n1 ih1 =>
                      intro k w hk hw H locs ls hP hD hS hl
                      have h8 := kq_A8 S a
                      obtain ⟨u, hgu, hdu⟩ := kq_step hk
                      have hu9 := kq_A_lt hgu
                      refine lv_iload hx hb dL_locks_255 (lv_at hl 11 rfl) ?_
                      refine lv_if_ne (tgt := 305) hx hb dL_locks_257 (by decide) (fun c => absurd c (by decide)) (fun _ => ?_)
                      refine lv_iload hx hb dL_locks_260 (lv_at hl 0 rfl) ?_
                      refine lv_aload_n hx hb dL_locks_262 rfl (lv_at hl 14 rfl) ?_
                      refine lv_iload hx hb dL_locks_263 (lv_at hl 12 rfl) ?_
                      refine fk_callV (As := [.int (nI a)]) (rest := [.int (nI k)]) ⟨hx, hb, hml, hown, hts⟩ (kc_waiters l D ad cI cT cJ _ S a ha) (cwV 1 hts gL_locks_X2_waiters rfl rfl rfl (by decide +kernel) ⟨Nat.le_of_ble_eq_true rfl, Nat.le_of_ble_eq_true rfl⟩) (fk_rvK hK hP) hK hP hD hS hA rfl hl.1 rfl (Nat.le_of_ble_eq_true rfl) dL_locks_265 ⟨Nat.le_of_ble_eq_true rfl, Nat.le_of_ble_eq_true rfl⟩ (fun H locs hP hD hS => ?_)
                      refine W.eq (g2 := F0 m 268 ls [.int (kk_waiters S (nI a)), .int (nI k)]) rfl ?_
                      refine W.eq (g2 := F0 m 268 ls [.int (nI ((kq_A S a).length)), .int (nI k)]) (by rw [show (kk_waiters S (nI a)) = (nI ((kq_A S a).length)) from (kq_waiters _ _)]) ?_
                      refine lv_icmp_ge (tgt := 305) hx hb dL_locks_268 (by decide) (fun c_199 => absurd c_199 (nI_ge (a := k) (b := (kq_A S a).length) (by omega) (by omega))) (fun c_199 => ?_)
                      rcases Bool.eq_false_or_eq_true w with rfl | rfl
                      · have hl : lv_has ls 25 [(20, .int (nI k)), (19, .int 1), (18, .int (nI k9)), (17, .int 1), (15, .long (pl_wds S (-1))), (13, .long (pl_thr S (nI t))), (11, .long (pl_thr S (-1))), (10, .int (pl_own (S 0 a))), (9, .int (S 0 a)), (8, .int 0), (7, .int to), (6, .int 0), (5, .int (nI a)), (4, .int (nI t)), (0, .ref (ad 0)), (2, .int y), (3, .int od), (1, .ref q)] := hl
                        refine lv_iload hx hb dL_locks_271 (lv_at hl 1 rfl) ?_
                        refine lv_if_ne (tgt := 292) hx hb dL_locks_273 (by decide) (fun _ => ?_) (fun c => absurd c (by decide))
                        refine lv_iconst (v := 1) hx hb dL_locks_292 (by decide) ?_
                        refine lv_goto (tgt := 297) hx hb dL_locks_293 (by decide) ?_
                        refine lv_istore (lv' := [(19, .int 1), (20, .int (nI k)), (18, .int (nI k9)), (17, .int 1), (15, .long (pl_wds S (-1))), (13, .long (pl_thr S (nI t))), (11, .long (pl_thr S (-1))), (10, .int (pl_own (S 0 a))), (9, .int (S 0 a)), (8, .int 0), (7, .int to), (6, .int 0), (5, .int (nI a)), (4, .int (nI t)), (0, .ref (ad 0)), (2, .int y), (3, .int od), (1, .ref q)]) hx hb dL_locks_297 hl (by decide) rfl (fun ls hl => ?_)
                        refine lv_iinc (v := (nI (k + 1))) (lv' := [(20, .int (nI (k + 1))), (19, .int 1), (18, .int (nI k9)), (17, .int 1), (15, .long (pl_wds S (-1))), (13, .long (pl_thr S (nI t))), (11, .long (pl_thr S (-1))), (10, .int (pl_own (S 0 a))), (9, .int (S 0 a)), (8, .int 0), (7, .int to), (6, .int 0), (5, .int (nI a)), (4, .int (nI t)), (0, .ref (ad 0)), (2, .int y), (3, .int od), (1, .ref q)]) hx hb dL_locks_299 hl (k := 1) rfl (nI_1 k) (by decide) rfl (fun ls hl => ?_)
                        refine lv_goto (tgt := 255) hx hb dL_locks_302 (by decide) ?_
                        exact ih1 (k + 1) true (by omega) (by rw [← hw, Bool.true_or, Bool.true_or]) _ _ _ hP hD hS (lv_sub hl [0, 1, 2, 3, 4, 5, 6, 7, 8, 9, 10, 11, 12, 13, 14, 15, 16, 17] rfl)
                      · have hl : lv_has ls 25 [(20, .int (nI k)), (19, .int 0), (18, .int (nI k9)), (17, .int 1), (15, .long (pl_wds S (-1))), (13, .long (pl_thr S (nI t))), (11, .long (pl_thr S (-1))), (10, .int (pl_own (S 0 a))), (9, .int (S 0 a)), (8, .int 0), (7, .int to), (6, .int 0), (5, .int (nI a)), (4, .int (nI t)), (0, .ref (ad 0)), (2, .int y), (3, .int od), (1, .ref q)] := hl
                        by_cases hlk : S 1 u = 2
                        · refine lv_iload hx hb dL_locks_271 (lv_at hl 1 rfl) ?_
                          refine lv_if_ne (tgt := 292) hx hb dL_locks_273 (by decide) (fun c => absurd c (by decide)) (fun _ => ?_)
                          refine lv_aload_n hx hb dL_locks_276 rfl (lv_at hl 14 rfl) ?_
                          refine lv_aload_n hx hb dL_locks_277 rfl (lv_at hl 14 rfl) ?_
                          refine lv_iload hx hb dL_locks_278 (lv_at hl 12 rfl) ?_
                          refine lv_iload hx hb dL_locks_280 (lv_at hl 0 rfl) ?_
                          refine fk_callV (As := [.int (nI a), .int (nI k)]) (rest := [.ref (ad 0)]) ⟨hx, hb, hml, hown, hts⟩ (kc_waiterAt l D ad cI cT cJ _ S a ha (nI k) u (by rw [kq_wAt hG.1.J (by omega) (by omega)]; exact hgu)) (cwV 2 hts gL_locks_X2_waiterAt rfl rfl rfl (by decide +kernel) ⟨Nat.le_of_ble_eq_true rfl, Nat.le_of_ble_eq_true rfl⟩) (fk_rvK hK hP) hK hP hD hS hA rfl hl.1 rfl (Nat.le_of_ble_eq_true rfl) dL_locks_282 ⟨Nat.le_of_ble_eq_true rfl, Nat.le_of_ble_eq_true rfl⟩ (fun H locs hP hD hS => ?_)
                          refine W.eq (g2 := F0 m 285 ls [.int (nI u), .ref (ad 0)]) rfl ?_
                          refine fk_callV (As := [.int (nI u)]) (rest := []) ⟨hx, hb, hml, hown, hts⟩ (kc_stateOf l D ad cI cT cJ _ S u hu9) (cwV 1 hts gL_locks_X2_stateOf rfl rfl rfl (by decide +kernel) ⟨Nat.le_of_ble_eq_true rfl, Nat.le_of_ble_eq_true rfl⟩) (fk_rvK hK hP) hK hP hD hS hA rfl hl.1 rfl (Nat.le_of_ble_eq_true rfl) dL_locks_285 ⟨Nat.le_of_ble_eq_true rfl, Nat.le_of_ble_eq_true rfl⟩ (fun H locs hP hD hS => ?_)
                          refine W.eq (g2 := F0 m 288 ls [.int (S 1 u)]) rfl ?_
                          refine W.eq (g2 := F0 m 288 ls [.int 2]) (by rw [show (S 1 u) = (2 : Int32) from hlk]) ?_
                          refine lv_iconst (v := 2) hx hb dL_locks_288 (by decide) ?_
                          refine lv_icmp_ne (tgt := 296) hx hb dL_locks_289 (by decide) (fun c => absurd c (by decide)) (fun _ => ?_)
                          refine lv_iconst (v := 1) hx hb dL_locks_292 (by decide) ?_
                          refine lv_goto (tgt := 297) hx hb dL_locks_293 (by decide) ?_
                          refine lv_istore (lv' := [(19, .int 1), (20, .int (nI k)), (18, .int (nI k9)), (17, .int 1), (15, .long (pl_wds S (-1))), (13, .long (pl_thr S (nI t))), (11, .long (pl_thr S (-1))), (10, .int (pl_own (S 0 a))), (9, .int (S 0 a)), (8, .int 0), (7, .int to), (6, .int 0), (5, .int (nI a)), (4, .int (nI t)), (0, .ref (ad 0)), (2, .int y), (3, .int od), (1, .ref q)]) hx hb dL_locks_297 hl (by decide) rfl (fun ls hl => ?_)
                          refine lv_iinc (v := (nI (k + 1))) (lv' := [(20, .int (nI (k + 1))), (19, .int 1), (18, .int (nI k9)), (17, .int 1), (15, .long (pl_wds S (-1))), (13, .long (pl_thr S (nI t))), (11, .long (pl_thr S (-1))), (10, .int (pl_own (S 0 a))), (9, .int (S 0 a)), (8, .int 0), (7, .int to), (6, .int 0), (5, .int (nI a)), (4, .int (nI t)), (0, .ref (ad 0)), (2, .int y), (3, .int od), (1, .ref q)]) hx hb dL_locks_299 hl (k := 1) rfl (nI_1 k) (by decide) rfl (fun ls hl => ?_)
                          refine lv_goto (tgt := 255) hx hb dL_locks_302 (by decide) ?_
                          exact ih1 (k + 1) true (by omega) (by rw [← hw, hdu, List.any_cons, decide_eq_true hlk]; rfl) _ _ _ hP hD hS (lv_sub hl [0, 1, 2, 3, 4, 5, 6, 7, 8, 9, 10, 11, 12, 13, 14, 15, 16, 17] rfl)
                        · refine lv_iload hx hb dL_locks_271 (lv_at hl 1 rfl) ?_
                          refine lv_if_ne (tgt := 292) hx hb dL_locks_273 (by decide) (fun c => absurd c (by decide)) (fun _ => ?_)
                          refine lv_aload_n hx hb dL_locks_276 rfl (lv_at hl 14 rfl) ?_
                          refine lv_aload_n hx hb dL_locks_277 rfl (lv_at hl 14 rfl) ?_
                          refine lv_iload hx hb dL_locks_278 (lv_at hl 12 rfl) ?_
                          refine lv_iload hx hb dL_locks_280 (lv_at hl 0 rfl) ?_
                          refine fk_callV (As := [.int (nI a), .int (nI k)]) (rest := [.ref (ad 0)]) ⟨hx, hb, hml, hown, hts⟩ (kc_waiterAt l D ad cI cT cJ _ S a ha (nI k) u (by rw [kq_wAt hG.1.J (by omega) (by omega)]; exact hgu)) (cwV 2 hts gL_locks_X2_waiterAt rfl rfl rfl (by decide +kernel) ⟨Nat.le_of_ble_eq_true rfl, Nat.le_of_ble_eq_true rfl⟩) (fk_rvK hK hP) hK hP hD hS hA rfl hl.1 rfl (Nat.le_of_ble_eq_true rfl) dL_locks_282 ⟨Nat.le_of_ble_eq_true rfl, Nat.le_of_ble_eq_true rfl⟩ (fun H locs hP hD hS => ?_)
                          refine W.eq (g2 := F0 m 285 ls [.int (nI u), .ref (ad 0)]) rfl ?_
                          refine fk_callV (As := [.int (nI u)]) (rest := []) ⟨hx, hb, hml, hown, hts⟩ (kc_stateOf l D ad cI cT cJ _ S u hu9) (cwV 1 hts gL_locks_X2_stateOf rfl rfl rfl (by decide +kernel) ⟨Nat.le_of_ble_eq_true rfl, Nat.le_of_ble_eq_true rfl⟩) (fk_rvK hK hP) hK hP hD hS hA rfl hl.1 rfl (Nat.le_of_ble_eq_true rfl) dL_locks_285 ⟨Nat.le_of_ble_eq_true rfl, Nat.le_of_ble_eq_true rfl⟩ (fun H locs hP hD hS => ?_)
                          refine W.eq (g2 := F0 m 288 ls [.int (S 1 u)]) rfl ?_
                          refine lv_iconst (v := 2) hx hb dL_locks_288 (by decide) ?_
                          refine lv_icmp_ne (tgt := 296) hx hb dL_locks_289 (by decide) (fun c_204 => ?_) (fun c9 => absurd c9 hlk)
                          refine lv_iconst (v := 0) hx hb dL_locks_296 (by decide) ?_
                          refine lv_istore (lv' := [(19, .int 0), (20, .int (nI k)), (18, .int (nI k9)), (17, .int 1), (15, .long (pl_wds S (-1))), (13, .long (pl_thr S (nI t))), (11, .long (pl_thr S (-1))), (10, .int (pl_own (S 0 a))), (9, .int (S 0 a)), (8, .int 0), (7, .int to), (6, .int 0), (5, .int (nI a)), (4, .int (nI t)), (0, .ref (ad 0)), (2, .int y), (3, .int od), (1, .ref q)]) hx hb dL_locks_297 hl (by decide) rfl (fun ls hl => ?_)
                          refine lv_iinc (v := (nI (k + 1))) (lv' := [(20, .int (nI (k + 1))), (19, .int 0), (18, .int (nI k9)), (17, .int 1), (15, .long (pl_wds S (-1))), (13, .long (pl_thr S (nI t))), (11, .long (pl_thr S (-1))), (10, .int (pl_own (S 0 a))), (9, .int (S 0 a)), (8, .int 0), (7, .int to), (6, .int 0), (5, .int (nI a)), (4, .int (nI t)), (0, .ref (ad 0)), (2, .int y), (3, .int od), (1, .ref q)]) hx hb dL_locks_299 hl (k := 1) rfl (nI_1 k) (by decide) rfl (fun ls hl => ?_)
                          refine lv_goto (tgt := 255) hx hb dL_locks_302 (by decide) ?_
                          exact ih1 (k + 1) false (by omega) (by rw [← hw, hdu, List.any_cons, decide_eq_false hlk]; rfl) _ _ _ hP hD hS (lv_sub hl [0, 1, 2, 3, 4, 5, 6, 7, 8, 9, 10, 11, 12, 13, 14, 15, 16, 17] rfl)
                  exact loop1 (kq_A S a).length 0 false (by omega) rfl _ _ _ hP hD hS (lv_sub hl [0, 1, 2, 3, 4, 5, 6, 7, 8, 9, 10, 11, 12, 13, 14, 16, 17, 15] rfl)
                · refine lv_iload hx hb dL_locks_153 (lv_at hl 2 rfl) ?_
                  refine lv_if_eq (tgt := 162) hx hb dL_locks_155 (by decide) (fun _ => ?_) (fun c => absurd c (by decide))
                  refine lv_aload_n hx hb dL_locks_162 rfl (lv_at hl 5 rfl) ?_
                  refine lv_iload hx hb dL_locks_163 (lv_at hl 3 rfl) ?_
                  refine fk_callV (As := [.int (nI a)]) (rest := []) ⟨hx, hb, hml, hown, hts⟩ (kc_word l D ad cI cT cJ _ S a ha) (cwV 1 hts gL_locks_X2_word rfl rfl rfl (by decide +kernel) ⟨Nat.le_of_ble_eq_true rfl, Nat.le_of_ble_eq_true rfl⟩) (fk_rvK hK hP) hK hP hD hS hA rfl hl.1 rfl (Nat.le_of_ble_eq_true rfl) dL_locks_165 ⟨Nat.le_of_ble_eq_true rfl, Nat.le_of_ble_eq_true rfl⟩ (fun H locs hP hD hS => ?_)
                  refine W.eq (g2 := F0 m 168 ls [.int (S 0 a)]) rfl ?_
                  refine lv_istore (lv' := [(9, .int (S 0 a)), (8, .int 0), (7, .int to), (6, .int 0), (5, .int (nI a)), (4, .int (nI t)), (0, .ref (ad 0)), (1, .ref q), (2, .int y), (3, .int od)]) hx hb dL_locks_168 hl (by decide) rfl (fun ls hl => ?_)
                  refine lv_iload hx hb dL_locks_170 (lv_at hl 0 rfl) ?_
                  refine lv_sipush (v := 255) hx hb dL_locks_172 (by decide) ?_
                  refine lv_iand hx hb dL_locks_175 ?_
                  refine lv_iconst (v := 1) hx hb dL_locks_176 (by decide) ?_
                  refine lv_isub hx hb dL_locks_177 ?_
                  refine W.eq (g2 := F0 m 178 ls [.int (pl_own (S 0 a))]) rfl ?_
                  refine lv_istore (lv' := [(10, .int (pl_own (S 0 a))), (9, .int (S 0 a)), (8, .int 0), (7, .int to), (6, .int 0), (5, .int (nI a)), (4, .int (nI t)), (0, .ref (ad 0)), (1, .ref q), (2, .int y), (3, .int od)]) hx hb dL_locks_178 hl (by decide) rfl (fun ls hl => ?_)
                  refine lv_aload_n hx hb dL_locks_180 rfl (lv_at hl 7 rfl) ?_
                  refine lv_iconst (v := (-1)) hx hb dL_locks_181 (by decide) ?_
                  refine fk_callS (As := [.ref (ad 0), .int (-1)]) (rest := []) ⟨hx, hb, hml, hown, hts⟩ (kl_threads l D ad cI cT cJ _ S hG.1.sz hG.1.J (-1)) (va_cwS 2 hts gL_locks_L_threads rfl rfl rfl (by decide +kernel) ⟨Nat.le_of_ble_eq_true rfl, Nat.le_of_ble_eq_true rfl⟩) hK hP hD hS hA rfl hl.1 rfl (Nat.le_of_ble_eq_true rfl) dL_locks_182 ⟨Nat.le_of_ble_eq_true rfl, Nat.le_of_ble_eq_true rfl⟩ (fun H locs hP hD hS => ?_)
                  refine W.eq (g2 := F0 m 185 ls [.long (pl_thr S (-1))]) rfl ?_
                  refine lv_lstore (lv' := [(11, .long (pl_thr S (-1))), (10, .int (pl_own (S 0 a))), (9, .int (S 0 a)), (8, .int 0), (7, .int to), (6, .int 0), (5, .int (nI a)), (4, .int (nI t)), (0, .ref (ad 0)), (1, .ref q), (2, .int y), (3, .int od)]) hx hb dL_locks_185 hl (by decide) rfl (fun ls hl => ?_)
                  refine lv_aload_n hx hb dL_locks_187 rfl (lv_at hl 8 rfl) ?_
                  refine lv_iload hx hb dL_locks_188 (lv_at hl 5 rfl) ?_
                  refine lv_if_eq (tgt := 197) hx hb dL_locks_190 (by decide) (fun _ => ?_) (fun c => absurd c (by decide))
                  refine lv_iload hx hb dL_locks_197 (lv_at hl 7 rfl) ?_
                  refine fk_callS (As := [.ref (ad 0), .int (nI t)]) (rest := []) ⟨hx, hb, hml, hown, hts⟩ (kl_threads l D ad cI cT cJ _ S hG.1.sz hG.1.J (nI t)) (va_cwS 2 hts gL_locks_L_threads rfl rfl rfl (by decide +kernel) ⟨Nat.le_of_ble_eq_true rfl, Nat.le_of_ble_eq_true rfl⟩) hK hP hD hS hA rfl hl.1 rfl (Nat.le_of_ble_eq_true rfl) dL_locks_199 ⟨Nat.le_of_ble_eq_true rfl, Nat.le_of_ble_eq_true rfl⟩ (fun H locs hP hD hS => ?_)
                  refine W.eq (g2 := F0 m 202 ls [.long (pl_thr S (nI t))]) rfl ?_
                  refine lv_lstore (lv' := [(13, .long (pl_thr S (nI t))), (11, .long (pl_thr S (-1))), (10, .int (pl_own (S 0 a))), (9, .int (S 0 a)), (8, .int 0), (7, .int to), (6, .int 0), (5, .int (nI a)), (4, .int (nI t)), (0, .ref (ad 0)), (1, .ref q), (2, .int y), (3, .int od)]) hx hb dL_locks_202 hl (by decide) rfl (fun ls hl => ?_)
                  refine lv_aload_n hx hb dL_locks_204 rfl (lv_at hl 9 rfl) ?_
                  refine lv_iconst (v := (-1)) hx hb dL_locks_205 (by decide) ?_
                  refine fk_callS (As := [.ref (ad 0), .int (-1)]) (rest := []) ⟨hx, hb, hml, hown, hts⟩ (kl_words l D ad cI cT cJ _ S (-1)) (va_cwS 2 hts gL_locks_L_words rfl rfl rfl (by decide +kernel) ⟨Nat.le_of_ble_eq_true rfl, Nat.le_of_ble_eq_true rfl⟩) hK hP hD hS hA rfl hl.1 rfl (Nat.le_of_ble_eq_true rfl) dL_locks_206 ⟨Nat.le_of_ble_eq_true rfl, Nat.le_of_ble_eq_true rfl⟩ (fun H locs hP hD hS => ?_)
                  refine W.eq (g2 := F0 m 209 ls [.long (pl_wds S (-1))]) rfl ?_
                  refine lv_lstore (lv' := [(15, .long (pl_wds S (-1))), (13, .long (pl_thr S (nI t))), (11, .long (pl_thr S (-1))), (10, .int (pl_own (S 0 a))), (9, .int (S 0 a)), (8, .int 0), (7, .int to), (6, .int 0), (5, .int (nI a)), (4, .int (nI t)), (0, .ref (ad 0)), (1, .ref q), (2, .int y), (3, .int od)]) hx hb dL_locks_209 hl (by decide) rfl (fun ls hl => ?_)
                  refine lv_iload hx hb dL_locks_211 (lv_at hl 7 rfl) ?_
                  refine lv_if_ne (tgt := 229) hx hb dL_locks_213 (by decide) (fun c => absurd c (by decide)) (fun _ => ?_)
                  refine lv_aload_n hx hb dL_locks_216 rfl (lv_at hl 10 rfl) ?_
                  refine lv_iload hx hb dL_locks_217 (lv_at hl 9 rfl) ?_
                  refine fk_callV (As := [.int (nI t)]) (rest := []) ⟨hx, hb, hml, hown, hts⟩ (kc_stateOf l D ad cI cT cJ _ S t ht) (cwV 1 hts gL_locks_X2_stateOf rfl rfl rfl (by decide +kernel) ⟨Nat.le_of_ble_eq_true rfl, Nat.le_of_ble_eq_true rfl⟩) (fk_rvK hK hP) hK hP hD hS hA rfl hl.1 rfl (Nat.le_of_ble_eq_true rfl) dL_locks_219 ⟨Nat.le_of_ble_eq_true rfl, Nat.le_of_ble_eq_true rfl⟩ (fun H locs hP hD hS => ?_)
                  refine W.eq (g2 := F0 m 222 ls [.int (S 1 t)]) rfl ?_
                  refine lv_if_ne (tgt := 229) hx hb dL_locks_222 (by decide) (fun c_208 => ?_) (fun c9 => absurd c9 hs0)
                  refine lv_iconst (v := 0) hx hb dL_locks_229 (by decide) ?_
                  refine lv_istore (lv' := [(17, .int 0), (15, .long (pl_wds S (-1))), (13, .long (pl_thr S (nI t))), (11, .long (pl_thr S (-1))), (10, .int (pl_own (S 0 a))), (9, .int (S 0 a)), (8, .int 0), (7, .int to), (6, .int 0), (5, .int (nI a)), (4, .int (nI t)), (0, .ref (ad 0)), (1, .ref q), (2, .int y), (3, .int od)]) hx hb dL_locks_230 hl (by decide) rfl (fun ls hl => ?_)
                  refine lv_iload hx hb dL_locks_232 (lv_at hl 0 rfl) ?_
                  refine lv_if_eq (tgt := 246) hx hb dL_locks_234 (by decide) (fun _ => ?_) (fun c => absurd c (by decide))
                  refine lv_iconst (v := 0) hx hb dL_locks_246 (by decide) ?_
                  refine lv_istore (lv' := [(18, .int 0), (17, .int 0), (15, .long (pl_wds S (-1))), (13, .long (pl_thr S (nI t))), (11, .long (pl_thr S (-1))), (10, .int (pl_own (S 0 a))), (9, .int (S 0 a)), (8, .int 0), (7, .int to), (6, .int 0), (5, .int (nI a)), (4, .int (nI t)), (0, .ref (ad 0)), (1, .ref q), (2, .int y), (3, .int od)]) hx hb dL_locks_247 hl (by decide) rfl (fun ls hl => ?_)
                  refine lv_iconst (v := 0) hx hb dL_locks_249 (by decide) ?_
                  refine lv_istore (lv' := [(19, .int 0), (18, .int 0), (17, .int 0), (15, .long (pl_wds S (-1))), (13, .long (pl_thr S (nI t))), (11, .long (pl_thr S (-1))), (10, .int (pl_own (S 0 a))), (9, .int (S 0 a)), (8, .int 0), (7, .int to), (6, .int 0), (5, .int (nI a)), (4, .int (nI t)), (0, .ref (ad 0)), (1, .ref q), (2, .int y), (3, .int od)]) hx hb dL_locks_250 hl (by decide) rfl (fun ls hl => ?_)
                  refine lv_iconst (v := 0) hx hb dL_locks_252 (by decide) ?_
                  refine lv_istore (lv' := [(20, .int 0), (19, .int 0), (18, .int 0), (17, .int 0), (15, .long (pl_wds S (-1))), (13, .long (pl_thr S (nI t))), (11, .long (pl_thr S (-1))), (10, .int (pl_own (S 0 a))), (9, .int (S 0 a)), (8, .int 0), (7, .int to), (6, .int 0), (5, .int (nI a)), (4, .int (nI t)), (0, .ref (ad 0)), (1, .ref q), (2, .int y), (3, .int od)]) hx hb dL_locks_253 hl (by decide) rfl (fun ls hl => ?_)
                  have loop1 : ∀ (n1 : Nat) (k : Nat) (w : Bool), k + n1 = (kq_A S a).length → (w || ((kq_A S a).drop k).any (fun t => decide (S 1 t = 2))) = ((kq_A S a).any (fun t => decide (S 1 t = 2))) → ∀ (H : Heap) (locs : List Loc) (ls : Array Slot), va_P D vwCl (fk_kW ad cI cT S ++ (q, fk_pr cI P) :: X) H → va_D A (fk_kW ad cI cT S ++ (q, fk_pr cI P) :: X) → va_S A s.heap H locs → lv_has ls 25 [(20, .int (nI k)), (19, .int (fk_b w)), (18, .int 0), (17, .int 0), (15, .long (pl_wds S (-1))), (13, .long (pl_thr S (nI t))), (11, .long (pl_thr S (-1))), (10, .int (pl_own (S 0 a))), (9, .int (S 0 a)), (8, .int 0), (7, .int to), (6, .int 0), (5, .int (nI a)), (4, .int (nI t)), (0, .ref (ad 0)), (2, .int y), (3, .int od), (1, .ref q)] → W p l e rm_E s m ([.ref (ad 0), .ref q, .int y, .int od] : List Value).toArray below meth c H locs 0 0 (MQ below (fk_QE D (fk_ty cI cT cJ) A (kq_Phi ad cI cT q X (n + 20))) ([.ref (ad 0), .ref q, .int y, .int od] : List Value).toArray s 2 12 A) (F0 m 255 ls []) := by
                    intro n1
                    induction n1 with
                    | zero =>
                      intro k w hk hw H locs ls hP hD hS hl
                      have h8 := kq_A8 S a
                      have hw9 : w = (kq_A S a).any (fun t => decide (S 1 t = 2)) := by rw [← hw, (kq_stop hk).2, List.any_nil, Bool.or_false]
                      have hl : lv_has ls 25 [(20, .int (nI k)), (19, .int (fk_b ((kq_A S a).any (fun t => decide (S 1 t = 2))))), (18, .int 0), (17, .int 0), (15, .long (pl_wds S (-1))), (13, .long (pl_thr S (nI t))), (11, .long (pl_thr S (-1))), (10, .int (pl_own (S 0 a))), (9, .int (S 0 a)), (8, .int 0), (7, .int to), (6, .int 0), (5, .int (nI a)), (4, .int (nI t)), (0, .ref (ad 0)), (2, .int y), (3, .int od), (1, .ref q)] := by rw [hw9] at hl; exact hl
                      refine lv_iload hx hb dL_locks_255 (lv_at hl 11 rfl) ?_
                      refine lv_if_ne (tgt := 305) hx hb dL_locks_257 (by decide) (fun c => absurd c (by decide)) (fun _ => ?_)
                      refine lv_iload hx hb dL_locks_260 (lv_at hl 0 rfl) ?_
                      refine lv_aload_n hx hb dL_locks_262 rfl (lv_at hl 14 rfl) ?_
                      refine lv_iload hx hb dL_locks_263 (lv_at hl 12 rfl) ?_
                      refine fk_callV (As := [.int (nI a)]) (rest := [.int (nI k)]) ⟨hx, hb, hml, hown, hts⟩ (kc_waiters l D ad cI cT cJ _ S a ha) (cwV 1 hts gL_locks_X2_waiters rfl rfl rfl (by decide +kernel) ⟨Nat.le_of_ble_eq_true rfl, Nat.le_of_ble_eq_true rfl⟩) (fk_rvK hK hP) hK hP hD hS hA rfl hl.1 rfl (Nat.le_of_ble_eq_true rfl) dL_locks_265 ⟨Nat.le_of_ble_eq_true rfl, Nat.le_of_ble_eq_true rfl⟩ (fun H locs hP hD hS => ?_)
                      refine W.eq (g2 := F0 m 268 ls [.int (kk_waiters S (nI a)), .int (nI k)]) rfl ?_
                      refine W.eq (g2 := F0 m 268 ls [.int (nI ((kq_A S a).length)), .int (nI k)]) (by rw [show (kk_waiters S (nI a)) = (nI ((kq_A S a).length)) from (kq_waiters _ _)]) ?_
                      refine lv_icmp_ge (tgt := 305) hx hb dL_locks_268 (by decide) (fun c_211 => ?_) (fun c_211 => absurd (nI_le (a := (kq_A S a).length) (b := k) (by omega) (by omega)) c_211)
                      rcases pl_own_cases (S 0 a) with ⟨hoe, how⟩ | ⟨o, ho8, hoe, how⟩ | ⟨o, ho8, ho9, hoe, how⟩
                      · have hl : lv_has ls 25 [(20, .int (nI k)), (19, .int (fk_b ((kq_A S a).any (fun t => decide (S 1 t = 2))))), (18, .int 0), (17, .int 0), (15, .long (pl_wds S (-1))), (13, .long (pl_thr S (nI t))), (11, .long (pl_thr S (-1))), (10, .int (-1)), (9, .int (S 0 a)), (8, .int 0), (7, .int to), (6, .int 0), (5, .int (nI a)), (4, .int (nI t)), (0, .ref (ad 0)), (2, .int y), (3, .int od), (1, .ref q)] := by rw [hoe] at hl; exact hl
                        refine lv_iload hx hb dL_locks_305 (lv_at hl 7 rfl) ?_
                        refine lv_bipush (v := 7) hx hb dL_locks_307 (by decide) ?_
                        refine lv_icmp_gt (tgt := 327) hx hb dL_locks_309 (by decide) (fun c => absurd c (by decide)) (fun _ => ?_)
                        refine lv_iload hx hb dL_locks_312 (lv_at hl 7 rfl) ?_
                        refine lv_if_lt (tgt := 331) hx hb dL_locks_314 (by decide) (fun _ => ?_) (fun c => absurd c (by decide))
                        refine lv_iconst (v := 0) hx hb dL_locks_331 (by decide) ?_
                        refine lv_istore (lv' := [(20, .int 0), (19, .int (fk_b ((kq_A S a).any (fun t => decide (S 1 t = 2))))), (18, .int 0), (17, .int 0), (15, .long (pl_wds S (-1))), (13, .long (pl_thr S (nI t))), (11, .long (pl_thr S (-1))), (10, .int (-1)), (9, .int (S 0 a)), (8, .int 0), (7, .int to), (6, .int 0), (5, .int (nI a)), (4, .int (nI t)), (0, .ref (ad 0)), (2, .int y), (3, .int od), (1, .ref q)]) hx hb dL_locks_332 hl (by decide) rfl (fun ls hl => ?_)
                        refine lv_aload_n hx hb dL_locks_334 rfl (lv_at hl 14 rfl) ?_
                        refine lv_iconst (v := 0) hx hb dL_locks_335 (by decide) ?_
                        refine lv_iload hx hb dL_locks_336 (lv_at hl 13 rfl) ?_
                        refine lv_iload hx hb dL_locks_338 (lv_at hl 12 rfl) ?_
                        refine lv_iload hx hb dL_locks_340 (lv_at hl 10 rfl) ?_
                        refine lv_iconst (v := 0) hx hb dL_locks_342 (by decide) ?_
                        refine fk_lcallS (As := [.ref (ad 0), .int 0, .int (nI t), .int (nI a), .int to, .int 0]) (rest := []) ⟨hx, hb, hml, hown, hts⟩ (Lx_lock_IS l D ad cI cT cJ _ S _ _ _ _ (fun X => kx_lock_4 l D ad cI cT cJ X S hst t ht a ha _ hbad hs0)) (vx_cwSW 6 hts gL_locks_L_acts rfl rfl rfl (by decide +kernel) ⟨Nat.le_of_ble_eq_true rfl, Nat.le_of_ble_eq_true rfl⟩) hK hP hD hS hA hZ hN rfl hl.1 rfl (Nat.le_of_ble_eq_true rfl) dL_locks_343 ⟨Nat.le_of_ble_eq_true rfl, Nat.le_of_ble_eq_true rfl⟩ (fun H locs hP hD hS => ?_)
                        refine W.eq (g2 := F0 m 346 ls [.int (-2147483203)]) rfl ?_
                        refine lv_istore (lv' := [(21, .int (-2147483203)), (20, .int 0), (19, .int (fk_b ((kq_A S a).any (fun t => decide (S 1 t = 2))))), (18, .int 0), (17, .int 0), (15, .long (pl_wds S (-1))), (13, .long (pl_thr S (nI t))), (11, .long (pl_thr S (-1))), (10, .int (-1)), (9, .int (S 0 a)), (8, .int 0), (7, .int to), (6, .int 0), (5, .int (nI a)), (4, .int (nI t)), (0, .ref (ad 0)), (2, .int y), (3, .int od), (1, .ref q)]) hx hb dL_locks_346 hl (by decide) rfl (fun ls hl => ?_)
                        refine lv_iload hx hb dL_locks_348 (lv_at hl 12 rfl) ?_
                        refine lv_if_ne (tgt := 363) hx hb dL_locks_350 (by decide) (fun c => absurd c (by decide)) (fun _ => ?_)
                        refine lv_iload hx hb dL_locks_353 (lv_at hl 10 rfl) ?_
                        refine lv_if_ne (tgt := 363) hx hb dL_locks_355 (by decide) (fun c => absurd c (by decide)) (fun _ => ?_)
                        refine lv_iload hx hb dL_locks_358 (lv_at hl 4 rfl) ?_
                        refine lv_if_ne (tgt := 418) hx hb dL_locks_360 (by decide) (fun c => absurd c (by decide)) (fun _ => ?_)
                        refine lv_iload hx hb dL_locks_363 (lv_at hl 0 rfl) ?_
                        refine lv_iload hx hb dL_locks_365 (lv_at hl 12 rfl) ?_
                        refine lv_if_eq (tgt := 375) hx hb dL_locks_367 (by decide) (fun _ => ?_) (fun c => absurd c (by decide))
                        refine lv_iload hx hb dL_locks_375 (lv_at hl 10 rfl) ?_
                        refine lv_if_eq (tgt := 385) hx hb dL_locks_377 (by decide) (fun _ => ?_) (fun c => absurd c (by decide))
                        refine lv_ldc (own := RL) (v := (-2147483203)) hx hb hown (hts (.constant RL 23 (-2147483203)) (List.mem_of_getElem? (i := 3) rfl)) dL_locks_385 ?_
                        refine lv_icmp_ne (tgt := 416) hx hb dL_locks_387 (by decide) (fun c => absurd c (by decide)) (fun _ => ?_)
                        refine lv_aload_n hx hb dL_locks_390 rfl (lv_at hl 15 rfl) ?_
                        refine lv_iconst (v := (-1)) hx hb dL_locks_391 (by decide) ?_
                        refine fk_callS (As := [.ref (ad 0), .int (-1)]) (rest := []) ⟨hx, hb, hml, hown, hts⟩ (kl_threads l D ad cI cT cJ _ S hG.1.sz hG.1.J (-1)) (va_cwS 2 hts gL_locks_L_threads rfl rfl rfl (by decide +kernel) ⟨Nat.le_of_ble_eq_true rfl, Nat.le_of_ble_eq_true rfl⟩) hK hP hD hS hA rfl hl.1 rfl (Nat.le_of_ble_eq_true rfl) dL_locks_392 ⟨Nat.le_of_ble_eq_true rfl, Nat.le_of_ble_eq_true rfl⟩ (fun H locs hP hD hS => ?_)
                        refine W.eq (g2 := F0 m 395 ls [.long (pl_thr S (-1))]) rfl ?_
                        refine lv_lload hx hb dL_locks_395 (lv_at hl 7 rfl) ?_
                        refine W.lcmp hx hb dL_locks_397 ?_
                        refine W.eq (g2 := F0 m 398 ls [.int 0]) (by rw [fk_cmp_self]) ?_
                        refine lv_if_ne (tgt := 416) hx hb dL_locks_398 (by decide) (fun c => absurd c (by decide)) (fun _ => ?_)
                        refine lv_aload_n hx hb dL_locks_401 rfl (lv_at hl 15 rfl) ?_
                        refine lv_iconst (v := (-1)) hx hb dL_locks_402 (by decide) ?_
                        refine fk_callS (As := [.ref (ad 0), .int (-1)]) (rest := []) ⟨hx, hb, hml, hown, hts⟩ (kl_words l D ad cI cT cJ _ S (-1)) (va_cwS 2 hts gL_locks_L_words rfl rfl rfl (by decide +kernel) ⟨Nat.le_of_ble_eq_true rfl, Nat.le_of_ble_eq_true rfl⟩) hK hP hD hS hA rfl hl.1 rfl (Nat.le_of_ble_eq_true rfl) dL_locks_403 ⟨Nat.le_of_ble_eq_true rfl, Nat.le_of_ble_eq_true rfl⟩ (fun H locs hP hD hS => ?_)
                        refine W.eq (g2 := F0 m 406 ls [.long (pl_wds S (-1))]) rfl ?_
                        refine lv_lload hx hb dL_locks_406 (lv_at hl 5 rfl) ?_
                        refine W.lcmp hx hb dL_locks_408 ?_
                        refine W.eq (g2 := F0 m 409 ls [.int 0]) (by rw [fk_cmp_self]) ?_
                        refine lv_if_ne (tgt := 416) hx hb dL_locks_409 (by decide) (fun c => absurd c (by decide)) (fun _ => ?_)
                        refine lv_iconst (v := 1) hx hb dL_locks_412 (by decide) ?_
                        refine lv_goto (tgt := 417) hx hb dL_locks_413 (by decide) ?_
                        exact fk_zretE (Nat.le_of_ble_eq_true rfl) (Nat.le_of_ble_eq_true rfl) hx hb hr hlocks hP hK hD hS rfl ⟨rfl, _, _, rfl, (hG).wk (by omega)⟩ dL_locks_417
                      · have hl : lv_has ls 25 [(20, .int (nI k)), (19, .int (fk_b ((kq_A S a).any (fun t => decide (S 1 t = 2))))), (18, .int 0), (17, .int 0), (15, .long (pl_wds S (-1))), (13, .long (pl_thr S (nI t))), (11, .long (pl_thr S (-1))), (10, .int (nI o)), (9, .int (S 0 a)), (8, .int 0), (7, .int to), (6, .int 0), (5, .int (nI a)), (4, .int (nI t)), (0, .ref (ad 0)), (2, .int y), (3, .int od), (1, .ref q)] := by rw [hoe] at hl; exact hl
                        by_cases hod : S 1 o = 3
                        · refine lv_iload hx hb dL_locks_305 (lv_at hl 7 rfl) ?_
                          refine lv_bipush (v := 7) hx hb dL_locks_307 (by decide) ?_
                          refine lv_icmp_gt (tgt := 327) hx hb dL_locks_309 (by decide) (fun c_222 => absurd c_222 (nI_nlt (a := 7) (b := o) (by omega) (by omega))) (fun c_222 => ?_)
                          refine lv_iload hx hb dL_locks_312 (lv_at hl 7 rfl) ?_
                          refine lv_if_lt (tgt := 331) hx hb dL_locks_314 (by decide) (fun c_223 => absurd c_223 (nI_pos (by omega))) (fun c_223 => ?_)
                          refine lv_aload_n hx hb dL_locks_317 rfl (lv_at hl 14 rfl) ?_
                          refine lv_iload hx hb dL_locks_318 (lv_at hl 7 rfl) ?_
                          refine fk_callV (As := [.int (nI o)]) (rest := []) ⟨hx, hb, hml, hown, hts⟩ (kc_stateOf l D ad cI cT cJ _ S o ho8) (cwV 1 hts gL_locks_X2_stateOf rfl rfl rfl (by decide +kernel) ⟨Nat.le_of_ble_eq_true rfl, Nat.le_of_ble_eq_true rfl⟩) (fk_rvK hK hP) hK hP hD hS hA rfl hl.1 rfl (Nat.le_of_ble_eq_true rfl) dL_locks_320 ⟨Nat.le_of_ble_eq_true rfl, Nat.le_of_ble_eq_true rfl⟩ (fun H locs hP hD hS => ?_)
                          refine W.eq (g2 := F0 m 323 ls [.int (S 1 o)]) rfl ?_
                          refine W.eq (g2 := F0 m 323 ls [.int 3]) (by rw [show (S 1 o) = (3 : Int32) from hod]) ?_
                          refine lv_iconst (v := 3) hx hb dL_locks_323 (by decide) ?_
                          refine lv_icmp_ne (tgt := 331) hx hb dL_locks_324 (by decide) (fun c => absurd c (by decide)) (fun _ => ?_)
                          refine lv_iconst (v := 1) hx hb dL_locks_327 (by decide) ?_
                          refine lv_goto (tgt := 332) hx hb dL_locks_328 (by decide) ?_
                          refine lv_istore (lv' := [(20, .int 1), (19, .int (fk_b ((kq_A S a).any (fun t => decide (S 1 t = 2))))), (18, .int 0), (17, .int 0), (15, .long (pl_wds S (-1))), (13, .long (pl_thr S (nI t))), (11, .long (pl_thr S (-1))), (10, .int (nI o)), (9, .int (S 0 a)), (8, .int 0), (7, .int to), (6, .int 0), (5, .int (nI a)), (4, .int (nI t)), (0, .ref (ad 0)), (2, .int y), (3, .int od), (1, .ref q)]) hx hb dL_locks_332 hl (by decide) rfl (fun ls hl => ?_)
                          refine lv_aload_n hx hb dL_locks_334 rfl (lv_at hl 14 rfl) ?_
                          refine lv_iconst (v := 0) hx hb dL_locks_335 (by decide) ?_
                          refine lv_iload hx hb dL_locks_336 (lv_at hl 13 rfl) ?_
                          refine lv_iload hx hb dL_locks_338 (lv_at hl 12 rfl) ?_
                          refine lv_iload hx hb dL_locks_340 (lv_at hl 10 rfl) ?_
                          refine lv_iconst (v := 0) hx hb dL_locks_342 (by decide) ?_
                          refine fk_lcallS (As := [.ref (ad 0), .int 0, .int (nI t), .int (nI a), .int to, .int 0]) (rest := []) ⟨hx, hb, hml, hown, hts⟩ (Lx_lock_IS l D ad cI cT cJ _ S _ _ _ _ (fun X => kx_lock_4 l D ad cI cT cJ X S hst t ht a ha _ hbad hs0)) (vx_cwSW 6 hts gL_locks_L_acts rfl rfl rfl (by decide +kernel) ⟨Nat.le_of_ble_eq_true rfl, Nat.le_of_ble_eq_true rfl⟩) hK hP hD hS hA hZ hN rfl hl.1 rfl (Nat.le_of_ble_eq_true rfl) dL_locks_343 ⟨Nat.le_of_ble_eq_true rfl, Nat.le_of_ble_eq_true rfl⟩ (fun H locs hP hD hS => ?_)
                          refine W.eq (g2 := F0 m 346 ls [.int (-2147483203)]) rfl ?_
                          refine lv_istore (lv' := [(21, .int (-2147483203)), (20, .int 1), (19, .int (fk_b ((kq_A S a).any (fun t => decide (S 1 t = 2))))), (18, .int 0), (17, .int 0), (15, .long (pl_wds S (-1))), (13, .long (pl_thr S (nI t))), (11, .long (pl_thr S (-1))), (10, .int (nI o)), (9, .int (S 0 a)), (8, .int 0), (7, .int to), (6, .int 0), (5, .int (nI a)), (4, .int (nI t)), (0, .ref (ad 0)), (2, .int y), (3, .int od), (1, .ref q)]) hx hb dL_locks_346 hl (by decide) rfl (fun ls hl => ?_)
                          refine lv_iload hx hb dL_locks_348 (lv_at hl 12 rfl) ?_
                          refine lv_if_ne (tgt := 363) hx hb dL_locks_350 (by decide) (fun c => absurd c (by decide)) (fun _ => ?_)
                          refine lv_iload hx hb dL_locks_353 (lv_at hl 10 rfl) ?_
                          refine lv_if_ne (tgt := 363) hx hb dL_locks_355 (by decide) (fun c => absurd c (by decide)) (fun _ => ?_)
                          refine lv_iload hx hb dL_locks_358 (lv_at hl 4 rfl) ?_
                          refine lv_if_ne (tgt := 418) hx hb dL_locks_360 (by decide) (fun c => absurd c (by decide)) (fun _ => ?_)
                          refine lv_iload hx hb dL_locks_363 (lv_at hl 0 rfl) ?_
                          refine lv_iload hx hb dL_locks_365 (lv_at hl 12 rfl) ?_
                          refine lv_if_eq (tgt := 375) hx hb dL_locks_367 (by decide) (fun _ => ?_) (fun c => absurd c (by decide))
                          refine lv_iload hx hb dL_locks_375 (lv_at hl 10 rfl) ?_
                          refine lv_if_eq (tgt := 385) hx hb dL_locks_377 (by decide) (fun _ => ?_) (fun c => absurd c (by decide))
                          refine lv_ldc (own := RL) (v := (-2147483203)) hx hb hown (hts (.constant RL 23 (-2147483203)) (List.mem_of_getElem? (i := 3) rfl)) dL_locks_385 ?_
                          refine lv_icmp_ne (tgt := 416) hx hb dL_locks_387 (by decide) (fun c => absurd c (by decide)) (fun _ => ?_)
                          refine lv_aload_n hx hb dL_locks_390 rfl (lv_at hl 15 rfl) ?_
                          refine lv_iconst (v := (-1)) hx hb dL_locks_391 (by decide) ?_
                          refine fk_callS (As := [.ref (ad 0), .int (-1)]) (rest := []) ⟨hx, hb, hml, hown, hts⟩ (kl_threads l D ad cI cT cJ _ S hG.1.sz hG.1.J (-1)) (va_cwS 2 hts gL_locks_L_threads rfl rfl rfl (by decide +kernel) ⟨Nat.le_of_ble_eq_true rfl, Nat.le_of_ble_eq_true rfl⟩) hK hP hD hS hA rfl hl.1 rfl (Nat.le_of_ble_eq_true rfl) dL_locks_392 ⟨Nat.le_of_ble_eq_true rfl, Nat.le_of_ble_eq_true rfl⟩ (fun H locs hP hD hS => ?_)
                          refine W.eq (g2 := F0 m 395 ls [.long (pl_thr S (-1))]) rfl ?_
                          refine lv_lload hx hb dL_locks_395 (lv_at hl 7 rfl) ?_
                          refine W.lcmp hx hb dL_locks_397 ?_
                          refine W.eq (g2 := F0 m 398 ls [.int 0]) (by rw [fk_cmp_self]) ?_
                          refine lv_if_ne (tgt := 416) hx hb dL_locks_398 (by decide) (fun c => absurd c (by decide)) (fun _ => ?_)
                          refine lv_aload_n hx hb dL_locks_401 rfl (lv_at hl 15 rfl) ?_
                          refine lv_iconst (v := (-1)) hx hb dL_locks_402 (by decide) ?_
                          refine fk_callS (As := [.ref (ad 0), .int (-1)]) (rest := []) ⟨hx, hb, hml, hown, hts⟩ (kl_words l D ad cI cT cJ _ S (-1)) (va_cwS 2 hts gL_locks_L_words rfl rfl rfl (by decide +kernel) ⟨Nat.le_of_ble_eq_true rfl, Nat.le_of_ble_eq_true rfl⟩) hK hP hD hS hA rfl hl.1 rfl (Nat.le_of_ble_eq_true rfl) dL_locks_403 ⟨Nat.le_of_ble_eq_true rfl, Nat.le_of_ble_eq_true rfl⟩ (fun H locs hP hD hS => ?_)
                          refine W.eq (g2 := F0 m 406 ls [.long (pl_wds S (-1))]) rfl ?_
                          refine lv_lload hx hb dL_locks_406 (lv_at hl 5 rfl) ?_
                          refine W.lcmp hx hb dL_locks_408 ?_
                          refine W.eq (g2 := F0 m 409 ls [.int 0]) (by rw [fk_cmp_self]) ?_
                          refine lv_if_ne (tgt := 416) hx hb dL_locks_409 (by decide) (fun c => absurd c (by decide)) (fun _ => ?_)
                          refine lv_iconst (v := 1) hx hb dL_locks_412 (by decide) ?_
                          refine lv_goto (tgt := 417) hx hb dL_locks_413 (by decide) ?_
                          exact fk_zretE (Nat.le_of_ble_eq_true rfl) (Nat.le_of_ble_eq_true rfl) hx hb hr hlocks hP hK hD hS rfl ⟨rfl, _, _, rfl, (hG).wk (by omega)⟩ dL_locks_417
                        · refine lv_iload hx hb dL_locks_305 (lv_at hl 7 rfl) ?_
                          refine lv_bipush (v := 7) hx hb dL_locks_307 (by decide) ?_
                          refine lv_icmp_gt (tgt := 327) hx hb dL_locks_309 (by decide) (fun c_233 => absurd c_233 (nI_nlt (a := 7) (b := o) (by omega) (by omega))) (fun c_233 => ?_)
                          refine lv_iload hx hb dL_locks_312 (lv_at hl 7 rfl) ?_
                          refine lv_if_lt (tgt := 331) hx hb dL_locks_314 (by decide) (fun c_234 => absurd c_234 (nI_pos (by omega))) (fun c_234 => ?_)
                          refine lv_aload_n hx hb dL_locks_317 rfl (lv_at hl 14 rfl) ?_
                          refine lv_iload hx hb dL_locks_318 (lv_at hl 7 rfl) ?_
                          refine fk_callV (As := [.int (nI o)]) (rest := []) ⟨hx, hb, hml, hown, hts⟩ (kc_stateOf l D ad cI cT cJ _ S o ho8) (cwV 1 hts gL_locks_X2_stateOf rfl rfl rfl (by decide +kernel) ⟨Nat.le_of_ble_eq_true rfl, Nat.le_of_ble_eq_true rfl⟩) (fk_rvK hK hP) hK hP hD hS hA rfl hl.1 rfl (Nat.le_of_ble_eq_true rfl) dL_locks_320 ⟨Nat.le_of_ble_eq_true rfl, Nat.le_of_ble_eq_true rfl⟩ (fun H locs hP hD hS => ?_)
                          refine W.eq (g2 := F0 m 323 ls [.int (S 1 o)]) rfl ?_
                          refine lv_iconst (v := 3) hx hb dL_locks_323 (by decide) ?_
                          refine lv_icmp_ne (tgt := 331) hx hb dL_locks_324 (by decide) (fun c_235 => ?_) (fun c9 => absurd c9 hod)
                          refine lv_iconst (v := 0) hx hb dL_locks_331 (by decide) ?_
                          refine lv_istore (lv' := [(20, .int 0), (19, .int (fk_b ((kq_A S a).any (fun t => decide (S 1 t = 2))))), (18, .int 0), (17, .int 0), (15, .long (pl_wds S (-1))), (13, .long (pl_thr S (nI t))), (11, .long (pl_thr S (-1))), (10, .int (nI o)), (9, .int (S 0 a)), (8, .int 0), (7, .int to), (6, .int 0), (5, .int (nI a)), (4, .int (nI t)), (0, .ref (ad 0)), (2, .int y), (3, .int od), (1, .ref q)]) hx hb dL_locks_332 hl (by decide) rfl (fun ls hl => ?_)
                          refine lv_aload_n hx hb dL_locks_334 rfl (lv_at hl 14 rfl) ?_
                          refine lv_iconst (v := 0) hx hb dL_locks_335 (by decide) ?_
                          refine lv_iload hx hb dL_locks_336 (lv_at hl 13 rfl) ?_
                          refine lv_iload hx hb dL_locks_338 (lv_at hl 12 rfl) ?_
                          refine lv_iload hx hb dL_locks_340 (lv_at hl 10 rfl) ?_
                          refine lv_iconst (v := 0) hx hb dL_locks_342 (by decide) ?_
                          refine fk_lcallS (As := [.ref (ad 0), .int 0, .int (nI t), .int (nI a), .int to, .int 0]) (rest := []) ⟨hx, hb, hml, hown, hts⟩ (Lx_lock_IS l D ad cI cT cJ _ S _ _ _ _ (fun X => kx_lock_4 l D ad cI cT cJ X S hst t ht a ha _ hbad hs0)) (vx_cwSW 6 hts gL_locks_L_acts rfl rfl rfl (by decide +kernel) ⟨Nat.le_of_ble_eq_true rfl, Nat.le_of_ble_eq_true rfl⟩) hK hP hD hS hA hZ hN rfl hl.1 rfl (Nat.le_of_ble_eq_true rfl) dL_locks_343 ⟨Nat.le_of_ble_eq_true rfl, Nat.le_of_ble_eq_true rfl⟩ (fun H locs hP hD hS => ?_)
                          refine W.eq (g2 := F0 m 346 ls [.int (-2147483203)]) rfl ?_
                          refine lv_istore (lv' := [(21, .int (-2147483203)), (20, .int 0), (19, .int (fk_b ((kq_A S a).any (fun t => decide (S 1 t = 2))))), (18, .int 0), (17, .int 0), (15, .long (pl_wds S (-1))), (13, .long (pl_thr S (nI t))), (11, .long (pl_thr S (-1))), (10, .int (nI o)), (9, .int (S 0 a)), (8, .int 0), (7, .int to), (6, .int 0), (5, .int (nI a)), (4, .int (nI t)), (0, .ref (ad 0)), (2, .int y), (3, .int od), (1, .ref q)]) hx hb dL_locks_346 hl (by decide) rfl (fun ls hl => ?_)
                          refine lv_iload hx hb dL_locks_348 (lv_at hl 12 rfl) ?_
                          refine lv_if_ne (tgt := 363) hx hb dL_locks_350 (by decide) (fun c => absurd c (by decide)) (fun _ => ?_)
                          refine lv_iload hx hb dL_locks_353 (lv_at hl 10 rfl) ?_
                          refine lv_if_ne (tgt := 363) hx hb dL_locks_355 (by decide) (fun c => absurd c (by decide)) (fun _ => ?_)
                          refine lv_iload hx hb dL_locks_358 (lv_at hl 4 rfl) ?_
                          refine lv_if_ne (tgt := 418) hx hb dL_locks_360 (by decide) (fun c => absurd c (by decide)) (fun _ => ?_)
                          refine lv_iload hx hb dL_locks_363 (lv_at hl 0 rfl) ?_
                          refine lv_iload hx hb dL_locks_365 (lv_at hl 12 rfl) ?_
                          refine lv_if_eq (tgt := 375) hx hb dL_locks_367 (by decide) (fun _ => ?_) (fun c => absurd c (by decide))
                          refine lv_iload hx hb dL_locks_375 (lv_at hl 10 rfl) ?_
                          refine lv_if_eq (tgt := 385) hx hb dL_locks_377 (by decide) (fun _ => ?_) (fun c => absurd c (by decide))
                          refine lv_ldc (own := RL) (v := (-2147483203)) hx hb hown (hts (.constant RL 23 (-2147483203)) (List.mem_of_getElem? (i := 3) rfl)) dL_locks_385 ?_
                          refine lv_icmp_ne (tgt := 416) hx hb dL_locks_387 (by decide) (fun c => absurd c (by decide)) (fun _ => ?_)
                          refine lv_aload_n hx hb dL_locks_390 rfl (lv_at hl 15 rfl) ?_
                          refine lv_iconst (v := (-1)) hx hb dL_locks_391 (by decide) ?_
                          refine fk_callS (As := [.ref (ad 0), .int (-1)]) (rest := []) ⟨hx, hb, hml, hown, hts⟩ (kl_threads l D ad cI cT cJ _ S hG.1.sz hG.1.J (-1)) (va_cwS 2 hts gL_locks_L_threads rfl rfl rfl (by decide +kernel) ⟨Nat.le_of_ble_eq_true rfl, Nat.le_of_ble_eq_true rfl⟩) hK hP hD hS hA rfl hl.1 rfl (Nat.le_of_ble_eq_true rfl) dL_locks_392 ⟨Nat.le_of_ble_eq_true rfl, Nat.le_of_ble_eq_true rfl⟩ (fun H locs hP hD hS => ?_)
                          refine W.eq (g2 := F0 m 395 ls [.long (pl_thr S (-1))]) rfl ?_
                          refine lv_lload hx hb dL_locks_395 (lv_at hl 7 rfl) ?_
                          refine W.lcmp hx hb dL_locks_397 ?_
                          refine W.eq (g2 := F0 m 398 ls [.int 0]) (by rw [fk_cmp_self]) ?_
                          refine lv_if_ne (tgt := 416) hx hb dL_locks_398 (by decide) (fun c => absurd c (by decide)) (fun _ => ?_)
                          refine lv_aload_n hx hb dL_locks_401 rfl (lv_at hl 15 rfl) ?_
                          refine lv_iconst (v := (-1)) hx hb dL_locks_402 (by decide) ?_
                          refine fk_callS (As := [.ref (ad 0), .int (-1)]) (rest := []) ⟨hx, hb, hml, hown, hts⟩ (kl_words l D ad cI cT cJ _ S (-1)) (va_cwS 2 hts gL_locks_L_words rfl rfl rfl (by decide +kernel) ⟨Nat.le_of_ble_eq_true rfl, Nat.le_of_ble_eq_true rfl⟩) hK hP hD hS hA rfl hl.1 rfl (Nat.le_of_ble_eq_true rfl) dL_locks_403 ⟨Nat.le_of_ble_eq_true rfl, Nat.le_of_ble_eq_true rfl⟩ (fun H locs hP hD hS => ?_)
                          refine W.eq (g2 := F0 m 406 ls [.long (pl_wds S (-1))]) rfl ?_
                          refine lv_lload hx hb dL_locks_406 (lv_at hl 5 rfl) ?_
                          refine W.lcmp hx hb dL_locks_408 ?_
                          refine W.eq (g2 := F0 m 409 ls [.int 0]) (by rw [fk_cmp_self]) ?_
                          refine lv_if_ne (tgt := 416) hx hb dL_locks_409 (by decide) (fun c => absurd c (by decide)) (fun _ => ?_)
                          refine lv_iconst (v := 1) hx hb dL_locks_412 (by decide) ?_
                          refine lv_goto (tgt := 417) hx hb dL_locks_413 (by decide) ?_
                          exact fk_zretE (Nat.le_of_ble_eq_true rfl) (Nat.le_of_ble_eq_true rfl) hx hb hr hlocks hP hK hD hS rfl ⟨rfl, _, _, rfl, (hG).wk (by omega)⟩ dL_locks_417
                      · have hl : lv_has ls 25 [(20, .int (nI k)), (19, .int (fk_b ((kq_A S a).any (fun t => decide (S 1 t = 2))))), (18, .int 0), (17, .int 0), (15, .long (pl_wds S (-1))), (13, .long (pl_thr S (nI t))), (11, .long (pl_thr S (-1))), (10, .int (nI o)), (9, .int (S 0 a)), (8, .int 0), (7, .int to), (6, .int 0), (5, .int (nI a)), (4, .int (nI t)), (0, .ref (ad 0)), (2, .int y), (3, .int od), (1, .ref q)] := by rw [hoe] at hl; exact hl
                        refine lv_iload hx hb dL_locks_305 (lv_at hl 7 rfl) ?_
                        refine lv_bipush (v := 7) hx hb dL_locks_307 (by decide) ?_
                        refine lv_icmp_gt (tgt := 327) hx hb dL_locks_309 (by decide) (fun c_244 => ?_) (fun c9 => absurd (nI_lt (a := 7) (b := o) (by omega) (by omega)) c9)
                        refine lv_iconst (v := 1) hx hb dL_locks_327 (by decide) ?_
                        refine lv_goto (tgt := 332) hx hb dL_locks_328 (by decide) ?_
                        refine lv_istore (lv' := [(20, .int 1), (19, .int (fk_b ((kq_A S a).any (fun t => decide (S 1 t = 2))))), (18, .int 0), (17, .int 0), (15, .long (pl_wds S (-1))), (13, .long (pl_thr S (nI t))), (11, .long (pl_thr S (-1))), (10, .int (nI o)), (9, .int (S 0 a)), (8, .int 0), (7, .int to), (6, .int 0), (5, .int (nI a)), (4, .int (nI t)), (0, .ref (ad 0)), (2, .int y), (3, .int od), (1, .ref q)]) hx hb dL_locks_332 hl (by decide) rfl (fun ls hl => ?_)
                        refine lv_aload_n hx hb dL_locks_334 rfl (lv_at hl 14 rfl) ?_
                        refine lv_iconst (v := 0) hx hb dL_locks_335 (by decide) ?_
                        refine lv_iload hx hb dL_locks_336 (lv_at hl 13 rfl) ?_
                        refine lv_iload hx hb dL_locks_338 (lv_at hl 12 rfl) ?_
                        refine lv_iload hx hb dL_locks_340 (lv_at hl 10 rfl) ?_
                        refine lv_iconst (v := 0) hx hb dL_locks_342 (by decide) ?_
                        refine fk_lcallS (As := [.ref (ad 0), .int 0, .int (nI t), .int (nI a), .int to, .int 0]) (rest := []) ⟨hx, hb, hml, hown, hts⟩ (Lx_lock_IS l D ad cI cT cJ _ S _ _ _ _ (fun X => kx_lock_4 l D ad cI cT cJ X S hst t ht a ha _ hbad hs0)) (vx_cwSW 6 hts gL_locks_L_acts rfl rfl rfl (by decide +kernel) ⟨Nat.le_of_ble_eq_true rfl, Nat.le_of_ble_eq_true rfl⟩) hK hP hD hS hA hZ hN rfl hl.1 rfl (Nat.le_of_ble_eq_true rfl) dL_locks_343 ⟨Nat.le_of_ble_eq_true rfl, Nat.le_of_ble_eq_true rfl⟩ (fun H locs hP hD hS => ?_)
                        refine W.eq (g2 := F0 m 346 ls [.int (-2147483203)]) rfl ?_
                        refine lv_istore (lv' := [(21, .int (-2147483203)), (20, .int 1), (19, .int (fk_b ((kq_A S a).any (fun t => decide (S 1 t = 2))))), (18, .int 0), (17, .int 0), (15, .long (pl_wds S (-1))), (13, .long (pl_thr S (nI t))), (11, .long (pl_thr S (-1))), (10, .int (nI o)), (9, .int (S 0 a)), (8, .int 0), (7, .int to), (6, .int 0), (5, .int (nI a)), (4, .int (nI t)), (0, .ref (ad 0)), (2, .int y), (3, .int od), (1, .ref q)]) hx hb dL_locks_346 hl (by decide) rfl (fun ls hl => ?_)
                        refine lv_iload hx hb dL_locks_348 (lv_at hl 12 rfl) ?_
                        refine lv_if_ne (tgt := 363) hx hb dL_locks_350 (by decide) (fun c => absurd c (by decide)) (fun _ => ?_)
                        refine lv_iload hx hb dL_locks_353 (lv_at hl 10 rfl) ?_
                        refine lv_if_ne (tgt := 363) hx hb dL_locks_355 (by decide) (fun c => absurd c (by decide)) (fun _ => ?_)
                        refine lv_iload hx hb dL_locks_358 (lv_at hl 4 rfl) ?_
                        refine lv_if_ne (tgt := 418) hx hb dL_locks_360 (by decide) (fun c => absurd c (by decide)) (fun _ => ?_)
                        refine lv_iload hx hb dL_locks_363 (lv_at hl 0 rfl) ?_
                        refine lv_iload hx hb dL_locks_365 (lv_at hl 12 rfl) ?_
                        refine lv_if_eq (tgt := 375) hx hb dL_locks_367 (by decide) (fun _ => ?_) (fun c => absurd c (by decide))
                        refine lv_iload hx hb dL_locks_375 (lv_at hl 10 rfl) ?_
                        refine lv_if_eq (tgt := 385) hx hb dL_locks_377 (by decide) (fun _ => ?_) (fun c => absurd c (by decide))
                        refine lv_ldc (own := RL) (v := (-2147483203)) hx hb hown (hts (.constant RL 23 (-2147483203)) (List.mem_of_getElem? (i := 3) rfl)) dL_locks_385 ?_
                        refine lv_icmp_ne (tgt := 416) hx hb dL_locks_387 (by decide) (fun c => absurd c (by decide)) (fun _ => ?_)
                        refine lv_aload_n hx hb dL_locks_390 rfl (lv_at hl 15 rfl) ?_
                        refine lv_iconst (v := (-1)) hx hb dL_locks_391 (by decide) ?_
                        refine fk_callS (As := [.ref (ad 0), .int (-1)]) (rest := []) ⟨hx, hb, hml, hown, hts⟩ (kl_threads l D ad cI cT cJ _ S hG.1.sz hG.1.J (-1)) (va_cwS 2 hts gL_locks_L_threads rfl rfl rfl (by decide +kernel) ⟨Nat.le_of_ble_eq_true rfl, Nat.le_of_ble_eq_true rfl⟩) hK hP hD hS hA rfl hl.1 rfl (Nat.le_of_ble_eq_true rfl) dL_locks_392 ⟨Nat.le_of_ble_eq_true rfl, Nat.le_of_ble_eq_true rfl⟩ (fun H locs hP hD hS => ?_)
                        refine W.eq (g2 := F0 m 395 ls [.long (pl_thr S (-1))]) rfl ?_
                        refine lv_lload hx hb dL_locks_395 (lv_at hl 7 rfl) ?_
                        refine W.lcmp hx hb dL_locks_397 ?_
                        refine W.eq (g2 := F0 m 398 ls [.int 0]) (by rw [fk_cmp_self]) ?_
                        refine lv_if_ne (tgt := 416) hx hb dL_locks_398 (by decide) (fun c => absurd c (by decide)) (fun _ => ?_)
                        refine lv_aload_n hx hb dL_locks_401 rfl (lv_at hl 15 rfl) ?_
                        refine lv_iconst (v := (-1)) hx hb dL_locks_402 (by decide) ?_
                        refine fk_callS (As := [.ref (ad 0), .int (-1)]) (rest := []) ⟨hx, hb, hml, hown, hts⟩ (kl_words l D ad cI cT cJ _ S (-1)) (va_cwS 2 hts gL_locks_L_words rfl rfl rfl (by decide +kernel) ⟨Nat.le_of_ble_eq_true rfl, Nat.le_of_ble_eq_true rfl⟩) hK hP hD hS hA rfl hl.1 rfl (Nat.le_of_ble_eq_true rfl) dL_locks_403 ⟨Nat.le_of_ble_eq_true rfl, Nat.le_of_ble_eq_true rfl⟩ (fun H locs hP hD hS => ?_)
                        refine W.eq (g2 := F0 m 406 ls [.long (pl_wds S (-1))]) rfl ?_
                        refine lv_lload hx hb dL_locks_406 (lv_at hl 5 rfl) ?_
                        refine W.lcmp hx hb dL_locks_408 ?_
                        refine W.eq (g2 := F0 m 409 ls [.int 0]) (by rw [fk_cmp_self]) ?_
                        refine lv_if_ne (tgt := 416) hx hb dL_locks_409 (by decide) (fun c => absurd c (by decide)) (fun _ => ?_)
                        refine lv_iconst (v := 1) hx hb dL_locks_412 (by decide) ?_
                        refine lv_goto (tgt := 417) hx hb dL_locks_413 (by decide) ?_
                        exact fk_zretE (Nat.le_of_ble_eq_true rfl) (Nat.le_of_ble_eq_true rfl) hx hb hr hlocks hP hK hD hS rfl ⟨rfl, _, _, rfl, (hG).wk (by omega)⟩ dL_locks_417
                    | succ n1 ih1 =>
                      intro k w hk hw H locs ls hP hD hS hl
                      have h8 := kq_A8 S a
                      obtain ⟨u, hgu, hdu⟩ := kq_step hk
                      have hu9 := kq_A_lt hgu
                      refine lv_iload hx hb dL_locks_255 (lv_at hl 11 rfl) ?_
                      refine lv_if_ne (tgt := 305) hx hb dL_locks_257 (by decide) (fun c => absurd c (by decide)) (fun _ => ?_)
                      refine lv_iload hx hb dL_locks_260 (lv_at hl 0 rfl) ?_
                      refine lv_aload_n hx hb dL_locks_262 rfl (lv_at hl 14 rfl) ?_
                      refine lv_iload hx hb dL_locks_263 (lv_at hl 12 rfl) ?_
                      refine fk_callV (As := [.int (nI a)]) (rest := [.int (nI k)]) ⟨hx, hb, hml, hown, hts⟩ (kc_waiters l D ad cI cT cJ _ S a ha) (cwV 1 hts gL_locks_X2_waiters rfl rfl rfl (by decide +kernel) ⟨Nat.le_of_ble_eq_true rfl, Nat.le_of_ble_eq_true rfl⟩) (fk_rvK hK hP) hK hP hD hS hA rfl hl.1 rfl (Nat.le_of_ble_eq_true rfl) dL_locks_265 ⟨Nat.le_of_ble_eq_true rfl, Nat.le_of_ble_eq_true rfl⟩ (fun H locs hP hD hS => ?_)
                      refine W.eq (g2 := F0 m 268 ls [.int (kk_waiters S (nI a)), .int (nI k)]) rfl ?_
                      refine W.eq (g2 := F0 m 268 ls [.int (nI ((kq_A S a).length)), .int (nI k)]) (by rw [show (kk_waiters S (nI a)) = (nI ((kq_A S a).length)) from (kq_waiters _ _)]) ?_
                      refine lv_icmp_ge (tgt := 305) hx hb dL_locks_268 (by decide) (fun c_254 => absurd c_254 (nI_ge (a := k) (b := (kq_A S a).length) (by omega) (by omega))) (fun c_254 => ?_)
                      rcases Bool.eq_false_or_eq_true w with rfl | rfl
                      · have hl : lv_has ls 25 [(20, .int (nI k)), (19, .int 1), (18, .int 0), (17, .int 0), (15, .long (pl_wds S (-1))), (13, .long (pl_thr S (nI t))), (11, .long (pl_thr S (-1))), (10, .int (pl_own (S 0 a))), (9, .int (S 0 a)), (8, .int 0), (7, .int to), (6, .int 0), (5, .int (nI a)), (4, .int (nI t)), (0, .ref (ad 0)), (2, .int y), (3, .int od), (1, .ref q)] := hl
                        refine lv_iload hx hb dL_locks_271 (lv_at hl 1 rfl) ?_
                        refine lv_if_ne (tgt := 292) hx hb dL_locks_273 (by decide) (fun _ => ?_) (fun c => absurd c (by decide))
                        refine lv_iconst (v := 1) hx hb dL_locks_292 (by decide) ?_
                        refine lv_goto (tgt := 297) hx hb dL_locks_293 (by decide) ?_
                        refine lv_istore (lv' := [(19, .int 1), (20, .int (nI k)), (18, .int 0), (17, .int 0), (15, .long (pl_wds S (-1))), (13, .long (pl_thr S (nI t))), (11, .long (pl_thr S (-1))), (10, .int (pl_own (S 0 a))), (9, .int (S 0 a)), (8, .int 0), (7, .int to), (6, .int 0), (5, .int (nI a)), (4, .int (nI t)), (0, .ref (ad 0)), (2, .int y), (3, .int od), (1, .ref q)]) hx hb dL_locks_297 hl (by decide) rfl (fun ls hl => ?_)
                        refine lv_iinc (v := (nI (k + 1))) (lv' := [(20, .int (nI (k + 1))), (19, .int 1), (18, .int 0), (17, .int 0), (15, .long (pl_wds S (-1))), (13, .long (pl_thr S (nI t))), (11, .long (pl_thr S (-1))), (10, .int (pl_own (S 0 a))), (9, .int (S 0 a)), (8, .int 0), (7, .int to), (6, .int 0), (5, .int (nI a)), (4, .int (nI t)), (0, .ref (ad 0)), (2, .int y), (3, .int od), (1, .ref q)]) hx hb dL_locks_299 hl (k := 1) rfl (nI_1 k) (by decide) rfl (fun ls hl => ?_)
                        refine lv_goto (tgt := 255) hx hb dL_locks_302 (by decide) ?_
                        exact ih1 (k + 1) true (by omega) (by rw [← hw, Bool.true_or, Bool.true_or]) _ _ _ hP hD hS (lv_sub hl [0, 1, 2, 3, 4, 5, 6, 7, 8, 9, 10, 11, 12, 13, 14, 15, 16, 17] rfl)
                      · have hl : lv_has ls 25 [(20, .int (nI k)), (19, .int 0), (18, .int 0), (17, .int 0), (15, .long (pl_wds S (-1))), (13, .long (pl_thr S (nI t))), (11, .long (pl_thr S (-1))), (10, .int (pl_own (S 0 a))), (9, .int (S 0 a)), (8, .int 0), (7, .int to), (6, .int 0), (5, .int (nI a)), (4, .int (nI t)), (0, .ref (ad 0)), (2, .int y), (3, .int od), (1, .ref q)] := hl
                        by_cases hlk : S 1 u = 2
                        · refine lv_iload hx hb dL_locks_271 (lv_at hl 1 rfl) ?_
                          refine lv_if_ne (tgt := 292) hx hb dL_locks_273 (by decide) (fun c => absurd c (by decide)) (fun _ => ?_)
                          refine lv_aload_n hx hb dL_locks_276 rfl (lv_at hl 14 rfl) ?_
                          refine lv_aload_n hx hb dL_locks_277 rfl (lv_at hl 14 rfl) ?_
                          refine lv_iload hx hb dL_locks_278 (lv_at hl 12 rfl) ?_
                          refine lv_iload hx hb dL_locks_280 (lv_at hl 0 rfl) ?_
                          refine fk_callV (As := [.int (nI a), .int (nI k)]) (rest := [.ref (ad 0)]) ⟨hx, hb, hml, hown, hts⟩ (kc_waiterAt l D ad cI cT cJ _ S a ha (nI k) u (by rw [kq_wAt hG.1.J (by omega) (by omega)]; exact hgu)) (cwV 2 hts gL_locks_X2_waiterAt rfl rfl rfl (by decide +kernel) ⟨Nat.le_of_ble_eq_true rfl, Nat.le_of_ble_eq_true rfl⟩) (fk_rvK hK hP) hK hP hD hS hA rfl hl.1 rfl (Nat.le_of_ble_eq_true rfl) dL_locks_282 ⟨Nat.le_of_ble_eq_true rfl, Nat.le_of_ble_eq_true rfl⟩ (fun H locs hP hD hS => ?_)
                          refine W.eq (g2 := F0 m 285 ls [.int (nI u), .ref (ad 0)]) rfl ?_
                          refine fk_callV (As := [.int (nI u)]) (rest := []) ⟨hx, hb, hml, hown, hts⟩ (kc_stateOf l D ad cI cT cJ _ S u hu9) (cwV 1 hts gL_locks_X2_stateOf rfl rfl rfl (by decide +kernel) ⟨Nat.le_of_ble_eq_true rfl, Nat.le_of_ble_eq_true rfl⟩) (fk_rvK hK hP) hK hP hD hS hA rfl hl.1 rfl (Nat.le_of_ble_eq_true rfl) dL_locks_285 ⟨Nat.le_of_ble_eq_true rfl, Nat.le_of_ble_eq_true rfl⟩ (fun H locs hP hD hS => ?_)
                          refine W.eq (g2 := F0 m 288 ls [.int (S 1 u)]) rfl ?_
                          refine W.eq (g2 := F0 m 288 ls [.int 2]) (by rw [show (S 1 u) = (2 : Int32) from hlk]) ?_
                          refine lv_iconst (v := 2) hx hb dL_locks_288 (by decide) ?_
                          refine lv_icmp_ne (tgt := 296) hx hb dL_locks_289 (by decide) (fun c => absurd c (by decide)) (fun _ => ?_)
                          refine lv_iconst (v := 1) hx hb dL_locks_292 (by decide) ?_
                          refine lv_goto (tgt := 297) hx hb dL_locks_293 (by decide) ?_
                          refine lv_istore (lv' := [(19, .int 1), (20, .int (nI k)), (18, .int 0), (17, .int 0), (15, .long (pl_wds S (-1))), (13, .long (pl_thr S (nI t))), (11, .long (pl_thr S (-1))), (10, .int (pl_own (S 0 a))), (9, .int (S 0 a)), (8, .int 0), (7, .int to), (6, .int 0), (5, .int (nI a)), (4, .int (nI t)), (0, .ref (ad 0)), (2, .int y), (3, .int od), (1, .ref q)]) hx hb dL_locks_297 hl (by decide) rfl (fun ls hl => ?_)
                          refine lv_iinc (v := (nI (k + 1))) (lv' := [(20, .int (nI (k + 1))), (19, .int 1), (18, .int 0), (17, .int 0), (15, .long (pl_wds S (-1))), (13, .long (pl_thr S (nI t))), (11, .long (pl_thr S (-1))), (10, .int (pl_own (S 0 a))), (9, .int (S 0 a)), (8, .int 0), (7, .int to), (6, .int 0), (5, .int (nI a)), (4, .int (nI t)), (0, .ref (ad 0)), (2, .int y), (3, .int od), (1, .ref q)]) hx hb dL_locks_299 hl (k := 1) rfl (nI_1 k) (by decide) rfl (fun ls hl => ?_)
                          refine lv_goto (tgt := 255) hx hb dL_locks_302 (by decide) ?_
                          exact ih1 (k + 1) true (by omega) (by rw [← hw, hdu, List.any_cons, decide_eq_true hlk]; rfl) _ _ _ hP hD hS (lv_sub hl [0, 1, 2, 3, 4, 5, 6, 7, 8, 9, 10, 11, 12, 13, 14, 15, 16, 17] rfl)
                        · refine lv_iload hx hb dL_locks_271 (lv_at hl 1 rfl) ?_
                          refine lv_if_ne (tgt := 292) hx hb dL_locks_273 (by decide) (fun c => absurd c (by decide)) (fun _ => ?_)
                          refine lv_aload_n hx hb dL_locks_276 rfl (lv_at hl 14 rfl) ?_
                          refine lv_aload_n hx hb dL_locks_277 rfl (lv_at hl 14 rfl) ?_
                          refine lv_iload hx hb dL_locks_278 (lv_at hl 12 rfl) ?_
                          refine lv_iload hx hb dL_locks_280 (lv_at hl 0 rfl) ?_
                          refine fk_callV (As := [.int (nI a), .int (nI k)]) (rest := [.ref (ad 0)]) ⟨hx, hb, hml, hown, hts⟩ (kc_waiterAt l D ad cI cT cJ _ S a ha (nI k) u (by rw [kq_wAt hG.1.J (by omega) (by omega)]; exact hgu)) (cwV 2 hts gL_locks_X2_waiterAt rfl rfl rfl (by decide +kernel) ⟨Nat.le_of_ble_eq_true rfl, Nat.le_of_ble_eq_true rfl⟩) (fk_rvK hK hP) hK hP hD hS hA rfl hl.1 rfl (Nat.le_of_ble_eq_true rfl) dL_locks_282 ⟨Nat.le_of_ble_eq_true rfl, Nat.le_of_ble_eq_true rfl⟩ (fun H locs hP hD hS => ?_)
                          refine W.eq (g2 := F0 m 285 ls [.int (nI u), .ref (ad 0)]) rfl ?_
                          refine fk_callV (As := [.int (nI u)]) (rest := []) ⟨hx, hb, hml, hown, hts⟩ (kc_stateOf l D ad cI cT cJ _ S u hu9) (cwV 1 hts gL_locks_X2_stateOf rfl rfl rfl (by decide +kernel) ⟨Nat.le_of_ble_eq_true rfl, Nat.le_of_ble_eq_true rfl⟩) (fk_rvK hK hP) hK hP hD hS hA rfl hl.1 rfl (Nat.le_of_ble_eq_true rfl) dL_locks_285 ⟨Nat.le_of_ble_eq_true rfl, Nat.le_of_ble_eq_true rfl⟩ (fun H locs hP hD hS => ?_)
                          refine W.eq (g2 := F0 m 288 ls [.int (S 1 u)]) rfl ?_
                          refine lv_iconst (v := 2) hx hb dL_locks_288 (by decide) ?_
                          refine lv_icmp_ne (tgt := 296) hx hb dL_locks_289 (by decide) (fun c_259 => ?_) (fun c9 => absurd c9 hlk)
                          refine lv_iconst (v := 0) hx hb dL_locks_296 (by decide) ?_
                          refine lv_istore (lv' := [(19, .int 0), (20, .int (nI k)), (18, .int 0), (17, .int 0), (15, .long (pl_wds S (-1))), (13, .long (pl_thr S (nI t))), (11, .long (pl_thr S (-1))), (10, .int (pl_own (S 0 a))), (9, .int (S 0 a)), (8, .int 0), (7, .int to), (6, .int 0), (5, .int (nI a)), (4, .int (nI t)), (0, .ref (ad 0)), (2, .int y), (3, .int od), (1, .ref q)]) hx hb dL_locks_297 hl (by decide) rfl (fun ls hl => ?_)
                          refine lv_iinc (v := (nI (k + 1))) (lv' := [(20, .int (nI (k + 1))), (19, .int 0), (18, .int 0), (17, .int 0), (15, .long (pl_wds S (-1))), (13, .long (pl_thr S (nI t))), (11, .long (pl_thr S (-1))), (10, .int (pl_own (S 0 a))), (9, .int (S 0 a)), (8, .int 0), (7, .int to), (6, .int 0), (5, .int (nI a)), (4, .int (nI t)), (0, .ref (ad 0)), (2, .int y), (3, .int od), (1, .ref q)]) hx hb dL_locks_299 hl (k := 1) rfl (nI_1 k) (by decide) rfl (fun ls hl => ?_)
                          refine lv_goto (tgt := 255) hx hb dL_locks_302 (by decide) ?_
                          exact ih1 (k + 1) false (by omega) (by rw [← hw, hdu, List.any_cons, decide_eq_false hlk]; rfl) _ _ _ hP hD hS (lv_sub hl [0, 1, 2, 3, 4, 5, 6, 7, 8, 9, 10, 11, 12, 13, 14, 15, 16, 17] rfl)
                  exact loop1 (kq_A S a).length 0 false (by omega) rfl _ _ _ hP hD hS (lv_sub hl [0, 1, 2, 3, 4, 5, 6, 7, 8, 9, 10, 11, 12, 13, 14, 16, 17, 15] rfl)
              · have hbad8 : (fk_btw to 0 10000) = false := Bool.eq_false_iff.mpr hbad
                have hbad9 : bv = 1 := by rw [h_bv, hbad8]; rfl
                have hl : lv_has ls 25 [(8, .int 1), (7, .int to), (6, .int 0), (5, .int (nI a)), (4, .int (nI t)), (0, .ref (ad 0)), (1, .ref q), (2, .int y), (3, .int od)] := by rw [hbad9] at hl; exact hl
                refine lv_iload hx hb dL_locks_153 (lv_at hl 2 rfl) ?_
                refine lv_if_eq (tgt := 162) hx hb dL_locks_155 (by decide) (fun _ => ?_) (fun c => absurd c (by decide))
                refine lv_aload_n hx hb dL_locks_162 rfl (lv_at hl 5 rfl) ?_
                refine lv_iload hx hb dL_locks_163 (lv_at hl 3 rfl) ?_
                refine fk_callV (As := [.int (nI a)]) (rest := []) ⟨hx, hb, hml, hown, hts⟩ (kc_word l D ad cI cT cJ _ S a ha) (cwV 1 hts gL_locks_X2_word rfl rfl rfl (by decide +kernel) ⟨Nat.le_of_ble_eq_true rfl, Nat.le_of_ble_eq_true rfl⟩) (fk_rvK hK hP) hK hP hD hS hA rfl hl.1 rfl (Nat.le_of_ble_eq_true rfl) dL_locks_165 ⟨Nat.le_of_ble_eq_true rfl, Nat.le_of_ble_eq_true rfl⟩ (fun H locs hP hD hS => ?_)
                refine W.eq (g2 := F0 m 168 ls [.int (S 0 a)]) rfl ?_
                refine lv_istore (lv' := [(9, .int (S 0 a)), (8, .int 1), (7, .int to), (6, .int 0), (5, .int (nI a)), (4, .int (nI t)), (0, .ref (ad 0)), (1, .ref q), (2, .int y), (3, .int od)]) hx hb dL_locks_168 hl (by decide) rfl (fun ls hl => ?_)
                refine lv_iload hx hb dL_locks_170 (lv_at hl 0 rfl) ?_
                refine lv_sipush (v := 255) hx hb dL_locks_172 (by decide) ?_
                refine lv_iand hx hb dL_locks_175 ?_
                refine lv_iconst (v := 1) hx hb dL_locks_176 (by decide) ?_
                refine lv_isub hx hb dL_locks_177 ?_
                refine W.eq (g2 := F0 m 178 ls [.int (pl_own (S 0 a))]) rfl ?_
                refine lv_istore (lv' := [(10, .int (pl_own (S 0 a))), (9, .int (S 0 a)), (8, .int 1), (7, .int to), (6, .int 0), (5, .int (nI a)), (4, .int (nI t)), (0, .ref (ad 0)), (1, .ref q), (2, .int y), (3, .int od)]) hx hb dL_locks_178 hl (by decide) rfl (fun ls hl => ?_)
                refine lv_aload_n hx hb dL_locks_180 rfl (lv_at hl 7 rfl) ?_
                refine lv_iconst (v := (-1)) hx hb dL_locks_181 (by decide) ?_
                refine fk_callS (As := [.ref (ad 0), .int (-1)]) (rest := []) ⟨hx, hb, hml, hown, hts⟩ (kl_threads l D ad cI cT cJ _ S hG.1.sz hG.1.J (-1)) (va_cwS 2 hts gL_locks_L_threads rfl rfl rfl (by decide +kernel) ⟨Nat.le_of_ble_eq_true rfl, Nat.le_of_ble_eq_true rfl⟩) hK hP hD hS hA rfl hl.1 rfl (Nat.le_of_ble_eq_true rfl) dL_locks_182 ⟨Nat.le_of_ble_eq_true rfl, Nat.le_of_ble_eq_true rfl⟩ (fun H locs hP hD hS => ?_)
                refine W.eq (g2 := F0 m 185 ls [.long (pl_thr S (-1))]) rfl ?_
                refine lv_lstore (lv' := [(11, .long (pl_thr S (-1))), (10, .int (pl_own (S 0 a))), (9, .int (S 0 a)), (8, .int 1), (7, .int to), (6, .int 0), (5, .int (nI a)), (4, .int (nI t)), (0, .ref (ad 0)), (1, .ref q), (2, .int y), (3, .int od)]) hx hb dL_locks_185 hl (by decide) rfl (fun ls hl => ?_)
                refine lv_aload_n hx hb dL_locks_187 rfl (lv_at hl 8 rfl) ?_
                refine lv_iload hx hb dL_locks_188 (lv_at hl 5 rfl) ?_
                refine lv_if_eq (tgt := 197) hx hb dL_locks_190 (by decide) (fun _ => ?_) (fun c => absurd c (by decide))
                refine lv_iload hx hb dL_locks_197 (lv_at hl 7 rfl) ?_
                refine fk_callS (As := [.ref (ad 0), .int (nI t)]) (rest := []) ⟨hx, hb, hml, hown, hts⟩ (kl_threads l D ad cI cT cJ _ S hG.1.sz hG.1.J (nI t)) (va_cwS 2 hts gL_locks_L_threads rfl rfl rfl (by decide +kernel) ⟨Nat.le_of_ble_eq_true rfl, Nat.le_of_ble_eq_true rfl⟩) hK hP hD hS hA rfl hl.1 rfl (Nat.le_of_ble_eq_true rfl) dL_locks_199 ⟨Nat.le_of_ble_eq_true rfl, Nat.le_of_ble_eq_true rfl⟩ (fun H locs hP hD hS => ?_)
                refine W.eq (g2 := F0 m 202 ls [.long (pl_thr S (nI t))]) rfl ?_
                refine lv_lstore (lv' := [(13, .long (pl_thr S (nI t))), (11, .long (pl_thr S (-1))), (10, .int (pl_own (S 0 a))), (9, .int (S 0 a)), (8, .int 1), (7, .int to), (6, .int 0), (5, .int (nI a)), (4, .int (nI t)), (0, .ref (ad 0)), (1, .ref q), (2, .int y), (3, .int od)]) hx hb dL_locks_202 hl (by decide) rfl (fun ls hl => ?_)
                refine lv_aload_n hx hb dL_locks_204 rfl (lv_at hl 9 rfl) ?_
                refine lv_iconst (v := (-1)) hx hb dL_locks_205 (by decide) ?_
                refine fk_callS (As := [.ref (ad 0), .int (-1)]) (rest := []) ⟨hx, hb, hml, hown, hts⟩ (kl_words l D ad cI cT cJ _ S (-1)) (va_cwS 2 hts gL_locks_L_words rfl rfl rfl (by decide +kernel) ⟨Nat.le_of_ble_eq_true rfl, Nat.le_of_ble_eq_true rfl⟩) hK hP hD hS hA rfl hl.1 rfl (Nat.le_of_ble_eq_true rfl) dL_locks_206 ⟨Nat.le_of_ble_eq_true rfl, Nat.le_of_ble_eq_true rfl⟩ (fun H locs hP hD hS => ?_)
                refine W.eq (g2 := F0 m 209 ls [.long (pl_wds S (-1))]) rfl ?_
                refine lv_lstore (lv' := [(15, .long (pl_wds S (-1))), (13, .long (pl_thr S (nI t))), (11, .long (pl_thr S (-1))), (10, .int (pl_own (S 0 a))), (9, .int (S 0 a)), (8, .int 1), (7, .int to), (6, .int 0), (5, .int (nI a)), (4, .int (nI t)), (0, .ref (ad 0)), (1, .ref q), (2, .int y), (3, .int od)]) hx hb dL_locks_209 hl (by decide) rfl (fun ls hl => ?_)
                refine lv_iload hx hb dL_locks_211 (lv_at hl 7 rfl) ?_
                refine lv_if_ne (tgt := 229) hx hb dL_locks_213 (by decide) (fun c => absurd c (by decide)) (fun _ => ?_)
                refine lv_aload_n hx hb dL_locks_216 rfl (lv_at hl 10 rfl) ?_
                refine lv_iload hx hb dL_locks_217 (lv_at hl 9 rfl) ?_
                refine fk_callV (As := [.int (nI t)]) (rest := []) ⟨hx, hb, hml, hown, hts⟩ (kc_stateOf l D ad cI cT cJ _ S t ht) (cwV 1 hts gL_locks_X2_stateOf rfl rfl rfl (by decide +kernel) ⟨Nat.le_of_ble_eq_true rfl, Nat.le_of_ble_eq_true rfl⟩) (fk_rvK hK hP) hK hP hD hS hA rfl hl.1 rfl (Nat.le_of_ble_eq_true rfl) dL_locks_219 ⟨Nat.le_of_ble_eq_true rfl, Nat.le_of_ble_eq_true rfl⟩ (fun H locs hP hD hS => ?_)
                refine W.eq (g2 := F0 m 222 ls [.int (S 1 t)]) rfl ?_
                refine lv_if_ne (tgt := 229) hx hb dL_locks_222 (by decide) (fun c_263 => ?_) (fun c_263 => ?_)
                · refine lv_iconst (v := 0) hx hb dL_locks_229 (by decide) ?_
                  refine lv_istore (lv' := [(17, .int 0), (15, .long (pl_wds S (-1))), (13, .long (pl_thr S (nI t))), (11, .long (pl_thr S (-1))), (10, .int (pl_own (S 0 a))), (9, .int (S 0 a)), (8, .int 1), (7, .int to), (6, .int 0), (5, .int (nI a)), (4, .int (nI t)), (0, .ref (ad 0)), (1, .ref q), (2, .int y), (3, .int od)]) hx hb dL_locks_230 hl (by decide) rfl (fun ls hl => ?_)
                  refine lv_iload hx hb dL_locks_232 (lv_at hl 0 rfl) ?_
                  refine lv_if_eq (tgt := 246) hx hb dL_locks_234 (by decide) (fun _ => ?_) (fun c => absurd c (by decide))
                  refine lv_iconst (v := 0) hx hb dL_locks_246 (by decide) ?_
                  refine lv_istore (lv' := [(18, .int 0), (17, .int 0), (15, .long (pl_wds S (-1))), (13, .long (pl_thr S (nI t))), (11, .long (pl_thr S (-1))), (10, .int (pl_own (S 0 a))), (9, .int (S 0 a)), (8, .int 1), (7, .int to), (6, .int 0), (5, .int (nI a)), (4, .int (nI t)), (0, .ref (ad 0)), (1, .ref q), (2, .int y), (3, .int od)]) hx hb dL_locks_247 hl (by decide) rfl (fun ls hl => ?_)
                  refine lv_iconst (v := 0) hx hb dL_locks_249 (by decide) ?_
                  refine lv_istore (lv' := [(19, .int 0), (18, .int 0), (17, .int 0), (15, .long (pl_wds S (-1))), (13, .long (pl_thr S (nI t))), (11, .long (pl_thr S (-1))), (10, .int (pl_own (S 0 a))), (9, .int (S 0 a)), (8, .int 1), (7, .int to), (6, .int 0), (5, .int (nI a)), (4, .int (nI t)), (0, .ref (ad 0)), (1, .ref q), (2, .int y), (3, .int od)]) hx hb dL_locks_250 hl (by decide) rfl (fun ls hl => ?_)
                  refine lv_iconst (v := 0) hx hb dL_locks_252 (by decide) ?_
                  refine lv_istore (lv' := [(20, .int 0), (19, .int 0), (18, .int 0), (17, .int 0), (15, .long (pl_wds S (-1))), (13, .long (pl_thr S (nI t))), (11, .long (pl_thr S (-1))), (10, .int (pl_own (S 0 a))), (9, .int (S 0 a)), (8, .int 1), (7, .int to), (6, .int 0), (5, .int (nI a)), (4, .int (nI t)), (0, .ref (ad 0)), (1, .ref q), (2, .int y), (3, .int od)]) hx hb dL_locks_253 hl (by decide) rfl (fun ls hl => ?_)
                  have loop1 : ∀ (n1 : Nat) (k : Nat) (w : Bool), k + n1 = (kq_A S a).length → (w || ((kq_A S a).drop k).any (fun t => decide (S 1 t = 2))) = ((kq_A S a).any (fun t => decide (S 1 t = 2))) → ∀ (H : Heap) (locs : List Loc) (ls : Array Slot), va_P D vwCl (fk_kW ad cI cT S ++ (q, fk_pr cI P) :: X) H → va_D A (fk_kW ad cI cT S ++ (q, fk_pr cI P) :: X) → va_S A s.heap H locs → lv_has ls 25 [(20, .int (nI k)), (19, .int (fk_b w)), (18, .int 0), (17, .int 0), (15, .long (pl_wds S (-1))), (13, .long (pl_thr S (nI t))), (11, .long (pl_thr S (-1))), (10, .int (pl_own (S 0 a))), (9, .int (S 0 a)), (8, .int 1), (7, .int to), (6, .int 0), (5, .int (nI a)), (4, .int (nI t)), (0, .ref (ad 0)), (2, .int y), (3, .int od), (1, .ref q)] → W p l e rm_E s m ([.ref (ad 0), .ref q, .int y, .int od] : List Value).toArray below meth c H locs 0 0 (MQ below (fk_QE D (fk_ty cI cT cJ) A (kq_Phi ad cI cT q X (n + 20))) ([.ref (ad 0), .ref q, .int y, .int od] : List Value).toArray s 2 12 A) (F0 m 255 ls []) := by
                    intro n1
                    induction n1 with
                    | zero =>
                      intro k w hk hw H locs ls hP hD hS hl
                      have h8 := kq_A8 S a
                      have hw9 : w = (kq_A S a).any (fun t => decide (S 1 t = 2)) := by rw [← hw, (kq_stop hk).2, List.any_nil, Bool.or_false]
                      have hl : lv_has ls 25 [(20, .int (nI k)), (19, .int (fk_b ((kq_A S a).any (fun t => decide (S 1 t = 2))))), (18, .int 0), (17, .int 0), (15, .long (pl_wds S (-1))), (13, .long (pl_thr S (nI t))), (11, .long (pl_thr S (-1))), (10, .int (pl_own (S 0 a))), (9, .int (S 0 a)), (8, .int 1), (7, .int to), (6, .int 0), (5, .int (nI a)), (4, .int (nI t)), (0, .ref (ad 0)), (2, .int y), (3, .int od), (1, .ref q)] := by rw [hw9] at hl; exact hl
                      refine lv_iload hx hb dL_locks_255 (lv_at hl 11 rfl) ?_
                      refine lv_if_ne (tgt := 305) hx hb dL_locks_257 (by decide) (fun c => absurd c (by decide)) (fun _ => ?_)
                      refine lv_iload hx hb dL_locks_260 (lv_at hl 0 rfl) ?_
                      refine lv_aload_n hx hb dL_locks_262 rfl (lv_at hl 14 rfl) ?_
                      refine lv_iload hx hb dL_locks_263 (lv_at hl 12 rfl) ?_
                      refine fk_callV (As := [.int (nI a)]) (rest := [.int (nI k)]) ⟨hx, hb, hml, hown, hts⟩ (kc_waiters l D ad cI cT cJ _ S a ha) (cwV 1 hts gL_locks_X2_waiters rfl rfl rfl (by decide +kernel) ⟨Nat.le_of_ble_eq_true rfl, Nat.le_of_ble_eq_true rfl⟩) (fk_rvK hK hP) hK hP hD hS hA rfl hl.1 rfl (Nat.le_of_ble_eq_true rfl) dL_locks_265 ⟨Nat.le_of_ble_eq_true rfl, Nat.le_of_ble_eq_true rfl⟩ (fun H locs hP hD hS => ?_)
                      refine W.eq (g2 := F0 m 268 ls [.int (kk_waiters S (nI a)), .int (nI k)]) rfl ?_
                      refine W.eq (g2 := F0 m 268 ls [.int (nI ((kq_A S a).length)), .int (nI k)]) (by rw [show (kk_waiters S (nI a)) = (nI ((kq_A S a).length)) from (kq_waiters _ _)]) ?_
                      refine lv_icmp_ge (tgt := 305) hx hb dL_locks_268 (by decide) (fun c_266 => ?_) (fun c_266 => absurd (nI_le (a := (kq_A S a).length) (b := k) (by omega) (by omega)) c_266)
                      rcases pl_own_cases (S 0 a) with ⟨hoe, how⟩ | ⟨o, ho8, hoe, how⟩ | ⟨o, ho8, ho9, hoe, how⟩
                      · have hl : lv_has ls 25 [(20, .int (nI k)), (19, .int (fk_b ((kq_A S a).any (fun t => decide (S 1 t = 2))))), (18, .int 0), (17, .int 0), (15, .long (pl_wds S (-1))), (13, .long (pl_thr S (nI t))), (11, .long (pl_thr S (-1))), (10, .int (-1)), (9, .int (S 0 a)), (8, .int 1), (7, .int to), (6, .int 0), (5, .int (nI a)), (4, .int (nI t)), (0, .ref (ad 0)), (2, .int y), (3, .int od), (1, .ref q)] := by rw [hoe] at hl; exact hl
                        refine lv_iload hx hb dL_locks_305 (lv_at hl 7 rfl) ?_
                        refine lv_bipush (v := 7) hx hb dL_locks_307 (by decide) ?_
                        refine lv_icmp_gt (tgt := 327) hx hb dL_locks_309 (by decide) (fun c => absurd c (by decide)) (fun _ => ?_)
                        refine lv_iload hx hb dL_locks_312 (lv_at hl 7 rfl) ?_
                        refine lv_if_lt (tgt := 331) hx hb dL_locks_314 (by decide) (fun _ => ?_) (fun c => absurd c (by decide))
                        refine lv_iconst (v := 0) hx hb dL_locks_331 (by decide) ?_
                        refine lv_istore (lv' := [(20, .int 0), (19, .int (fk_b ((kq_A S a).any (fun t => decide (S 1 t = 2))))), (18, .int 0), (17, .int 0), (15, .long (pl_wds S (-1))), (13, .long (pl_thr S (nI t))), (11, .long (pl_thr S (-1))), (10, .int (-1)), (9, .int (S 0 a)), (8, .int 1), (7, .int to), (6, .int 0), (5, .int (nI a)), (4, .int (nI t)), (0, .ref (ad 0)), (2, .int y), (3, .int od), (1, .ref q)]) hx hb dL_locks_332 hl (by decide) rfl (fun ls hl => ?_)
                        refine lv_aload_n hx hb dL_locks_334 rfl (lv_at hl 14 rfl) ?_
                        refine lv_iconst (v := 0) hx hb dL_locks_335 (by decide) ?_
                        refine lv_iload hx hb dL_locks_336 (lv_at hl 13 rfl) ?_
                        refine lv_iload hx hb dL_locks_338 (lv_at hl 12 rfl) ?_
                        refine lv_iload hx hb dL_locks_340 (lv_at hl 10 rfl) ?_
                        refine lv_iconst (v := 0) hx hb dL_locks_342 (by decide) ?_
                        refine fk_lcallS (As := [.ref (ad 0), .int 0, .int (nI t), .int (nI a), .int to, .int 0]) (rest := []) ⟨hx, hb, hml, hown, hts⟩ (Lx_lock_IA l D ad cI cT cJ _ S _ _ _ _ (fun X => kx_lock_3 l D ad cI cT cJ X S hst t ht a ha _ hbad8)) (vx_cwSW 6 hts gL_locks_L_acts rfl rfl rfl (by decide +kernel) ⟨Nat.le_of_ble_eq_true rfl, Nat.le_of_ble_eq_true rfl⟩) hK hP hD hS hA hZ hN rfl hl.1 rfl (Nat.le_of_ble_eq_true rfl) dL_locks_343 ⟨Nat.le_of_ble_eq_true rfl, Nat.le_of_ble_eq_true rfl⟩ (fun H locs hP hD hS => ?_)
                        refine W.eq (g2 := F0 m 346 ls [.int (-2147483202)]) rfl ?_
                        refine lv_istore (lv' := [(21, .int (-2147483202)), (20, .int 0), (19, .int (fk_b ((kq_A S a).any (fun t => decide (S 1 t = 2))))), (18, .int 0), (17, .int 0), (15, .long (pl_wds S (-1))), (13, .long (pl_thr S (nI t))), (11, .long (pl_thr S (-1))), (10, .int (-1)), (9, .int (S 0 a)), (8, .int 1), (7, .int to), (6, .int 0), (5, .int (nI a)), (4, .int (nI t)), (0, .ref (ad 0)), (2, .int y), (3, .int od), (1, .ref q)]) hx hb dL_locks_346 hl (by decide) rfl (fun ls hl => ?_)
                        refine lv_iload hx hb dL_locks_348 (lv_at hl 12 rfl) ?_
                        refine lv_if_ne (tgt := 363) hx hb dL_locks_350 (by decide) (fun c => absurd c (by decide)) (fun _ => ?_)
                        refine lv_iload hx hb dL_locks_353 (lv_at hl 10 rfl) ?_
                        refine lv_if_ne (tgt := 363) hx hb dL_locks_355 (by decide) (fun _ => ?_) (fun c => absurd c (by decide))
                        refine lv_iload hx hb dL_locks_363 (lv_at hl 0 rfl) ?_
                        refine lv_iload hx hb dL_locks_365 (lv_at hl 12 rfl) ?_
                        refine lv_if_eq (tgt := 375) hx hb dL_locks_367 (by decide) (fun _ => ?_) (fun c => absurd c (by decide))
                        refine lv_iload hx hb dL_locks_375 (lv_at hl 10 rfl) ?_
                        refine lv_if_eq (tgt := 385) hx hb dL_locks_377 (by decide) (fun c => absurd c (by decide)) (fun _ => ?_)
                        refine lv_ldc (own := RL) (v := (-2147483202)) hx hb hown (hts (.constant RL 20 (-2147483202)) (List.mem_of_getElem? (i := 2) rfl)) dL_locks_380 ?_
                        refine lv_goto (tgt := 387) hx hb dL_locks_382 (by decide) ?_
                        refine lv_icmp_ne (tgt := 416) hx hb dL_locks_387 (by decide) (fun c => absurd c (by decide)) (fun _ => ?_)
                        refine lv_aload_n hx hb dL_locks_390 rfl (lv_at hl 15 rfl) ?_
                        refine lv_iconst (v := (-1)) hx hb dL_locks_391 (by decide) ?_
                        refine fk_callS (As := [.ref (ad 0), .int (-1)]) (rest := []) ⟨hx, hb, hml, hown, hts⟩ (kl_threads l D ad cI cT cJ _ S hG.1.sz hG.1.J (-1)) (va_cwS 2 hts gL_locks_L_threads rfl rfl rfl (by decide +kernel) ⟨Nat.le_of_ble_eq_true rfl, Nat.le_of_ble_eq_true rfl⟩) hK hP hD hS hA rfl hl.1 rfl (Nat.le_of_ble_eq_true rfl) dL_locks_392 ⟨Nat.le_of_ble_eq_true rfl, Nat.le_of_ble_eq_true rfl⟩ (fun H locs hP hD hS => ?_)
                        refine W.eq (g2 := F0 m 395 ls [.long (pl_thr S (-1))]) rfl ?_
                        refine lv_lload hx hb dL_locks_395 (lv_at hl 7 rfl) ?_
                        refine W.lcmp hx hb dL_locks_397 ?_
                        refine W.eq (g2 := F0 m 398 ls [.int 0]) (by rw [fk_cmp_self]) ?_
                        refine lv_if_ne (tgt := 416) hx hb dL_locks_398 (by decide) (fun c => absurd c (by decide)) (fun _ => ?_)
                        refine lv_aload_n hx hb dL_locks_401 rfl (lv_at hl 15 rfl) ?_
                        refine lv_iconst (v := (-1)) hx hb dL_locks_402 (by decide) ?_
                        refine fk_callS (As := [.ref (ad 0), .int (-1)]) (rest := []) ⟨hx, hb, hml, hown, hts⟩ (kl_words l D ad cI cT cJ _ S (-1)) (va_cwS 2 hts gL_locks_L_words rfl rfl rfl (by decide +kernel) ⟨Nat.le_of_ble_eq_true rfl, Nat.le_of_ble_eq_true rfl⟩) hK hP hD hS hA rfl hl.1 rfl (Nat.le_of_ble_eq_true rfl) dL_locks_403 ⟨Nat.le_of_ble_eq_true rfl, Nat.le_of_ble_eq_true rfl⟩ (fun H locs hP hD hS => ?_)
                        refine W.eq (g2 := F0 m 406 ls [.long (pl_wds S (-1))]) rfl ?_
                        refine lv_lload hx hb dL_locks_406 (lv_at hl 5 rfl) ?_
                        refine W.lcmp hx hb dL_locks_408 ?_
                        refine W.eq (g2 := F0 m 409 ls [.int 0]) (by rw [fk_cmp_self]) ?_
                        refine lv_if_ne (tgt := 416) hx hb dL_locks_409 (by decide) (fun c => absurd c (by decide)) (fun _ => ?_)
                        refine lv_iconst (v := 1) hx hb dL_locks_412 (by decide) ?_
                        refine lv_goto (tgt := 417) hx hb dL_locks_413 (by decide) ?_
                        exact fk_zretE (Nat.le_of_ble_eq_true rfl) (Nat.le_of_ble_eq_true rfl) hx hb hr hlocks hP hK hD hS rfl ⟨rfl, _, _, rfl, (hG).wk (by omega)⟩ dL_locks_417
                      · have hl : lv_has ls 25 [(20, .int (nI k)), (19, .int (fk_b ((kq_A S a).any (fun t => decide (S 1 t = 2))))), (18, .int 0), (17, .int 0), (15, .long (pl_wds S (-1))), (13, .long (pl_thr S (nI t))), (11, .long (pl_thr S (-1))), (10, .int (nI o)), (9, .int (S 0 a)), (8, .int 1), (7, .int to), (6, .int 0), (5, .int (nI a)), (4, .int (nI t)), (0, .ref (ad 0)), (2, .int y), (3, .int od), (1, .ref q)] := by rw [hoe] at hl; exact hl
                        by_cases hod : S 1 o = 3
                        · refine lv_iload hx hb dL_locks_305 (lv_at hl 7 rfl) ?_
                          refine lv_bipush (v := 7) hx hb dL_locks_307 (by decide) ?_
                          refine lv_icmp_gt (tgt := 327) hx hb dL_locks_309 (by decide) (fun c_276 => absurd c_276 (nI_nlt (a := 7) (b := o) (by omega) (by omega))) (fun c_276 => ?_)
                          refine lv_iload hx hb dL_locks_312 (lv_at hl 7 rfl) ?_
                          refine lv_if_lt (tgt := 331) hx hb dL_locks_314 (by decide) (fun c_277 => absurd c_277 (nI_pos (by omega))) (fun c_277 => ?_)
                          refine lv_aload_n hx hb dL_locks_317 rfl (lv_at hl 14 rfl) ?_
                          refine lv_iload hx hb dL_locks_318 (lv_at hl 7 rfl) ?_
                          refine fk_callV (As := [.int (nI o)]) (rest := []) ⟨hx, hb, hml, hown, hts⟩ (kc_stateOf l D ad cI cT cJ _ S o ho8) (cwV 1 hts gL_locks_X2_stateOf rfl rfl rfl (by decide +kernel) ⟨Nat.le_of_ble_eq_true rfl, Nat.le_of_ble_eq_true rfl⟩) (fk_rvK hK hP) hK hP hD hS hA rfl hl.1 rfl (Nat.le_of_ble_eq_true rfl) dL_locks_320 ⟨Nat.le_of_ble_eq_true rfl, Nat.le_of_ble_eq_true rfl⟩ (fun H locs hP hD hS => ?_)
                          refine W.eq (g2 := F0 m 323 ls [.int (S 1 o)]) rfl ?_
                          refine W.eq (g2 := F0 m 323 ls [.int 3]) (by rw [show (S 1 o) = (3 : Int32) from hod]) ?_
                          refine lv_iconst (v := 3) hx hb dL_locks_323 (by decide) ?_
                          refine lv_icmp_ne (tgt := 331) hx hb dL_locks_324 (by decide) (fun c => absurd c (by decide)) (fun _ => ?_)
                          refine lv_iconst (v := 1) hx hb dL_locks_327 (by decide) ?_
                          refine lv_goto (tgt := 332) hx hb dL_locks_328 (by decide) ?_
                          refine lv_istore (lv' := [(20, .int 1), (19, .int (fk_b ((kq_A S a).any (fun t => decide (S 1 t = 2))))), (18, .int 0), (17, .int 0), (15, .long (pl_wds S (-1))), (13, .long (pl_thr S (nI t))), (11, .long (pl_thr S (-1))), (10, .int (nI o)), (9, .int (S 0 a)), (8, .int 1), (7, .int to), (6, .int 0), (5, .int (nI a)), (4, .int (nI t)), (0, .ref (ad 0)), (2, .int y), (3, .int od), (1, .ref q)]) hx hb dL_locks_332 hl (by decide) rfl (fun ls hl => ?_)
                          refine lv_aload_n hx hb dL_locks_334 rfl (lv_at hl 14 rfl) ?_
                          refine lv_iconst (v := 0) hx hb dL_locks_335 (by decide) ?_
                          refine lv_iload hx hb dL_locks_336 (lv_at hl 13 rfl) ?_
                          refine lv_iload hx hb dL_locks_338 (lv_at hl 12 rfl) ?_
                          refine lv_iload hx hb dL_locks_340 (lv_at hl 10 rfl) ?_
                          refine lv_iconst (v := 0) hx hb dL_locks_342 (by decide) ?_
                          refine fk_lcallS (As := [.ref (ad 0), .int 0, .int (nI t), .int (nI a), .int to, .int 0]) (rest := []) ⟨hx, hb, hml, hown, hts⟩ (Lx_lock_IA l D ad cI cT cJ _ S _ _ _ _ (fun X => kx_lock_3 l D ad cI cT cJ X S hst t ht a ha _ hbad8)) (vx_cwSW 6 hts gL_locks_L_acts rfl rfl rfl (by decide +kernel) ⟨Nat.le_of_ble_eq_true rfl, Nat.le_of_ble_eq_true rfl⟩) hK hP hD hS hA hZ hN rfl hl.1 rfl (Nat.le_of_ble_eq_true rfl) dL_locks_343 ⟨Nat.le_of_ble_eq_true rfl, Nat.le_of_ble_eq_true rfl⟩ (fun H locs hP hD hS => ?_)
                          refine W.eq (g2 := F0 m 346 ls [.int (-2147483202)]) rfl ?_
                          refine lv_istore (lv' := [(21, .int (-2147483202)), (20, .int 1), (19, .int (fk_b ((kq_A S a).any (fun t => decide (S 1 t = 2))))), (18, .int 0), (17, .int 0), (15, .long (pl_wds S (-1))), (13, .long (pl_thr S (nI t))), (11, .long (pl_thr S (-1))), (10, .int (nI o)), (9, .int (S 0 a)), (8, .int 1), (7, .int to), (6, .int 0), (5, .int (nI a)), (4, .int (nI t)), (0, .ref (ad 0)), (2, .int y), (3, .int od), (1, .ref q)]) hx hb dL_locks_346 hl (by decide) rfl (fun ls hl => ?_)
                          refine lv_iload hx hb dL_locks_348 (lv_at hl 12 rfl) ?_
                          refine lv_if_ne (tgt := 363) hx hb dL_locks_350 (by decide) (fun c => absurd c (by decide)) (fun _ => ?_)
                          refine lv_iload hx hb dL_locks_353 (lv_at hl 10 rfl) ?_
                          refine lv_if_ne (tgt := 363) hx hb dL_locks_355 (by decide) (fun _ => ?_) (fun c => absurd c (by decide))
                          refine lv_iload hx hb dL_locks_363 (lv_at hl 0 rfl) ?_
                          refine lv_iload hx hb dL_locks_365 (lv_at hl 12 rfl) ?_
                          refine lv_if_eq (tgt := 375) hx hb dL_locks_367 (by decide) (fun _ => ?_) (fun c => absurd c (by decide))
                          refine lv_iload hx hb dL_locks_375 (lv_at hl 10 rfl) ?_
                          refine lv_if_eq (tgt := 385) hx hb dL_locks_377 (by decide) (fun c => absurd c (by decide)) (fun _ => ?_)
                          refine lv_ldc (own := RL) (v := (-2147483202)) hx hb hown (hts (.constant RL 20 (-2147483202)) (List.mem_of_getElem? (i := 2) rfl)) dL_locks_380 ?_
                          refine lv_goto (tgt := 387) hx hb dL_locks_382 (by decide) ?_
                          refine lv_icmp_ne (tgt := 416) hx hb dL_locks_387 (by decide) (fun c => absurd c (by decide)) (fun _ => ?_)
                          refine lv_aload_n hx hb dL_locks_390 rfl (lv_at hl 15 rfl) ?_
                          refine lv_iconst (v := (-1)) hx hb dL_locks_391 (by decide) ?_
                          refine fk_callS (As := [.ref (ad 0), .int (-1)]) (rest := []) ⟨hx, hb, hml, hown, hts⟩ (kl_threads l D ad cI cT cJ _ S hG.1.sz hG.1.J (-1)) (va_cwS 2 hts gL_locks_L_threads rfl rfl rfl (by decide +kernel) ⟨Nat.le_of_ble_eq_true rfl, Nat.le_of_ble_eq_true rfl⟩) hK hP hD hS hA rfl hl.1 rfl (Nat.le_of_ble_eq_true rfl) dL_locks_392 ⟨Nat.le_of_ble_eq_true rfl, Nat.le_of_ble_eq_true rfl⟩ (fun H locs hP hD hS => ?_)
                          refine W.eq (g2 := F0 m 395 ls [.long (pl_thr S (-1))]) rfl ?_
                          refine lv_lload hx hb dL_locks_395 (lv_at hl 7 rfl) ?_
                          refine W.lcmp hx hb dL_locks_397 ?_
                          refine W.eq (g2 := F0 m 398 ls [.int 0]) (by rw [fk_cmp_self]) ?_
                          refine lv_if_ne (tgt := 416) hx hb dL_locks_398 (by decide) (fun c => absurd c (by decide)) (fun _ => ?_)
                          refine lv_aload_n hx hb dL_locks_401 rfl (lv_at hl 15 rfl) ?_
                          refine lv_iconst (v := (-1)) hx hb dL_locks_402 (by decide) ?_
                          refine fk_callS (As := [.ref (ad 0), .int (-1)]) (rest := []) ⟨hx, hb, hml, hown, hts⟩ (kl_words l D ad cI cT cJ _ S (-1)) (va_cwS 2 hts gL_locks_L_words rfl rfl rfl (by decide +kernel) ⟨Nat.le_of_ble_eq_true rfl, Nat.le_of_ble_eq_true rfl⟩) hK hP hD hS hA rfl hl.1 rfl (Nat.le_of_ble_eq_true rfl) dL_locks_403 ⟨Nat.le_of_ble_eq_true rfl, Nat.le_of_ble_eq_true rfl⟩ (fun H locs hP hD hS => ?_)
                          refine W.eq (g2 := F0 m 406 ls [.long (pl_wds S (-1))]) rfl ?_
                          refine lv_lload hx hb dL_locks_406 (lv_at hl 5 rfl) ?_
                          refine W.lcmp hx hb dL_locks_408 ?_
                          refine W.eq (g2 := F0 m 409 ls [.int 0]) (by rw [fk_cmp_self]) ?_
                          refine lv_if_ne (tgt := 416) hx hb dL_locks_409 (by decide) (fun c => absurd c (by decide)) (fun _ => ?_)
                          refine lv_iconst (v := 1) hx hb dL_locks_412 (by decide) ?_
                          refine lv_goto (tgt := 417) hx hb dL_locks_413 (by decide) ?_
                          exact fk_zretE (Nat.le_of_ble_eq_true rfl) (Nat.le_of_ble_eq_true rfl) hx hb hr hlocks hP hK hD hS rfl ⟨rfl, _, _, rfl, (hG).wk (by omega)⟩ dL_locks_417
                        · refine lv_iload hx hb dL_locks_305 (lv_at hl 7 rfl) ?_
                          refine lv_bipush (v := 7) hx hb dL_locks_307 (by decide) ?_
                          refine lv_icmp_gt (tgt := 327) hx hb dL_locks_309 (by decide) (fun c_286 => absurd c_286 (nI_nlt (a := 7) (b := o) (by omega) (by omega))) (fun c_286 => ?_)
                          refine lv_iload hx hb dL_locks_312 (lv_at hl 7 rfl) ?_
                          refine lv_if_lt (tgt := 331) hx hb dL_locks_314 (by decide) (fun c_287 => absurd c_287 (nI_pos (by omega))) (fun c_287 => ?_)
                          refine lv_aload_n hx hb dL_locks_317 rfl (lv_at hl 14 rfl) ?_
                          refine lv_iload hx hb dL_locks_318 (lv_at hl 7 rfl) ?_
                          refine fk_callV (As := [.int (nI o)]) (rest := []) ⟨hx, hb, hml, hown, hts⟩ (kc_stateOf l D ad cI cT cJ _ S o ho8) (cwV 1 hts gL_locks_X2_stateOf rfl rfl rfl (by decide +kernel) ⟨Nat.le_of_ble_eq_true rfl, Nat.le_of_ble_eq_true rfl⟩) (fk_rvK hK hP) hK hP hD hS hA rfl hl.1 rfl (Nat.le_of_ble_eq_true rfl) dL_locks_320 ⟨Nat.le_of_ble_eq_true rfl, Nat.le_of_ble_eq_true rfl⟩ (fun H locs hP hD hS => ?_)
                          refine W.eq (g2 := F0 m 323 ls [.int (S 1 o)]) rfl ?_
                          refine lv_iconst (v := 3) hx hb dL_locks_323 (by decide) ?_
                          refine lv_icmp_ne (tgt := 331) hx hb dL_locks_324 (by decide) (fun c_288 => ?_) (fun c9 => absurd c9 hod)
                          refine lv_iconst (v := 0) hx hb dL_locks_331 (by decide) ?_
                          refine lv_istore (lv' := [(20, .int 0), (19, .int (fk_b ((kq_A S a).any (fun t => decide (S 1 t = 2))))), (18, .int 0), (17, .int 0), (15, .long (pl_wds S (-1))), (13, .long (pl_thr S (nI t))), (11, .long (pl_thr S (-1))), (10, .int (nI o)), (9, .int (S 0 a)), (8, .int 1), (7, .int to), (6, .int 0), (5, .int (nI a)), (4, .int (nI t)), (0, .ref (ad 0)), (2, .int y), (3, .int od), (1, .ref q)]) hx hb dL_locks_332 hl (by decide) rfl (fun ls hl => ?_)
                          refine lv_aload_n hx hb dL_locks_334 rfl (lv_at hl 14 rfl) ?_
                          refine lv_iconst (v := 0) hx hb dL_locks_335 (by decide) ?_
                          refine lv_iload hx hb dL_locks_336 (lv_at hl 13 rfl) ?_
                          refine lv_iload hx hb dL_locks_338 (lv_at hl 12 rfl) ?_
                          refine lv_iload hx hb dL_locks_340 (lv_at hl 10 rfl) ?_
                          refine lv_iconst (v := 0) hx hb dL_locks_342 (by decide) ?_
                          refine fk_lcallS (As := [.ref (ad 0), .int 0, .int (nI t), .int (nI a), .int to, .int 0]) (rest := []) ⟨hx, hb, hml, hown, hts⟩ (Lx_lock_IA l D ad cI cT cJ _ S _ _ _ _ (fun X => kx_lock_3 l D ad cI cT cJ X S hst t ht a ha _ hbad8)) (vx_cwSW 6 hts gL_locks_L_acts rfl rfl rfl (by decide +kernel) ⟨Nat.le_of_ble_eq_true rfl, Nat.le_of_ble_eq_true rfl⟩) hK hP hD hS hA hZ hN rfl hl.1 rfl (Nat.le_of_ble_eq_true rfl) dL_locks_343 ⟨Nat.le_of_ble_eq_true rfl, Nat.le_of_ble_eq_true rfl⟩ (fun H locs hP hD hS => ?_)
                          refine W.eq (g2 := F0 m 346 ls [.int (-2147483202)]) rfl ?_
                          refine lv_istore (lv' := [(21, .int (-2147483202)), (20, .int 0), (19, .int (fk_b ((kq_A S a).any (fun t => decide (S 1 t = 2))))), (18, .int 0), (17, .int 0), (15, .long (pl_wds S (-1))), (13, .long (pl_thr S (nI t))), (11, .long (pl_thr S (-1))), (10, .int (nI o)), (9, .int (S 0 a)), (8, .int 1), (7, .int to), (6, .int 0), (5, .int (nI a)), (4, .int (nI t)), (0, .ref (ad 0)), (2, .int y), (3, .int od), (1, .ref q)]) hx hb dL_locks_346 hl (by decide) rfl (fun ls hl => ?_)
                          refine lv_iload hx hb dL_locks_348 (lv_at hl 12 rfl) ?_
                          refine lv_if_ne (tgt := 363) hx hb dL_locks_350 (by decide) (fun c => absurd c (by decide)) (fun _ => ?_)
                          refine lv_iload hx hb dL_locks_353 (lv_at hl 10 rfl) ?_
                          refine lv_if_ne (tgt := 363) hx hb dL_locks_355 (by decide) (fun _ => ?_) (fun c => absurd c (by decide))
                          refine lv_iload hx hb dL_locks_363 (lv_at hl 0 rfl) ?_
                          refine lv_iload hx hb dL_locks_365 (lv_at hl 12 rfl) ?_
                          refine lv_if_eq (tgt := 375) hx hb dL_locks_367 (by decide) (fun _ => ?_) (fun c => absurd c (by decide))
                          refine lv_iload hx hb dL_locks_375 (lv_at hl 10 rfl) ?_
                          refine lv_if_eq (tgt := 385) hx hb dL_locks_377 (by decide) (fun c => absurd c (by decide)) (fun _ => ?_)
                          refine lv_ldc (own := RL) (v := (-2147483202)) hx hb hown (hts (.constant RL 20 (-2147483202)) (List.mem_of_getElem? (i := 2) rfl)) dL_locks_380 ?_
                          refine lv_goto (tgt := 387) hx hb dL_locks_382 (by decide) ?_
                          refine lv_icmp_ne (tgt := 416) hx hb dL_locks_387 (by decide) (fun c => absurd c (by decide)) (fun _ => ?_)
                          refine lv_aload_n hx hb dL_locks_390 rfl (lv_at hl 15 rfl) ?_
                          refine lv_iconst (v := (-1)) hx hb dL_locks_391 (by decide) ?_
                          refine fk_callS (As := [.ref (ad 0), .int (-1)]) (rest := []) ⟨hx, hb, hml, hown, hts⟩ (kl_threads l D ad cI cT cJ _ S hG.1.sz hG.1.J (-1)) (va_cwS 2 hts gL_locks_L_threads rfl rfl rfl (by decide +kernel) ⟨Nat.le_of_ble_eq_true rfl, Nat.le_of_ble_eq_true rfl⟩) hK hP hD hS hA rfl hl.1 rfl (Nat.le_of_ble_eq_true rfl) dL_locks_392 ⟨Nat.le_of_ble_eq_true rfl, Nat.le_of_ble_eq_true rfl⟩ (fun H locs hP hD hS => ?_)
                          refine W.eq (g2 := F0 m 395 ls [.long (pl_thr S (-1))]) rfl ?_
                          refine lv_lload hx hb dL_locks_395 (lv_at hl 7 rfl) ?_
                          refine W.lcmp hx hb dL_locks_397 ?_
                          refine W.eq (g2 := F0 m 398 ls [.int 0]) (by rw [fk_cmp_self]) ?_
                          refine lv_if_ne (tgt := 416) hx hb dL_locks_398 (by decide) (fun c => absurd c (by decide)) (fun _ => ?_)
                          refine lv_aload_n hx hb dL_locks_401 rfl (lv_at hl 15 rfl) ?_
                          refine lv_iconst (v := (-1)) hx hb dL_locks_402 (by decide) ?_
                          refine fk_callS (As := [.ref (ad 0), .int (-1)]) (rest := []) ⟨hx, hb, hml, hown, hts⟩ (kl_words l D ad cI cT cJ _ S (-1)) (va_cwS 2 hts gL_locks_L_words rfl rfl rfl (by decide +kernel) ⟨Nat.le_of_ble_eq_true rfl, Nat.le_of_ble_eq_true rfl⟩) hK hP hD hS hA rfl hl.1 rfl (Nat.le_of_ble_eq_true rfl) dL_locks_403 ⟨Nat.le_of_ble_eq_true rfl, Nat.le_of_ble_eq_true rfl⟩ (fun H locs hP hD hS => ?_)
                          refine W.eq (g2 := F0 m 406 ls [.long (pl_wds S (-1))]) rfl ?_
                          refine lv_lload hx hb dL_locks_406 (lv_at hl 5 rfl) ?_
                          refine W.lcmp hx hb dL_locks_408 ?_
                          refine W.eq (g2 := F0 m 409 ls [.int 0]) (by rw [fk_cmp_self]) ?_
                          refine lv_if_ne (tgt := 416) hx hb dL_locks_409 (by decide) (fun c => absurd c (by decide)) (fun _ => ?_)
                          refine lv_iconst (v := 1) hx hb dL_locks_412 (by decide) ?_
                          refine lv_goto (tgt := 417) hx hb dL_locks_413 (by decide) ?_
                          exact fk_zretE (Nat.le_of_ble_eq_true rfl) (Nat.le_of_ble_eq_true rfl) hx hb hr hlocks hP hK hD hS rfl ⟨rfl, _, _, rfl, (hG).wk (by omega)⟩ dL_locks_417
                      · have hl : lv_has ls 25 [(20, .int (nI k)), (19, .int (fk_b ((kq_A S a).any (fun t => decide (S 1 t = 2))))), (18, .int 0), (17, .int 0), (15, .long (pl_wds S (-1))), (13, .long (pl_thr S (nI t))), (11, .long (pl_thr S (-1))), (10, .int (nI o)), (9, .int (S 0 a)), (8, .int 1), (7, .int to), (6, .int 0), (5, .int (nI a)), (4, .int (nI t)), (0, .ref (ad 0)), (2, .int y), (3, .int od), (1, .ref q)] := by rw [hoe] at hl; exact hl
                        refine lv_iload hx hb dL_locks_305 (lv_at hl 7 rfl) ?_
                        refine lv_bipush (v := 7) hx hb dL_locks_307 (by decide) ?_
                        refine lv_icmp_gt (tgt := 327) hx hb dL_locks_309 (by decide) (fun c_296 => ?_) (fun c9 => absurd (nI_lt (a := 7) (b := o) (by omega) (by omega)) c9)
                        refine lv_iconst (v := 1) hx hb dL_locks_327 (by decide) ?_
                        refine lv_goto (tgt := 332) hx hb dL_locks_328 (by decide) ?_
                        refine lv_istore (lv' := [(20, .int 1), (19, .int (fk_b ((kq_A S a).any (fun t => decide (S 1 t = 2))))), (18, .int 0), (17, .int 0), (15, .long (pl_wds S (-1))), (13, .long (pl_thr S (nI t))), (11, .long (pl_thr S (-1))), (10, .int (nI o)), (9, .int (S 0 a)), (8, .int 1), (7, .int to), (6, .int 0), (5, .int (nI a)), (4, .int (nI t)), (0, .ref (ad 0)), (2, .int y), (3, .int od), (1, .ref q)]) hx hb dL_locks_332 hl (by decide) rfl (fun ls hl => ?_)
                        refine lv_aload_n hx hb dL_locks_334 rfl (lv_at hl 14 rfl) ?_
                        refine lv_iconst (v := 0) hx hb dL_locks_335 (by decide) ?_
                        refine lv_iload hx hb dL_locks_336 (lv_at hl 13 rfl) ?_
                        refine lv_iload hx hb dL_locks_338 (lv_at hl 12 rfl) ?_
                        refine lv_iload hx hb dL_locks_340 (lv_at hl 10 rfl) ?_
                        refine lv_iconst (v := 0) hx hb dL_locks_342 (by decide) ?_
                        refine fk_lcallS (As := [.ref (ad 0), .int 0, .int (nI t), .int (nI a), .int to, .int 0]) (rest := []) ⟨hx, hb, hml, hown, hts⟩ (Lx_lock_IA l D ad cI cT cJ _ S _ _ _ _ (fun X => kx_lock_3 l D ad cI cT cJ X S hst t ht a ha _ hbad8)) (vx_cwSW 6 hts gL_locks_L_acts rfl rfl rfl (by decide +kernel) ⟨Nat.le_of_ble_eq_true rfl, Nat.le_of_ble_eq_true rfl⟩) hK hP hD hS hA hZ hN rfl hl.1 rfl (Nat.le_of_ble_eq_true rfl) dL_locks_343 ⟨Nat.le_of_ble_eq_true rfl, Nat.le_of_ble_eq_true rfl⟩ (fun H locs hP hD hS => ?_)
                        refine W.eq (g2 := F0 m 346 ls [.int (-2147483202)]) rfl ?_
                        refine lv_istore (lv' := [(21, .int (-2147483202)), (20, .int 1), (19, .int (fk_b ((kq_A S a).any (fun t => decide (S 1 t = 2))))), (18, .int 0), (17, .int 0), (15, .long (pl_wds S (-1))), (13, .long (pl_thr S (nI t))), (11, .long (pl_thr S (-1))), (10, .int (nI o)), (9, .int (S 0 a)), (8, .int 1), (7, .int to), (6, .int 0), (5, .int (nI a)), (4, .int (nI t)), (0, .ref (ad 0)), (2, .int y), (3, .int od), (1, .ref q)]) hx hb dL_locks_346 hl (by decide) rfl (fun ls hl => ?_)
                        refine lv_iload hx hb dL_locks_348 (lv_at hl 12 rfl) ?_
                        refine lv_if_ne (tgt := 363) hx hb dL_locks_350 (by decide) (fun c => absurd c (by decide)) (fun _ => ?_)
                        refine lv_iload hx hb dL_locks_353 (lv_at hl 10 rfl) ?_
                        refine lv_if_ne (tgt := 363) hx hb dL_locks_355 (by decide) (fun _ => ?_) (fun c => absurd c (by decide))
                        refine lv_iload hx hb dL_locks_363 (lv_at hl 0 rfl) ?_
                        refine lv_iload hx hb dL_locks_365 (lv_at hl 12 rfl) ?_
                        refine lv_if_eq (tgt := 375) hx hb dL_locks_367 (by decide) (fun _ => ?_) (fun c => absurd c (by decide))
                        refine lv_iload hx hb dL_locks_375 (lv_at hl 10 rfl) ?_
                        refine lv_if_eq (tgt := 385) hx hb dL_locks_377 (by decide) (fun c => absurd c (by decide)) (fun _ => ?_)
                        refine lv_ldc (own := RL) (v := (-2147483202)) hx hb hown (hts (.constant RL 20 (-2147483202)) (List.mem_of_getElem? (i := 2) rfl)) dL_locks_380 ?_
                        refine lv_goto (tgt := 387) hx hb dL_locks_382 (by decide) ?_
                        refine lv_icmp_ne (tgt := 416) hx hb dL_locks_387 (by decide) (fun c => absurd c (by decide)) (fun _ => ?_)
                        refine lv_aload_n hx hb dL_locks_390 rfl (lv_at hl 15 rfl) ?_
                        refine lv_iconst (v := (-1)) hx hb dL_locks_391 (by decide) ?_
                        refine fk_callS (As := [.ref (ad 0), .int (-1)]) (rest := []) ⟨hx, hb, hml, hown, hts⟩ (kl_threads l D ad cI cT cJ _ S hG.1.sz hG.1.J (-1)) (va_cwS 2 hts gL_locks_L_threads rfl rfl rfl (by decide +kernel) ⟨Nat.le_of_ble_eq_true rfl, Nat.le_of_ble_eq_true rfl⟩) hK hP hD hS hA rfl hl.1 rfl (Nat.le_of_ble_eq_true rfl) dL_locks_392 ⟨Nat.le_of_ble_eq_true rfl, Nat.le_of_ble_eq_true rfl⟩ (fun H locs hP hD hS => ?_)
                        refine W.eq (g2 := F0 m 395 ls [.long (pl_thr S (-1))]) rfl ?_
                        refine lv_lload hx hb dL_locks_395 (lv_at hl 7 rfl) ?_
                        refine W.lcmp hx hb dL_locks_397 ?_
                        refine W.eq (g2 := F0 m 398 ls [.int 0]) (by rw [fk_cmp_self]) ?_
                        refine lv_if_ne (tgt := 416) hx hb dL_locks_398 (by decide) (fun c => absurd c (by decide)) (fun _ => ?_)
                        refine lv_aload_n hx hb dL_locks_401 rfl (lv_at hl 15 rfl) ?_
                        refine lv_iconst (v := (-1)) hx hb dL_locks_402 (by decide) ?_
                        refine fk_callS (As := [.ref (ad 0), .int (-1)]) (rest := []) ⟨hx, hb, hml, hown, hts⟩ (kl_words l D ad cI cT cJ _ S (-1)) (va_cwS 2 hts gL_locks_L_words rfl rfl rfl (by decide +kernel) ⟨Nat.le_of_ble_eq_true rfl, Nat.le_of_ble_eq_true rfl⟩) hK hP hD hS hA rfl hl.1 rfl (Nat.le_of_ble_eq_true rfl) dL_locks_403 ⟨Nat.le_of_ble_eq_true rfl, Nat.le_of_ble_eq_true rfl⟩ (fun H locs hP hD hS => ?_)
                        refine W.eq (g2 := F0 m 406 ls [.long (pl_wds S (-1))]) rfl ?_
                        refine lv_lload hx hb dL_locks_406 (lv_at hl 5 rfl) ?_
                        refine W.lcmp hx hb dL_locks_408 ?_
                        refine W.eq (g2 := F0 m 409 ls [.int 0]) (by rw [fk_cmp_self]) ?_
                        refine lv_if_ne (tgt := 416) hx hb dL_locks_409 (by decide) (fun c => absurd c (by decide)) (fun _ => ?_)
                        refine lv_iconst (v := 1) hx hb dL_locks_412 (by decide) ?_
                        refine lv_goto (tgt := 417) hx hb dL_locks_413 (by decide) ?_
                        exact fk_zretE (Nat.le_of_ble_eq_true rfl) (Nat.le_of_ble_eq_true rfl) hx hb hr hlocks hP hK hD hS rfl ⟨rfl, _, _, rfl, (hG).wk (by omega)⟩ dL_locks_417
                    | succ n1 ih1 =>
                      intro k w hk hw H locs ls hP hD hS hl
                      have h8 := kq_A8 S a
                      obtain ⟨u, hgu, hdu⟩ := kq_step hk
                      have hu9 := kq_A_lt hgu
                      refine lv_iload hx hb dL_locks_255 (lv_at hl 11 rfl) ?_
                      refine lv_if_ne (tgt := 305) hx hb dL_locks_257 (by decide) (fun c => absurd c (by decide)) (fun _ => ?_)
                      refine lv_iload hx hb dL_locks_260 (lv_at hl 0 rfl) ?_
                      refine lv_aload_n hx hb dL_locks_262 rfl (lv_at hl 14 rfl) ?_
                      refine lv_iload hx hb dL_locks_263 (lv_at hl 12 rfl) ?_
                      refine fk_callV (As := [.int (nI a)]) (rest := [.int (nI k)]) ⟨hx, hb, hml, hown, hts⟩ (kc_waiters l D ad cI cT cJ _ S a ha) (cwV 1 hts gL_locks_X2_waiters rfl rfl rfl (by decide +kernel) ⟨Nat.le_of_ble_eq_true rfl, Nat.le_of_ble_eq_true rfl⟩) (fk_rvK hK hP) hK hP hD hS hA rfl hl.1 rfl (Nat.le_of_ble_eq_true rfl) dL_locks_265 ⟨Nat.le_of_ble_eq_true rfl, Nat.le_of_ble_eq_true rfl⟩ (fun H locs hP hD hS => ?_)
                      refine W.eq (g2 := F0 m 268 ls [.int (kk_waiters S (nI a)), .int (nI k)]) rfl ?_
                      refine W.eq (g2 := F0 m 268 ls [.int (nI ((kq_A S a).length)), .int (nI k)]) (by rw [show (kk_waiters S (nI a)) = (nI ((kq_A S a).length)) from (kq_waiters _ _)]) ?_
                      refine lv_icmp_ge (tgt := 305) hx hb dL_locks_268 (by decide) (fun c_305 => absurd c_305 (nI_ge (a := k) (b := (kq_A S a).length) (by omega) (by omega))) (fun c_305 => ?_)
                      rcases Bool.eq_false_or_eq_true w with rfl | rfl
                      · have hl : lv_has ls 25 [(20, .int (nI k)), (19, .int 1), (18, .int 0), (17, .int 0), (15, .long (pl_wds S (-1))), (13, .long (pl_thr S (nI t))), (11, .long (pl_thr S (-1))), (10, .int (pl_own (S 0 a))), (9, .int (S 0 a)), (8, .int 1), (7, .int to), (6, .int 0), (5, .int (nI a)), (4, .int (nI t)), (0, .ref (ad 0)), (2, .int y), (3, .int od), (1, .ref q)] := hl
                        refine lv_iload hx hb dL_locks_271 (lv_at hl 1 rfl) ?_
                        refine lv_if_ne (tgt := 292) hx hb dL_locks_273 (by decide) (fun _ => ?_) (fun c => absurd c (by decide))
                        refine lv_iconst (v := 1) hx hb dL_locks_292 (by decide) ?_
                        refine lv_goto (tgt := 297) hx hb dL_locks_293 (by decide) ?_
                        refine lv_istore (lv' := [(19, .int 1), (20, .int (nI k)), (18, .int 0), (17, .int 0), (15, .long (pl_wds S (-1))), (13, .long (pl_thr S (nI t))), (11, .long (pl_thr S (-1))), (10, .int (pl_own (S 0 a))), (9, .int (S 0 a)), (8, .int 1), (7, .int to), (6, .int 0), (5, .int (nI a)), (4, .int (nI t)), (0, .ref (ad 0)), (2, .int y), (3, .int od), (1, .ref q)]) hx hb dL_locks_297 hl (by decide) rfl (fun ls hl => ?_)
                        refine lv_iinc (v := (nI (k + 1))) (lv' := [(20, .int (nI (k + 1))), (19, .int 1), (18, .int 0), (17, .int 0), (15, .long (pl_wds S (-1))), (13, .long (pl_thr S (nI t))), (11, .long (pl_thr S (-1))), (10, .int (pl_own (S 0 a))), (9, .int (S 0 a)), (8, .int 1), (7, .int to), (6, .int 0), (5, .int (nI a)), (4, .int (nI t)), (0, .ref (ad 0)), (2, .int y), (3, .int od), (1, .ref q)]) hx hb dL_locks_299 hl (k := 1) rfl (nI_1 k) (by decide) rfl (fun ls hl => ?_)
                        refine lv_goto (tgt := 255) hx hb dL_locks_302 (by decide) ?_
                        exact ih1 (k + 1) true (by omega) (by rw [← hw, Bool.true_or, Bool.true_or]) _ _ _ hP hD hS (lv_sub hl [0, 1, 2, 3, 4, 5, 6, 7, 8, 9, 10, 11, 12, 13, 14, 15, 16, 17] rfl)
                      · have hl : lv_has ls 25 [(20, .int (nI k)), (19, .int 0), (18, .int 0), (17, .int 0), (15, .long (pl_wds S (-1))), (13, .long (pl_thr S (nI t))), (11, .long (pl_thr S (-1))), (10, .int (pl_own (S 0 a))), (9, .int (S 0 a)), (8, .int 1), (7, .int to), (6, .int 0), (5, .int (nI a)), (4, .int (nI t)), (0, .ref (ad 0)), (2, .int y), (3, .int od), (1, .ref q)] := hl
                        by_cases hlk : S 1 u = 2
                        · refine lv_iload hx hb dL_locks_271 (lv_at hl 1 rfl) ?_
                          refine lv_if_ne (tgt := 292) hx hb dL_locks_273 (by decide) (fun c => absurd c (by decide)) (fun _ => ?_)
                          refine lv_aload_n hx hb dL_locks_276 rfl (lv_at hl 14 rfl) ?_
                          refine lv_aload_n hx hb dL_locks_277 rfl (lv_at hl 14 rfl) ?_
                          refine lv_iload hx hb dL_locks_278 (lv_at hl 12 rfl) ?_
                          refine lv_iload hx hb dL_locks_280 (lv_at hl 0 rfl) ?_
                          refine fk_callV (As := [.int (nI a), .int (nI k)]) (rest := [.ref (ad 0)]) ⟨hx, hb, hml, hown, hts⟩ (kc_waiterAt l D ad cI cT cJ _ S a ha (nI k) u (by rw [kq_wAt hG.1.J (by omega) (by omega)]; exact hgu)) (cwV 2 hts gL_locks_X2_waiterAt rfl rfl rfl (by decide +kernel) ⟨Nat.le_of_ble_eq_true rfl, Nat.le_of_ble_eq_true rfl⟩) (fk_rvK hK hP) hK hP hD hS hA rfl hl.1 rfl (Nat.le_of_ble_eq_true rfl) dL_locks_282 ⟨Nat.le_of_ble_eq_true rfl, Nat.le_of_ble_eq_true rfl⟩ (fun H locs hP hD hS => ?_)
                          refine W.eq (g2 := F0 m 285 ls [.int (nI u), .ref (ad 0)]) rfl ?_
                          refine fk_callV (As := [.int (nI u)]) (rest := []) ⟨hx, hb, hml, hown, hts⟩ (kc_stateOf l D ad cI cT cJ _ S u hu9) (cwV 1 hts gL_locks_X2_stateOf rfl rfl rfl (by decide +kernel) ⟨Nat.le_of_ble_eq_true rfl, Nat.le_of_ble_eq_true rfl⟩) (fk_rvK hK hP) hK hP hD hS hA rfl hl.1 rfl (Nat.le_of_ble_eq_true rfl) dL_locks_285 ⟨Nat.le_of_ble_eq_true rfl, Nat.le_of_ble_eq_true rfl⟩ (fun H locs hP hD hS => ?_)
                          refine W.eq (g2 := F0 m 288 ls [.int (S 1 u)]) rfl ?_
                          refine W.eq (g2 := F0 m 288 ls [.int 2]) (by rw [show (S 1 u) = (2 : Int32) from hlk]) ?_
                          refine lv_iconst (v := 2) hx hb dL_locks_288 (by decide) ?_
                          refine lv_icmp_ne (tgt := 296) hx hb dL_locks_289 (by decide) (fun c => absurd c (by decide)) (fun _ => ?_)
                          refine lv_iconst (v := 1) hx hb dL_locks_292 (by decide) ?_
                          refine lv_goto (tgt := 297) hx hb dL_locks_293 (by decide) ?_
                          refine lv_istore (lv' := [(19, .int 1), (20, .int (nI k)), (18, .int 0), (17, .int 0), (15, .long (pl_wds S (-1))), (13, .long (pl_thr S (nI t))), (11, .long (pl_thr S (-1))), (10, .int (pl_own (S 0 a))), (9, .int (S 0 a)), (8, .int 1), (7, .int to), (6, .int 0), (5, .int (nI a)), (4, .int (nI t)), (0, .ref (ad 0)), (2, .int y), (3, .int od), (1, .ref q)]) hx hb dL_locks_297 hl (by decide) rfl (fun ls hl => ?_)
                          refine lv_iinc (v := (nI (k + 1))) (lv' := [(20, .int (nI (k + 1))), (19, .int 1), (18, .int 0), (17, .int 0), (15, .long (pl_wds S (-1))), (13, .long (pl_thr S (nI t))), (11, .long (pl_thr S (-1))), (10, .int (pl_own (S 0 a))), (9, .int (S 0 a)), (8, .int 1), (7, .int to), (6, .int 0), (5, .int (nI a)), (4, .int (nI t)), (0, .ref (ad 0)), (2, .int y), (3, .int od), (1, .ref q)]) hx hb dL_locks_299 hl (k := 1) rfl (nI_1 k) (by decide) rfl (fun ls hl => ?_)
                          refine lv_goto (tgt := 255) hx hb dL_locks_302 (by decide) ?_
                          exact ih1 (k + 1) true (by omega) (by rw [← hw, hdu, List.any_cons, decide_eq_true hlk]; rfl) _ _ _ hP hD hS (lv_sub hl [0, 1, 2, 3, 4, 5, 6, 7, 8, 9, 10, 11, 12, 13, 14, 15, 16, 17] rfl)
                        · refine lv_iload hx hb dL_locks_271 (lv_at hl 1 rfl) ?_
                          refine lv_if_ne (tgt := 292) hx hb dL_locks_273 (by decide) (fun c => absurd c (by decide)) (fun _ => ?_)
                          refine lv_aload_n hx hb dL_locks_276 rfl (lv_at hl 14 rfl) ?_
                          refine lv_aload_n hx hb dL_locks_277 rfl (lv_at hl 14 rfl) ?_
                          refine lv_iload hx hb dL_locks_278 (lv_at hl 12 rfl) ?_
                          refine lv_iload hx hb dL_locks_280 (lv_at hl 0 rfl) ?_
                          refine fk_callV (As := [.int (nI a), .int (nI k)]) (rest := [.ref (ad 0)]) ⟨hx, hb, hml, hown, hts⟩ (kc_waiterAt l D ad cI cT cJ _ S a ha (nI k) u (by rw [kq_wAt hG.1.J (by omega) (by omega)]; exact hgu)) (cwV 2 hts gL_locks_X2_waiterAt rfl rfl rfl (by decide +kernel) ⟨Nat.le_of_ble_eq_true rfl, Nat.le_of_ble_eq_true rfl⟩) (fk_rvK hK hP) hK hP hD hS hA rfl hl.1 rfl (Nat.le_of_ble_eq_true rfl) dL_locks_282 ⟨Nat.le_of_ble_eq_true rfl, Nat.le_of_ble_eq_true rfl⟩ (fun H locs hP hD hS => ?_)
                          refine W.eq (g2 := F0 m 285 ls [.int (nI u), .ref (ad 0)]) rfl ?_
                          refine fk_callV (As := [.int (nI u)]) (rest := []) ⟨hx, hb, hml, hown, hts⟩ (kc_stateOf l D ad cI cT cJ _ S u hu9) (cwV 1 hts gL_locks_X2_stateOf rfl rfl rfl (by decide +kernel) ⟨Nat.le_of_ble_eq_true rfl, Nat.le_of_ble_eq_true rfl⟩) (fk_rvK hK hP) hK hP hD hS hA rfl hl.1 rfl (Nat.le_of_ble_eq_true rfl) dL_locks_285 ⟨Nat.le_of_ble_eq_true rfl, Nat.le_of_ble_eq_true rfl⟩ (fun H locs hP hD hS => ?_)
                          refine W.eq (g2 := F0 m 288 ls [.int (S 1 u)]) rfl ?_
                          refine lv_iconst (v := 2) hx hb dL_locks_288 (by decide) ?_
                          refine lv_icmp_ne (tgt := 296) hx hb dL_locks_289 (by decide) (fun c_310 => ?_) (fun c9 => absurd c9 hlk)
                          refine lv_iconst (v := 0) hx hb dL_locks_296 (by decide) ?_
                          refine lv_istore (lv' := [(19, .int 0), (20, .int (nI k)), (18, .int 0), (17, .int 0), (15, .long (pl_wds S (-1))), (13, .long (pl_thr S (nI t))), (11, .long (pl_thr S (-1))), (10, .int (pl_own (S 0 a))), (9, .int (S 0 a)), (8, .int 1), (7, .int to), (6, .int 0), (5, .int (nI a)), (4, .int (nI t)), (0, .ref (ad 0)), (2, .int y), (3, .int od), (1, .ref q)]) hx hb dL_locks_297 hl (by decide) rfl (fun ls hl => ?_)
                          refine lv_iinc (v := (nI (k + 1))) (lv' := [(20, .int (nI (k + 1))), (19, .int 0), (18, .int 0), (17, .int 0), (15, .long (pl_wds S (-1))), (13, .long (pl_thr S (nI t))), (11, .long (pl_thr S (-1))), (10, .int (pl_own (S 0 a))), (9, .int (S 0 a)), (8, .int 1), (7, .int to), (6, .int 0), (5, .int (nI a)), (4, .int (nI t)), (0, .ref (ad 0)), (2, .int y), (3, .int od), (1, .ref q)]) hx hb dL_locks_299 hl (k := 1) rfl (nI_1 k) (by decide) rfl (fun ls hl => ?_)
                          refine lv_goto (tgt := 255) hx hb dL_locks_302 (by decide) ?_
                          exact ih1 (k + 1) false (by omega) (by rw [← hw, hdu, List.any_cons, decide_eq_false hlk]; rfl) _ _ _ hP hD hS (lv_sub hl [0, 1, 2, 3, 4, 5, 6, 7, 8, 9, 10, 11, 12, 13, 14, 15, 16, 17] rfl)
                  exact loop1 (kq_A S a).length 0 false (by omega) rfl _ _ _ hP hD hS (lv_sub hl [0, 1, 2, 3, 4, 5, 6, 7, 8, 9, 10, 11, 12, 13, 14, 16, 17, 15] rfl)
                · refine lv_iconst (v := 1) hx hb dL_locks_225 (by decide) ?_
                  refine lv_goto (tgt := 230) hx hb dL_locks_226 (by decide) ?_
                  refine lv_istore (lv' := [(17, .int 1), (15, .long (pl_wds S (-1))), (13, .long (pl_thr S (nI t))), (11, .long (pl_thr S (-1))), (10, .int (pl_own (S 0 a))), (9, .int (S 0 a)), (8, .int 1), (7, .int to), (6, .int 0), (5, .int (nI a)), (4, .int (nI t)), (0, .ref (ad 0)), (1, .ref q), (2, .int y), (3, .int od)]) hx hb dL_locks_230 hl (by decide) rfl (fun ls hl => ?_)
                  refine lv_iload hx hb dL_locks_232 (lv_at hl 0 rfl) ?_
                  refine lv_if_eq (tgt := 246) hx hb dL_locks_234 (by decide) (fun c => absurd c (by decide)) (fun _ => ?_)
                  refine lv_aload_n hx hb dL_locks_237 rfl (lv_at hl 11 rfl) ?_
                  refine lv_iload hx hb dL_locks_238 (lv_at hl 10 rfl) ?_
                  refine fk_callV (As := [.int (nI t)]) (rest := []) ⟨hx, hb, hml, hown, hts⟩ (kc_locks l D ad cI cT cJ _ S t ht) (cwV 1 hts gL_locks_X2_locks rfl rfl rfl (by decide +kernel) ⟨Nat.le_of_ble_eq_true rfl, Nat.le_of_ble_eq_true rfl⟩) (fk_rvK hK hP) hK hP hD hS hA rfl hl.1 rfl (Nat.le_of_ble_eq_true rfl) dL_locks_240 ⟨Nat.le_of_ble_eq_true rfl, Nat.le_of_ble_eq_true rfl⟩ (fun H locs hP hD hS => ?_)
                  refine W.eq (g2 := F0 m 243 ls [.int (S 10 t)]) rfl ?_
                  refine lv_goto (tgt := 247) hx hb dL_locks_243 (by decide) ?_
                  refine lv_istore (lv' := [(18, .int (S 10 t)), (17, .int 1), (15, .long (pl_wds S (-1))), (13, .long (pl_thr S (nI t))), (11, .long (pl_thr S (-1))), (10, .int (pl_own (S 0 a))), (9, .int (S 0 a)), (8, .int 1), (7, .int to), (6, .int 0), (5, .int (nI a)), (4, .int (nI t)), (0, .ref (ad 0)), (1, .ref q), (2, .int y), (3, .int od)]) hx hb dL_locks_247 hl (by decide) rfl (fun ls hl => ?_)
                  refine lv_iconst (v := 0) hx hb dL_locks_249 (by decide) ?_
                  refine lv_istore (lv' := [(19, .int 0), (18, .int (S 10 t)), (17, .int 1), (15, .long (pl_wds S (-1))), (13, .long (pl_thr S (nI t))), (11, .long (pl_thr S (-1))), (10, .int (pl_own (S 0 a))), (9, .int (S 0 a)), (8, .int 1), (7, .int to), (6, .int 0), (5, .int (nI a)), (4, .int (nI t)), (0, .ref (ad 0)), (1, .ref q), (2, .int y), (3, .int od)]) hx hb dL_locks_250 hl (by decide) rfl (fun ls hl => ?_)
                  refine lv_iconst (v := 0) hx hb dL_locks_252 (by decide) ?_
                  refine lv_istore (lv' := [(20, .int 0), (19, .int 0), (18, .int (S 10 t)), (17, .int 1), (15, .long (pl_wds S (-1))), (13, .long (pl_thr S (nI t))), (11, .long (pl_thr S (-1))), (10, .int (pl_own (S 0 a))), (9, .int (S 0 a)), (8, .int 1), (7, .int to), (6, .int 0), (5, .int (nI a)), (4, .int (nI t)), (0, .ref (ad 0)), (1, .ref q), (2, .int y), (3, .int od)]) hx hb dL_locks_253 hl (by decide) rfl (fun ls hl => ?_)
                  have loop1 : ∀ (n1 : Nat) (k : Nat) (w : Bool), k + n1 = (kq_A S a).length → (w || ((kq_A S a).drop k).any (fun t => decide (S 1 t = 2))) = ((kq_A S a).any (fun t => decide (S 1 t = 2))) → ∀ (H : Heap) (locs : List Loc) (ls : Array Slot), va_P D vwCl (fk_kW ad cI cT S ++ (q, fk_pr cI P) :: X) H → va_D A (fk_kW ad cI cT S ++ (q, fk_pr cI P) :: X) → va_S A s.heap H locs → lv_has ls 25 [(20, .int (nI k)), (19, .int (fk_b w)), (18, .int (S 10 t)), (17, .int 1), (15, .long (pl_wds S (-1))), (13, .long (pl_thr S (nI t))), (11, .long (pl_thr S (-1))), (10, .int (pl_own (S 0 a))), (9, .int (S 0 a)), (8, .int 1), (7, .int to), (6, .int 0), (5, .int (nI a)), (4, .int (nI t)), (0, .ref (ad 0)), (2, .int y), (3, .int od), (1, .ref q)] → W p l e rm_E s m ([.ref (ad 0), .ref q, .int y, .int od] : List Value).toArray below meth c H locs 0 0 (MQ below (fk_QE D (fk_ty cI cT cJ) A (kq_Phi ad cI cT q X (n + 20))) ([.ref (ad 0), .ref q, .int y, .int od] : List Value).toArray s 2 12 A) (F0 m 255 ls []) := by
                    intro n1
                    induction n1 with
                    | zero =>
                      intro k w hk hw H locs ls hP hD hS hl
                      have h8 := kq_A8 S a
                      have hw9 : w = (kq_A S a).any (fun t => decide (S 1 t = 2)) := by rw [← hw, (kq_stop hk).2, List.any_nil, Bool.or_false]
                      have hl : lv_has ls 25 [(20, .int (nI k)), (19, .int (fk_b ((kq_A S a).any (fun t => decide (S 1 t = 2))))), (18, .int (S 10 t)), (17, .int 1), (15, .long (pl_wds S (-1))), (13, .long (pl_thr S (nI t))), (11, .long (pl_thr S (-1))), (10, .int (pl_own (S 0 a))), (9, .int (S 0 a)), (8, .int 1), (7, .int to), (6, .int 0), (5, .int (nI a)), (4, .int (nI t)), (0, .ref (ad 0)), (2, .int y), (3, .int od), (1, .ref q)] := by rw [hw9] at hl; exact hl
                      refine lv_iload hx hb dL_locks_255 (lv_at hl 11 rfl) ?_
                      refine lv_if_ne (tgt := 305) hx hb dL_locks_257 (by decide) (fun c => absurd c (by decide)) (fun _ => ?_)
                      refine lv_iload hx hb dL_locks_260 (lv_at hl 0 rfl) ?_
                      refine lv_aload_n hx hb dL_locks_262 rfl (lv_at hl 14 rfl) ?_
                      refine lv_iload hx hb dL_locks_263 (lv_at hl 12 rfl) ?_
                      refine fk_callV (As := [.int (nI a)]) (rest := [.int (nI k)]) ⟨hx, hb, hml, hown, hts⟩ (kc_waiters l D ad cI cT cJ _ S a ha) (cwV 1 hts gL_locks_X2_waiters rfl rfl rfl (by decide +kernel) ⟨Nat.le_of_ble_eq_true rfl, Nat.le_of_ble_eq_true rfl⟩) (fk_rvK hK hP) hK hP hD hS hA rfl hl.1 rfl (Nat.le_of_ble_eq_true rfl) dL_locks_265 ⟨Nat.le_of_ble_eq_true rfl, Nat.le_of_ble_eq_true rfl⟩ (fun H locs hP hD hS => ?_)
                      refine W.eq (g2 := F0 m 268 ls [.int (kk_waiters S (nI a)), .int (nI k)]) rfl ?_
                      refine W.eq (g2 := F0 m 268 ls [.int (nI ((kq_A S a).length)), .int (nI k)]) (by rw [show (kk_waiters S (nI a)) = (nI ((kq_A S a).length)) from (kq_waiters _ _)]) ?_
                      refine lv_icmp_ge (tgt := 305) hx hb dL_locks_268 (by decide) (fun c_313 => ?_) (fun c_313 => absurd (nI_le (a := (kq_A S a).length) (b := k) (by omega) (by omega)) c_313)
                      rcases pl_own_cases (S 0 a) with ⟨hoe, how⟩ | ⟨o, ho8, hoe, how⟩ | ⟨o, ho8, ho9, hoe, how⟩
                      · have hl : lv_has ls 25 [(20, .int (nI k)), (19, .int (fk_b ((kq_A S a).any (fun t => decide (S 1 t = 2))))), (18, .int (S 10 t)), (17, .int 1), (15, .long (pl_wds S (-1))), (13, .long (pl_thr S (nI t))), (11, .long (pl_thr S (-1))), (10, .int (-1)), (9, .int (S 0 a)), (8, .int 1), (7, .int to), (6, .int 0), (5, .int (nI a)), (4, .int (nI t)), (0, .ref (ad 0)), (2, .int y), (3, .int od), (1, .ref q)] := by rw [hoe] at hl; exact hl
                        refine lv_iload hx hb dL_locks_305 (lv_at hl 7 rfl) ?_
                        refine lv_bipush (v := 7) hx hb dL_locks_307 (by decide) ?_
                        refine lv_icmp_gt (tgt := 327) hx hb dL_locks_309 (by decide) (fun c => absurd c (by decide)) (fun _ => ?_)
                        refine lv_iload hx hb dL_locks_312 (lv_at hl 7 rfl) ?_
                        refine lv_if_lt (tgt := 331) hx hb dL_locks_314 (by decide) (fun _ => ?_) (fun c => absurd c (by decide))
                        refine lv_iconst (v := 0) hx hb dL_locks_331 (by decide) ?_
                        refine lv_istore (lv' := [(20, .int 0), (19, .int (fk_b ((kq_A S a).any (fun t => decide (S 1 t = 2))))), (18, .int (S 10 t)), (17, .int 1), (15, .long (pl_wds S (-1))), (13, .long (pl_thr S (nI t))), (11, .long (pl_thr S (-1))), (10, .int (-1)), (9, .int (S 0 a)), (8, .int 1), (7, .int to), (6, .int 0), (5, .int (nI a)), (4, .int (nI t)), (0, .ref (ad 0)), (2, .int y), (3, .int od), (1, .ref q)]) hx hb dL_locks_332 hl (by decide) rfl (fun ls hl => ?_)
                        refine lv_aload_n hx hb dL_locks_334 rfl (lv_at hl 14 rfl) ?_
                        refine lv_iconst (v := 0) hx hb dL_locks_335 (by decide) ?_
                        refine lv_iload hx hb dL_locks_336 (lv_at hl 13 rfl) ?_
                        refine lv_iload hx hb dL_locks_338 (lv_at hl 12 rfl) ?_
                        refine lv_iload hx hb dL_locks_340 (lv_at hl 10 rfl) ?_
                        refine lv_iconst (v := 0) hx hb dL_locks_342 (by decide) ?_
                        refine fk_lcallS (As := [.ref (ad 0), .int 0, .int (nI t), .int (nI a), .int to, .int 0]) (rest := []) ⟨hx, hb, hml, hown, hts⟩ (Lx_lock_IA l D ad cI cT cJ _ S _ _ _ _ (fun X => kx_lock_3 l D ad cI cT cJ X S hst t ht a ha _ hbad8)) (vx_cwSW 6 hts gL_locks_L_acts rfl rfl rfl (by decide +kernel) ⟨Nat.le_of_ble_eq_true rfl, Nat.le_of_ble_eq_true rfl⟩) hK hP hD hS hA hZ hN rfl hl.1 rfl (Nat.le_of_ble_eq_true rfl) dL_locks_343 ⟨Nat.le_of_ble_eq_true rfl, Nat.le_of_ble_eq_true rfl⟩ (fun H locs hP hD hS => ?_)
                        refine W.eq (g2 := F0 m 346 ls [.int (-2147483202)]) rfl ?_
                        refine lv_istore (lv' := [(21, .int (-2147483202)), (20, .int 0), (19, .int (fk_b ((kq_A S a).any (fun t => decide (S 1 t = 2))))), (18, .int (S 10 t)), (17, .int 1), (15, .long (pl_wds S (-1))), (13, .long (pl_thr S (nI t))), (11, .long (pl_thr S (-1))), (10, .int (-1)), (9, .int (S 0 a)), (8, .int 1), (7, .int to), (6, .int 0), (5, .int (nI a)), (4, .int (nI t)), (0, .ref (ad 0)), (2, .int y), (3, .int od), (1, .ref q)]) hx hb dL_locks_346 hl (by decide) rfl (fun ls hl => ?_)
                        refine lv_iload hx hb dL_locks_348 (lv_at hl 12 rfl) ?_
                        refine lv_if_ne (tgt := 363) hx hb dL_locks_350 (by decide) (fun c => absurd c (by decide)) (fun _ => ?_)
                        refine lv_iload hx hb dL_locks_353 (lv_at hl 10 rfl) ?_
                        refine lv_if_ne (tgt := 363) hx hb dL_locks_355 (by decide) (fun _ => ?_) (fun c => absurd c (by decide))
                        refine lv_iload hx hb dL_locks_363 (lv_at hl 0 rfl) ?_
                        refine lv_iload hx hb dL_locks_365 (lv_at hl 12 rfl) ?_
                        refine lv_if_eq (tgt := 375) hx hb dL_locks_367 (by decide) (fun _ => ?_) (fun c => absurd c (by decide))
                        refine lv_iload hx hb dL_locks_375 (lv_at hl 10 rfl) ?_
                        refine lv_if_eq (tgt := 385) hx hb dL_locks_377 (by decide) (fun c => absurd c (by decide)) (fun _ => ?_)
                        refine lv_ldc (own := RL) (v := (-2147483202)) hx hb hown (hts (.constant RL 20 (-2147483202)) (List.mem_of_getElem? (i := 2) rfl)) dL_locks_380 ?_
                        refine lv_goto (tgt := 387) hx hb dL_locks_382 (by decide) ?_
                        refine lv_icmp_ne (tgt := 416) hx hb dL_locks_387 (by decide) (fun c => absurd c (by decide)) (fun _ => ?_)
                        refine lv_aload_n hx hb dL_locks_390 rfl (lv_at hl 15 rfl) ?_
                        refine lv_iconst (v := (-1)) hx hb dL_locks_391 (by decide) ?_
                        refine fk_callS (As := [.ref (ad 0), .int (-1)]) (rest := []) ⟨hx, hb, hml, hown, hts⟩ (kl_threads l D ad cI cT cJ _ S hG.1.sz hG.1.J (-1)) (va_cwS 2 hts gL_locks_L_threads rfl rfl rfl (by decide +kernel) ⟨Nat.le_of_ble_eq_true rfl, Nat.le_of_ble_eq_true rfl⟩) hK hP hD hS hA rfl hl.1 rfl (Nat.le_of_ble_eq_true rfl) dL_locks_392 ⟨Nat.le_of_ble_eq_true rfl, Nat.le_of_ble_eq_true rfl⟩ (fun H locs hP hD hS => ?_)
                        refine W.eq (g2 := F0 m 395 ls [.long (pl_thr S (-1))]) rfl ?_
                        refine lv_lload hx hb dL_locks_395 (lv_at hl 7 rfl) ?_
                        refine W.lcmp hx hb dL_locks_397 ?_
                        refine W.eq (g2 := F0 m 398 ls [.int 0]) (by rw [fk_cmp_self]) ?_
                        refine lv_if_ne (tgt := 416) hx hb dL_locks_398 (by decide) (fun c => absurd c (by decide)) (fun _ => ?_)
                        refine lv_aload_n hx hb dL_locks_401 rfl (lv_at hl 15 rfl) ?_
                        refine lv_iconst (v := (-1)) hx hb dL_locks_402 (by decide) ?_
                        refine fk_callS (As := [.ref (ad 0), .int (-1)]) (rest := []) ⟨hx, hb, hml, hown, hts⟩ (kl_words l D ad cI cT cJ _ S (-1)) (va_cwS 2 hts gL_locks_L_words rfl rfl rfl (by decide +kernel) ⟨Nat.le_of_ble_eq_true rfl, Nat.le_of_ble_eq_true rfl⟩) hK hP hD hS hA rfl hl.1 rfl (Nat.le_of_ble_eq_true rfl) dL_locks_403 ⟨Nat.le_of_ble_eq_true rfl, Nat.le_of_ble_eq_true rfl⟩ (fun H locs hP hD hS => ?_)
                        refine W.eq (g2 := F0 m 406 ls [.long (pl_wds S (-1))]) rfl ?_
                        refine lv_lload hx hb dL_locks_406 (lv_at hl 5 rfl) ?_
                        refine W.lcmp hx hb dL_locks_408 ?_
                        refine W.eq (g2 := F0 m 409 ls [.int 0]) (by rw [fk_cmp_self]) ?_
                        refine lv_if_ne (tgt := 416) hx hb dL_locks_409 (by decide) (fun c => absurd c (by decide)) (fun _ => ?_)
                        refine lv_iconst (v := 1) hx hb dL_locks_412 (by decide) ?_
                        refine lv_goto (tgt := 417) hx hb dL_locks_413 (by decide) ?_
                        exact fk_zretE (Nat.le_of_ble_eq_true rfl) (Nat.le_of_ble_eq_true rfl) hx hb hr hlocks hP hK hD hS rfl ⟨rfl, _, _, rfl, (hG).wk (by omega)⟩ dL_locks_417
                      · have hl : lv_has ls 25 [(20, .int (nI k)), (19, .int (fk_b ((kq_A S a).any (fun t => decide (S 1 t = 2))))), (18, .int (S 10 t)), (17, .int 1), (15, .long (pl_wds S (-1))), (13, .long (pl_thr S (nI t))), (11, .long (pl_thr S (-1))), (10, .int (nI o)), (9, .int (S 0 a)), (8, .int 1), (7, .int to), (6, .int 0), (5, .int (nI a)), (4, .int (nI t)), (0, .ref (ad 0)), (2, .int y), (3, .int od), (1, .ref q)] := by rw [hoe] at hl; exact hl
                        by_cases hod : S 1 o = 3
                        · refine lv_iload hx hb dL_locks_305 (lv_at hl 7 rfl) ?_
                          refine lv_bipush (v := 7) hx hb dL_locks_307 (by decide) ?_
                          refine lv_icmp_gt (tgt := 327) hx hb dL_locks_309 (by decide) (fun c_323 => absurd c_323 (nI_nlt (a := 7) (b := o) (by omega) (by omega))) (fun c_323 => ?_)
                          refine lv_iload hx hb dL_locks_312 (lv_at hl 7 rfl) ?_
                          refine lv_if_lt (tgt := 331) hx hb dL_locks_314 (by decide) (fun c_324 => absurd c_324 (nI_pos (by omega))) (fun c_324 => ?_)
                          refine lv_aload_n hx hb dL_locks_317 rfl (lv_at hl 14 rfl) ?_
                          refine lv_iload hx hb dL_locks_318 (lv_at hl 7 rfl) ?_
                          refine fk_callV (As := [.int (nI o)]) (rest := []) ⟨hx, hb, hml, hown, hts⟩ (kc_stateOf l D ad cI cT cJ _ S o ho8) (cwV 1 hts gL_locks_X2_stateOf rfl rfl rfl (by decide +kernel) ⟨Nat.le_of_ble_eq_true rfl, Nat.le_of_ble_eq_true rfl⟩) (fk_rvK hK hP) hK hP hD hS hA rfl hl.1 rfl (Nat.le_of_ble_eq_true rfl) dL_locks_320 ⟨Nat.le_of_ble_eq_true rfl, Nat.le_of_ble_eq_true rfl⟩ (fun H locs hP hD hS => ?_)
                          refine W.eq (g2 := F0 m 323 ls [.int (S 1 o)]) rfl ?_
                          refine W.eq (g2 := F0 m 323 ls [.int 3]) (by rw [show (S 1 o) = (3 : Int32) from hod]) ?_
                          refine lv_iconst (v := 3) hx hb dL_locks_323 (by decide) ?_
                          refine lv_icmp_ne (tgt := 331) hx hb dL_locks_324 (by decide) (fun c => absurd c (by decide)) (fun _ => ?_)
                          refine lv_iconst (v := 1) hx hb dL_locks_327 (by decide) ?_
                          refine lv_goto (tgt := 332) hx hb dL_locks_328 (by decide) ?_
                          refine lv_istore (lv' := [(20, .int 1), (19, .int (fk_b ((kq_A S a).any (fun t => decide (S 1 t = 2))))), (18, .int (S 10 t)), (17, .int 1), (15, .long (pl_wds S (-1))), (13, .long (pl_thr S (nI t))), (11, .long (pl_thr S (-1))), (10, .int (nI o)), (9, .int (S 0 a)), (8, .int 1), (7, .int to), (6, .int 0), (5, .int (nI a)), (4, .int (nI t)), (0, .ref (ad 0)), (2, .int y), (3, .int od), (1, .ref q)]) hx hb dL_locks_332 hl (by decide) rfl (fun ls hl => ?_)
                          refine lv_aload_n hx hb dL_locks_334 rfl (lv_at hl 14 rfl) ?_
                          refine lv_iconst (v := 0) hx hb dL_locks_335 (by decide) ?_
                          refine lv_iload hx hb dL_locks_336 (lv_at hl 13 rfl) ?_
                          refine lv_iload hx hb dL_locks_338 (lv_at hl 12 rfl) ?_
                          refine lv_iload hx hb dL_locks_340 (lv_at hl 10 rfl) ?_
                          refine lv_iconst (v := 0) hx hb dL_locks_342 (by decide) ?_
                          refine fk_lcallS (As := [.ref (ad 0), .int 0, .int (nI t), .int (nI a), .int to, .int 0]) (rest := []) ⟨hx, hb, hml, hown, hts⟩ (Lx_lock_IA l D ad cI cT cJ _ S _ _ _ _ (fun X => kx_lock_3 l D ad cI cT cJ X S hst t ht a ha _ hbad8)) (vx_cwSW 6 hts gL_locks_L_acts rfl rfl rfl (by decide +kernel) ⟨Nat.le_of_ble_eq_true rfl, Nat.le_of_ble_eq_true rfl⟩) hK hP hD hS hA hZ hN rfl hl.1 rfl (Nat.le_of_ble_eq_true rfl) dL_locks_343 ⟨Nat.le_of_ble_eq_true rfl, Nat.le_of_ble_eq_true rfl⟩ (fun H locs hP hD hS => ?_)
                          refine W.eq (g2 := F0 m 346 ls [.int (-2147483202)]) rfl ?_
                          refine lv_istore (lv' := [(21, .int (-2147483202)), (20, .int 1), (19, .int (fk_b ((kq_A S a).any (fun t => decide (S 1 t = 2))))), (18, .int (S 10 t)), (17, .int 1), (15, .long (pl_wds S (-1))), (13, .long (pl_thr S (nI t))), (11, .long (pl_thr S (-1))), (10, .int (nI o)), (9, .int (S 0 a)), (8, .int 1), (7, .int to), (6, .int 0), (5, .int (nI a)), (4, .int (nI t)), (0, .ref (ad 0)), (2, .int y), (3, .int od), (1, .ref q)]) hx hb dL_locks_346 hl (by decide) rfl (fun ls hl => ?_)
                          refine lv_iload hx hb dL_locks_348 (lv_at hl 12 rfl) ?_
                          refine lv_if_ne (tgt := 363) hx hb dL_locks_350 (by decide) (fun c => absurd c (by decide)) (fun _ => ?_)
                          refine lv_iload hx hb dL_locks_353 (lv_at hl 10 rfl) ?_
                          refine lv_if_ne (tgt := 363) hx hb dL_locks_355 (by decide) (fun _ => ?_) (fun c => absurd c (by decide))
                          refine lv_iload hx hb dL_locks_363 (lv_at hl 0 rfl) ?_
                          refine lv_iload hx hb dL_locks_365 (lv_at hl 12 rfl) ?_
                          refine lv_if_eq (tgt := 375) hx hb dL_locks_367 (by decide) (fun _ => ?_) (fun c => absurd c (by decide))
                          refine lv_iload hx hb dL_locks_375 (lv_at hl 10 rfl) ?_
                          refine lv_if_eq (tgt := 385) hx hb dL_locks_377 (by decide) (fun c => absurd c (by decide)) (fun _ => ?_)
                          refine lv_ldc (own := RL) (v := (-2147483202)) hx hb hown (hts (.constant RL 20 (-2147483202)) (List.mem_of_getElem? (i := 2) rfl)) dL_locks_380 ?_
                          refine lv_goto (tgt := 387) hx hb dL_locks_382 (by decide) ?_
                          refine lv_icmp_ne (tgt := 416) hx hb dL_locks_387 (by decide) (fun c => absurd c (by decide)) (fun _ => ?_)
                          refine lv_aload_n hx hb dL_locks_390 rfl (lv_at hl 15 rfl) ?_
                          refine lv_iconst (v := (-1)) hx hb dL_locks_391 (by decide) ?_
                          refine fk_callS (As := [.ref (ad 0), .int (-1)]) (rest := []) ⟨hx, hb, hml, hown, hts⟩ (kl_threads l D ad cI cT cJ _ S hG.1.sz hG.1.J (-1)) (va_cwS 2 hts gL_locks_L_threads rfl rfl rfl (by decide +kernel) ⟨Nat.le_of_ble_eq_true rfl, Nat.le_of_ble_eq_true rfl⟩) hK hP hD hS hA rfl hl.1 rfl (Nat.le_of_ble_eq_true rfl) dL_locks_392 ⟨Nat.le_of_ble_eq_true rfl, Nat.le_of_ble_eq_true rfl⟩ (fun H locs hP hD hS => ?_)
                          refine W.eq (g2 := F0 m 395 ls [.long (pl_thr S (-1))]) rfl ?_
                          refine lv_lload hx hb dL_locks_395 (lv_at hl 7 rfl) ?_
                          refine W.lcmp hx hb dL_locks_397 ?_
                          refine W.eq (g2 := F0 m 398 ls [.int 0]) (by rw [fk_cmp_self]) ?_
                          refine lv_if_ne (tgt := 416) hx hb dL_locks_398 (by decide) (fun c => absurd c (by decide)) (fun _ => ?_)
                          refine lv_aload_n hx hb dL_locks_401 rfl (lv_at hl 15 rfl) ?_
                          refine lv_iconst (v := (-1)) hx hb dL_locks_402 (by decide) ?_
                          refine fk_callS (As := [.ref (ad 0), .int (-1)]) (rest := []) ⟨hx, hb, hml, hown, hts⟩ (kl_words l D ad cI cT cJ _ S (-1)) (va_cwS 2 hts gL_locks_L_words rfl rfl rfl (by decide +kernel) ⟨Nat.le_of_ble_eq_true rfl, Nat.le_of_ble_eq_true rfl⟩) hK hP hD hS hA rfl hl.1 rfl (Nat.le_of_ble_eq_true rfl) dL_locks_403 ⟨Nat.le_of_ble_eq_true rfl, Nat.le_of_ble_eq_true rfl⟩ (fun H locs hP hD hS => ?_)
                          refine W.eq (g2 := F0 m 406 ls [.long (pl_wds S (-1))]) rfl ?_
                          refine lv_lload hx hb dL_locks_406 (lv_at hl 5 rfl) ?_
                          refine W.lcmp hx hb dL_locks_408 ?_
                          refine W.eq (g2 := F0 m 409 ls [.int 0]) (by rw [fk_cmp_self]) ?_
                          refine lv_if_ne (tgt := 416) hx hb dL_locks_409 (by decide) (fun c => absurd c (by decide)) (fun _ => ?_)
                          refine lv_iconst (v := 1) hx hb dL_locks_412 (by decide) ?_
                          refine lv_goto (tgt := 417) hx hb dL_locks_413 (by decide) ?_
                          exact fk_zretE (Nat.le_of_ble_eq_true rfl) (Nat.le_of_ble_eq_true rfl) hx hb hr hlocks hP hK hD hS rfl ⟨rfl, _, _, rfl, (hG).wk (by omega)⟩ dL_locks_417
                        · refine lv_iload hx hb dL_locks_305 (lv_at hl 7 rfl) ?_
                          refine lv_bipush (v := 7) hx hb dL_locks_307 (by decide) ?_
                          refine lv_icmp_gt (tgt := 327) hx hb dL_locks_309 (by decide) (fun c_333 => absurd c_333 (nI_nlt (a := 7) (b := o) (by omega) (by omega))) (fun c_333 => ?_)
                          refine lv_iload hx hb dL_locks_312 (lv_at hl 7 rfl) ?_
                          refine lv_if_lt (tgt := 331) hx hb dL_locks_314 (by decide) (fun c_334 => absurd c_334 (nI_pos (by omega))) (fun c_334 => ?_)
                          refine lv_aload_n hx hb dL_locks_317 rfl (lv_at hl 14 rfl) ?_
                          refine lv_iload hx hb dL_locks_318 (lv_at hl 7 rfl) ?_
                          refine fk_callV (As := [.int (nI o)]) (rest := []) ⟨hx, hb, hml, hown, hts⟩ (kc_stateOf l D ad cI cT cJ _ S o ho8) (cwV 1 hts gL_locks_X2_stateOf rfl rfl rfl (by decide +kernel) ⟨Nat.le_of_ble_eq_true rfl, Nat.le_of_ble_eq_true rfl⟩) (fk_rvK hK hP) hK hP hD hS hA rfl hl.1 rfl (Nat.le_of_ble_eq_true rfl) dL_locks_320 ⟨Nat.le_of_ble_eq_true rfl, Nat.le_of_ble_eq_true rfl⟩ (fun H locs hP hD hS => ?_)
                          refine W.eq (g2 := F0 m 323 ls [.int (S 1 o)]) rfl ?_
                          refine lv_iconst (v := 3) hx hb dL_locks_323 (by decide) ?_
                          refine lv_icmp_ne (tgt := 331) hx hb dL_locks_324 (by decide) (fun c_335 => ?_) (fun c9 => absurd c9 hod)
                          refine lv_iconst (v := 0) hx hb dL_locks_331 (by decide) ?_
                          refine lv_istore (lv' := [(20, .int 0), (19, .int (fk_b ((kq_A S a).any (fun t => decide (S 1 t = 2))))), (18, .int (S 10 t)), (17, .int 1), (15, .long (pl_wds S (-1))), (13, .long (pl_thr S (nI t))), (11, .long (pl_thr S (-1))), (10, .int (nI o)), (9, .int (S 0 a)), (8, .int 1), (7, .int to), (6, .int 0), (5, .int (nI a)), (4, .int (nI t)), (0, .ref (ad 0)), (2, .int y), (3, .int od), (1, .ref q)]) hx hb dL_locks_332 hl (by decide) rfl (fun ls hl => ?_)
                          refine lv_aload_n hx hb dL_locks_334 rfl (lv_at hl 14 rfl) ?_
                          refine lv_iconst (v := 0) hx hb dL_locks_335 (by decide) ?_
                          refine lv_iload hx hb dL_locks_336 (lv_at hl 13 rfl) ?_
                          refine lv_iload hx hb dL_locks_338 (lv_at hl 12 rfl) ?_
                          refine lv_iload hx hb dL_locks_340 (lv_at hl 10 rfl) ?_
                          refine lv_iconst (v := 0) hx hb dL_locks_342 (by decide) ?_
                          refine fk_lcallS (As := [.ref (ad 0), .int 0, .int (nI t), .int (nI a), .int to, .int 0]) (rest := []) ⟨hx, hb, hml, hown, hts⟩ (Lx_lock_IA l D ad cI cT cJ _ S _ _ _ _ (fun X => kx_lock_3 l D ad cI cT cJ X S hst t ht a ha _ hbad8)) (vx_cwSW 6 hts gL_locks_L_acts rfl rfl rfl (by decide +kernel) ⟨Nat.le_of_ble_eq_true rfl, Nat.le_of_ble_eq_true rfl⟩) hK hP hD hS hA hZ hN rfl hl.1 rfl (Nat.le_of_ble_eq_true rfl) dL_locks_343 ⟨Nat.le_of_ble_eq_true rfl, Nat.le_of_ble_eq_true rfl⟩ (fun H locs hP hD hS => ?_)
                          refine W.eq (g2 := F0 m 346 ls [.int (-2147483202)]) rfl ?_
                          refine lv_istore (lv' := [(21, .int (-2147483202)), (20, .int 0), (19, .int (fk_b ((kq_A S a).any (fun t => decide (S 1 t = 2))))), (18, .int (S 10 t)), (17, .int 1), (15, .long (pl_wds S (-1))), (13, .long (pl_thr S (nI t))), (11, .long (pl_thr S (-1))), (10, .int (nI o)), (9, .int (S 0 a)), (8, .int 1), (7, .int to), (6, .int 0), (5, .int (nI a)), (4, .int (nI t)), (0, .ref (ad 0)), (2, .int y), (3, .int od), (1, .ref q)]) hx hb dL_locks_346 hl (by decide) rfl (fun ls hl => ?_)
                          refine lv_iload hx hb dL_locks_348 (lv_at hl 12 rfl) ?_
                          refine lv_if_ne (tgt := 363) hx hb dL_locks_350 (by decide) (fun c => absurd c (by decide)) (fun _ => ?_)
                          refine lv_iload hx hb dL_locks_353 (lv_at hl 10 rfl) ?_
                          refine lv_if_ne (tgt := 363) hx hb dL_locks_355 (by decide) (fun _ => ?_) (fun c => absurd c (by decide))
                          refine lv_iload hx hb dL_locks_363 (lv_at hl 0 rfl) ?_
                          refine lv_iload hx hb dL_locks_365 (lv_at hl 12 rfl) ?_
                          refine lv_if_eq (tgt := 375) hx hb dL_locks_367 (by decide) (fun _ => ?_) (fun c => absurd c (by decide))
                          refine lv_iload hx hb dL_locks_375 (lv_at hl 10 rfl) ?_
                          refine lv_if_eq (tgt := 385) hx hb dL_locks_377 (by decide) (fun c => absurd c (by decide)) (fun _ => ?_)
                          refine lv_ldc (own := RL) (v := (-2147483202)) hx hb hown (hts (.constant RL 20 (-2147483202)) (List.mem_of_getElem? (i := 2) rfl)) dL_locks_380 ?_
                          refine lv_goto (tgt := 387) hx hb dL_locks_382 (by decide) ?_
                          refine lv_icmp_ne (tgt := 416) hx hb dL_locks_387 (by decide) (fun c => absurd c (by decide)) (fun _ => ?_)
                          refine lv_aload_n hx hb dL_locks_390 rfl (lv_at hl 15 rfl) ?_
                          refine lv_iconst (v := (-1)) hx hb dL_locks_391 (by decide) ?_
                          refine fk_callS (As := [.ref (ad 0), .int (-1)]) (rest := []) ⟨hx, hb, hml, hown, hts⟩ (kl_threads l D ad cI cT cJ _ S hG.1.sz hG.1.J (-1)) (va_cwS 2 hts gL_locks_L_threads rfl rfl rfl (by decide +kernel) ⟨Nat.le_of_ble_eq_true rfl, Nat.le_of_ble_eq_true rfl⟩) hK hP hD hS hA rfl hl.1 rfl (Nat.le_of_ble_eq_true rfl) dL_locks_392 ⟨Nat.le_of_ble_eq_true rfl, Nat.le_of_ble_eq_true rfl⟩ (fun H locs hP hD hS => ?_)
                          refine W.eq (g2 := F0 m 395 ls [.long (pl_thr S (-1))]) rfl ?_
                          refine lv_lload hx hb dL_locks_395 (lv_at hl 7 rfl) ?_
                          refine W.lcmp hx hb dL_locks_397 ?_
                          refine W.eq (g2 := F0 m 398 ls [.int 0]) (by rw [fk_cmp_self]) ?_
                          refine lv_if_ne (tgt := 416) hx hb dL_locks_398 (by decide) (fun c => absurd c (by decide)) (fun _ => ?_)
                          refine lv_aload_n hx hb dL_locks_401 rfl (lv_at hl 15 rfl) ?_
                          refine lv_iconst (v := (-1)) hx hb dL_locks_402 (by decide) ?_
                          refine fk_callS (As := [.ref (ad 0), .int (-1)]) (rest := []) ⟨hx, hb, hml, hown, hts⟩ (kl_words l D ad cI cT cJ _ S (-1)) (va_cwS 2 hts gL_locks_L_words rfl rfl rfl (by decide +kernel) ⟨Nat.le_of_ble_eq_true rfl, Nat.le_of_ble_eq_true rfl⟩) hK hP hD hS hA rfl hl.1 rfl (Nat.le_of_ble_eq_true rfl) dL_locks_403 ⟨Nat.le_of_ble_eq_true rfl, Nat.le_of_ble_eq_true rfl⟩ (fun H locs hP hD hS => ?_)
                          refine W.eq (g2 := F0 m 406 ls [.long (pl_wds S (-1))]) rfl ?_
                          refine lv_lload hx hb dL_locks_406 (lv_at hl 5 rfl) ?_
                          refine W.lcmp hx hb dL_locks_408 ?_
                          refine W.eq (g2 := F0 m 409 ls [.int 0]) (by rw [fk_cmp_self]) ?_
                          refine lv_if_ne (tgt := 416) hx hb dL_locks_409 (by decide) (fun c => absurd c (by decide)) (fun _ => ?_)
                          refine lv_iconst (v := 1) hx hb dL_locks_412 (by decide) ?_
                          refine lv_goto (tgt := 417) hx hb dL_locks_413 (by decide) ?_
                          exact fk_zretE (Nat.le_of_ble_eq_true rfl) (Nat.le_of_ble_eq_true rfl) hx hb hr hlocks hP hK hD hS rfl ⟨rfl, _, _, rfl, (hG).wk (by omega)⟩ dL_locks_417
                      · have hl : lv_has ls 25 [(20, .int (nI k)), (19, .int (fk_b ((kq_A S a).any (fun t => decide (S 1 t = 2))))), (18, .int (S 10 t)), (17, .int 1), (15, .long (pl_wds S (-1))), (13, .long (pl_thr S (nI t))), (11, .long (pl_thr S (-1))), (10, .int (nI o)), (9, .int (S 0 a)), (8, .int 1), (7, .int to), (6, .int 0), (5, .int (nI a)), (4, .int (nI t)), (0, .ref (ad 0)), (2, .int y), (3, .int od), (1, .ref q)] := by rw [hoe] at hl; exact hl
                        refine lv_iload hx hb dL_locks_305 (lv_at hl 7 rfl) ?_
                        refine lv_bipush (v := 7) hx hb dL_locks_307 (by decide) ?_
                        refine lv_icmp_gt (tgt := 327) hx hb dL_locks_309 (by decide) (fun c_343 => ?_) (fun c9 => absurd (nI_lt (a := 7) (b := o) (by omega) (by omega)) c9)
                        refine lv_iconst (v := 1) hx hb dL_locks_327 (by decide) ?_
                        refine lv_goto (tgt := 332) hx hb dL_locks_328 (by decide) ?_
                        refine lv_istore (lv' := [(20, .int 1), (19, .int (fk_b ((kq_A S a).any (fun t => decide (S 1 t = 2))))), (18, .int (S 10 t)), (17, .int 1), (15, .long (pl_wds S (-1))), (13, .long (pl_thr S (nI t))), (11, .long (pl_thr S (-1))), (10, .int (nI o)), (9, .int (S 0 a)), (8, .int 1), (7, .int to), (6, .int 0), (5, .int (nI a)), (4, .int (nI t)), (0, .ref (ad 0)), (2, .int y), (3, .int od), (1, .ref q)]) hx hb dL_locks_332 hl (by decide) rfl (fun ls hl => ?_)
                        refine lv_aload_n hx hb dL_locks_334 rfl (lv_at hl 14 rfl) ?_
                        refine lv_iconst (v := 0) hx hb dL_locks_335 (by decide) ?_
                        refine lv_iload hx hb dL_locks_336 (lv_at hl 13 rfl) ?_
                        refine lv_iload hx hb dL_locks_338 (lv_at hl 12 rfl) ?_
                        refine lv_iload hx hb dL_locks_340 (lv_at hl 10 rfl) ?_
                        refine lv_iconst (v := 0) hx hb dL_locks_342 (by decide) ?_
                        refine fk_lcallS (As := [.ref (ad 0), .int 0, .int (nI t), .int (nI a), .int to, .int 0]) (rest := []) ⟨hx, hb, hml, hown, hts⟩ (Lx_lock_IA l D ad cI cT cJ _ S _ _ _ _ (fun X => kx_lock_3 l D ad cI cT cJ X S hst t ht a ha _ hbad8)) (vx_cwSW 6 hts gL_locks_L_acts rfl rfl rfl (by decide +kernel) ⟨Nat.le_of_ble_eq_true rfl, Nat.le_of_ble_eq_true rfl⟩) hK hP hD hS hA hZ hN rfl hl.1 rfl (Nat.le_of_ble_eq_true rfl) dL_locks_343 ⟨Nat.le_of_ble_eq_true rfl, Nat.le_of_ble_eq_true rfl⟩ (fun H locs hP hD hS => ?_)
                        refine W.eq (g2 := F0 m 346 ls [.int (-2147483202)]) rfl ?_
                        refine lv_istore (lv' := [(21, .int (-2147483202)), (20, .int 1), (19, .int (fk_b ((kq_A S a).any (fun t => decide (S 1 t = 2))))), (18, .int (S 10 t)), (17, .int 1), (15, .long (pl_wds S (-1))), (13, .long (pl_thr S (nI t))), (11, .long (pl_thr S (-1))), (10, .int (nI o)), (9, .int (S 0 a)), (8, .int 1), (7, .int to), (6, .int 0), (5, .int (nI a)), (4, .int (nI t)), (0, .ref (ad 0)), (2, .int y), (3, .int od), (1, .ref q)]) hx hb dL_locks_346 hl (by decide) rfl (fun ls hl => ?_)
                        refine lv_iload hx hb dL_locks_348 (lv_at hl 12 rfl) ?_
                        refine lv_if_ne (tgt := 363) hx hb dL_locks_350 (by decide) (fun c => absurd c (by decide)) (fun _ => ?_)
                        refine lv_iload hx hb dL_locks_353 (lv_at hl 10 rfl) ?_
                        refine lv_if_ne (tgt := 363) hx hb dL_locks_355 (by decide) (fun _ => ?_) (fun c => absurd c (by decide))
                        refine lv_iload hx hb dL_locks_363 (lv_at hl 0 rfl) ?_
                        refine lv_iload hx hb dL_locks_365 (lv_at hl 12 rfl) ?_
                        refine lv_if_eq (tgt := 375) hx hb dL_locks_367 (by decide) (fun _ => ?_) (fun c => absurd c (by decide))
                        refine lv_iload hx hb dL_locks_375 (lv_at hl 10 rfl) ?_
                        refine lv_if_eq (tgt := 385) hx hb dL_locks_377 (by decide) (fun c => absurd c (by decide)) (fun _ => ?_)
                        refine lv_ldc (own := RL) (v := (-2147483202)) hx hb hown (hts (.constant RL 20 (-2147483202)) (List.mem_of_getElem? (i := 2) rfl)) dL_locks_380 ?_
                        refine lv_goto (tgt := 387) hx hb dL_locks_382 (by decide) ?_
                        refine lv_icmp_ne (tgt := 416) hx hb dL_locks_387 (by decide) (fun c => absurd c (by decide)) (fun _ => ?_)
                        refine lv_aload_n hx hb dL_locks_390 rfl (lv_at hl 15 rfl) ?_
                        refine lv_iconst (v := (-1)) hx hb dL_locks_391 (by decide) ?_
                        refine fk_callS (As := [.ref (ad 0), .int (-1)]) (rest := []) ⟨hx, hb, hml, hown, hts⟩ (kl_threads l D ad cI cT cJ _ S hG.1.sz hG.1.J (-1)) (va_cwS 2 hts gL_locks_L_threads rfl rfl rfl (by decide +kernel) ⟨Nat.le_of_ble_eq_true rfl, Nat.le_of_ble_eq_true rfl⟩) hK hP hD hS hA rfl hl.1 rfl (Nat.le_of_ble_eq_true rfl) dL_locks_392 ⟨Nat.le_of_ble_eq_true rfl, Nat.le_of_ble_eq_true rfl⟩ (fun H locs hP hD hS => ?_)
                        refine W.eq (g2 := F0 m 395 ls [.long (pl_thr S (-1))]) rfl ?_
                        refine lv_lload hx hb dL_locks_395 (lv_at hl 7 rfl) ?_
                        refine W.lcmp hx hb dL_locks_397 ?_
                        refine W.eq (g2 := F0 m 398 ls [.int 0]) (by rw [fk_cmp_self]) ?_
                        refine lv_if_ne (tgt := 416) hx hb dL_locks_398 (by decide) (fun c => absurd c (by decide)) (fun _ => ?_)
                        refine lv_aload_n hx hb dL_locks_401 rfl (lv_at hl 15 rfl) ?_
                        refine lv_iconst (v := (-1)) hx hb dL_locks_402 (by decide) ?_
                        refine fk_callS (As := [.ref (ad 0), .int (-1)]) (rest := []) ⟨hx, hb, hml, hown, hts⟩ (kl_words l D ad cI cT cJ _ S (-1)) (va_cwS 2 hts gL_locks_L_words rfl rfl rfl (by decide +kernel) ⟨Nat.le_of_ble_eq_true rfl, Nat.le_of_ble_eq_true rfl⟩) hK hP hD hS hA rfl hl.1 rfl (Nat.le_of_ble_eq_true rfl) dL_locks_403 ⟨Nat.le_of_ble_eq_true rfl, Nat.le_of_ble_eq_true rfl⟩ (fun H locs hP hD hS => ?_)
                        refine W.eq (g2 := F0 m 406 ls [.long (pl_wds S (-1))]) rfl ?_
                        refine lv_lload hx hb dL_locks_406 (lv_at hl 5 rfl) ?_
                        refine W.lcmp hx hb dL_locks_408 ?_
                        refine W.eq (g2 := F0 m 409 ls [.int 0]) (by rw [fk_cmp_self]) ?_
                        refine lv_if_ne (tgt := 416) hx hb dL_locks_409 (by decide) (fun c => absurd c (by decide)) (fun _ => ?_)
                        refine lv_iconst (v := 1) hx hb dL_locks_412 (by decide) ?_
                        refine lv_goto (tgt := 417) hx hb dL_locks_413 (by decide) ?_
                        exact fk_zretE (Nat.le_of_ble_eq_true rfl) (Nat.le_of_ble_eq_true rfl) hx hb hr hlocks hP hK hD hS rfl ⟨rfl, _, _, rfl, (hG).wk (by omega)⟩ dL_locks_417
                    | succ n1 ih1 =>
                      intro k w hk hw H locs ls hP hD hS hl
                      have h8 := kq_A8 S a
                      obtain ⟨u, hgu, hdu⟩ := kq_step hk
                      have hu9 := kq_A_lt hgu
                      refine lv_iload hx hb dL_locks_255 (lv_at hl 11 rfl) ?_
                      refine lv_if_ne (tgt := 305) hx hb dL_locks_257 (by decide) (fun c => absurd c (by decide)) (fun _ => ?_)
                      refine lv_iload hx hb dL_locks_260 (lv_at hl 0 rfl) ?_
                      refine lv_aload_n hx hb dL_locks_262 rfl (lv_at hl 14 rfl) ?_
                      refine lv_iload hx hb dL_locks_263 (lv_at hl 12 rfl) ?_
                      refine fk_callV (As := [.int (nI a)]) (rest := [.int (nI k)]) ⟨hx, hb, hml, hown, hts⟩ (kc_waiters l D ad cI cT cJ _ S a ha) (cwV 1 hts gL_locks_X2_waiters rfl rfl rfl (by decide +kernel) ⟨Nat.le_of_ble_eq_true rfl, Nat.le_of_ble_eq_true rfl⟩) (fk_rvK hK hP) hK hP hD hS hA rfl hl.1 rfl (Nat.le_of_ble_eq_true rfl) dL_locks_265 ⟨Nat.le_of_ble_eq_true rfl, Nat.le_of_ble_eq_true rfl⟩ (fun H locs hP hD hS => ?_)
                      refine W.eq (g2 := F0 m 268 ls [.int (kk_waiters S (nI a)), .int (nI k)]) rfl ?_
                      refine W.eq (g2 := F0 m 268 ls [.int (nI ((kq_A S a).length)), .int (nI k)]) (by rw [show (kk_waiters S (nI a)) = (nI ((kq_A S a).length)) from (kq_waiters _ _)]) ?_
                      refine lv_icmp_ge (tgt := 305) hx hb dL_locks_268 (by decide) (fun c_352 => absurd c_352 (nI_ge (a := k) (b := (kq_A S a).length) (by omega) (by omega))) (fun c_352 => ?_)
                      rcases Bool.eq_false_or_eq_true w with rfl | rfl
                      · have hl : lv_has ls 25 [(20, .int (nI k)), (19, .int 1), (18, .int (S 10 t)), (17, .int 1), (15, .long (pl_wds S (-1))), (13, .long (pl_thr S (nI t))), (11, .long (pl_thr S (-1))), (10, .int (pl_own (S 0 a))), (9, .int (S 0 a)), (8, .int 1), (7, .int to), (6, .int 0), (5, .int (nI a)), (4, .int (nI t)), (0, .ref (ad 0)), (2, .int y), (3, .int od), (1, .ref q)] := hl
                        refine lv_iload hx hb dL_locks_271 (lv_at hl 1 rfl) ?_
                        refine lv_if_ne (tgt := 292) hx hb dL_locks_273 (by decide) (fun _ => ?_) (fun c => absurd c (by decide))
                        refine lv_iconst (v := 1) hx hb dL_locks_292 (by decide) ?_
                        refine lv_goto (tgt := 297) hx hb dL_locks_293 (by decide) ?_
                        refine lv_istore (lv' := [(19, .int 1), (20, .int (nI k)), (18, .int (S 10 t)), (17, .int 1), (15, .long (pl_wds S (-1))), (13, .long (pl_thr S (nI t))), (11, .long (pl_thr S (-1))), (10, .int (pl_own (S 0 a))), (9, .int (S 0 a)), (8, .int 1), (7, .int to), (6, .int 0), (5, .int (nI a)), (4, .int (nI t)), (0, .ref (ad 0)), (2, .int y), (3, .int od), (1, .ref q)]) hx hb dL_locks_297 hl (by decide) rfl (fun ls hl => ?_)
                        refine lv_iinc (v := (nI (k + 1))) (lv' := [(20, .int (nI (k + 1))), (19, .int 1), (18, .int (S 10 t)), (17, .int 1), (15, .long (pl_wds S (-1))), (13, .long (pl_thr S (nI t))), (11, .long (pl_thr S (-1))), (10, .int (pl_own (S 0 a))), (9, .int (S 0 a)), (8, .int 1), (7, .int to), (6, .int 0), (5, .int (nI a)), (4, .int (nI t)), (0, .ref (ad 0)), (2, .int y), (3, .int od), (1, .ref q)]) hx hb dL_locks_299 hl (k := 1) rfl (nI_1 k) (by decide) rfl (fun ls hl => ?_)
                        refine lv_goto (tgt := 255) hx hb dL_locks_302 (by decide) ?_
                        exact ih1 (k + 1) true (by omega) (by rw [← hw, Bool.true_or, Bool.true_or]) _ _ _ hP hD hS (lv_sub hl [0, 1, 2, 3, 4, 5, 6, 7, 8, 9, 10, 11, 12, 13, 14, 15, 16, 17] rfl)
                      · have hl : lv_has ls 25 [(20, .int (nI k)), (19, .int 0), (18, .int (S 10 t)), (17, .int 1), (15, .long (pl_wds S (-1))), (13, .long (pl_thr S (nI t))), (11, .long (pl_thr S (-1))), (10, .int (pl_own (S 0 a))), (9, .int (S 0 a)), (8, .int 1), (7, .int to), (6, .int 0), (5, .int (nI a)), (4, .int (nI t)), (0, .ref (ad 0)), (2, .int y), (3, .int od), (1, .ref q)] := hl
                        by_cases hlk : S 1 u = 2
                        · refine lv_iload hx hb dL_locks_271 (lv_at hl 1 rfl) ?_
                          refine lv_if_ne (tgt := 292) hx hb dL_locks_273 (by decide) (fun c => absurd c (by decide)) (fun _ => ?_)
                          refine lv_aload_n hx hb dL_locks_276 rfl (lv_at hl 14 rfl) ?_
                          refine lv_aload_n hx hb dL_locks_277 rfl (lv_at hl 14 rfl) ?_
                          refine lv_iload hx hb dL_locks_278 (lv_at hl 12 rfl) ?_
                          refine lv_iload hx hb dL_locks_280 (lv_at hl 0 rfl) ?_
                          refine fk_callV (As := [.int (nI a), .int (nI k)]) (rest := [.ref (ad 0)]) ⟨hx, hb, hml, hown, hts⟩ (kc_waiterAt l D ad cI cT cJ _ S a ha (nI k) u (by rw [kq_wAt hG.1.J (by omega) (by omega)]; exact hgu)) (cwV 2 hts gL_locks_X2_waiterAt rfl rfl rfl (by decide +kernel) ⟨Nat.le_of_ble_eq_true rfl, Nat.le_of_ble_eq_true rfl⟩) (fk_rvK hK hP) hK hP hD hS hA rfl hl.1 rfl (Nat.le_of_ble_eq_true rfl) dL_locks_282 ⟨Nat.le_of_ble_eq_true rfl, Nat.le_of_ble_eq_true rfl⟩ (fun H locs hP hD hS => ?_)
                          refine W.eq (g2 := F0 m 285 ls [.int (nI u), .ref (ad 0)]) rfl ?_
                          refine fk_callV (As := [.int (nI u)]) (rest := []) ⟨hx, hb, hml, hown, hts⟩ (kc_stateOf l D ad cI cT cJ _ S u hu9) (cwV 1 hts gL_locks_X2_stateOf rfl rfl rfl (by decide +kernel) ⟨Nat.le_of_ble_eq_true rfl, Nat.le_of_ble_eq_true rfl⟩) (fk_rvK hK hP) hK hP hD hS hA rfl hl.1 rfl (Nat.le_of_ble_eq_true rfl) dL_locks_285 ⟨Nat.le_of_ble_eq_true rfl, Nat.le_of_ble_eq_true rfl⟩ (fun H locs hP hD hS => ?_)
                          refine W.eq (g2 := F0 m 288 ls [.int (S 1 u)]) rfl ?_
                          refine W.eq (g2 := F0 m 288 ls [.int 2]) (by rw [show (S 1 u) = (2 : Int32) from hlk]) ?_
                          refine lv_iconst (v := 2) hx hb dL_locks_288 (by decide) ?_
                          refine lv_icmp_ne (tgt := 296) hx hb dL_locks_289 (by decide) (fun c => absurd c (by decide)) (fun _ => ?_)
                          refine lv_iconst (v := 1) hx hb dL_locks_292 (by decide) ?_
                          refine lv_goto (tgt := 297) hx hb dL_locks_293 (by decide) ?_
                          refine lv_istore (lv' := [(19, .int 1), (20, .int (nI k)), (18, .int (S 10 t)), (17, .int 1), (15, .long (pl_wds S (-1))), (13, .long (pl_thr S (nI t))), (11, .long (pl_thr S (-1))), (10, .int (pl_own (S 0 a))), (9, .int (S 0 a)), (8, .int 1), (7, .int to), (6, .int 0), (5, .int (nI a)), (4, .int (nI t)), (0, .ref (ad 0)), (2, .int y), (3, .int od), (1, .ref q)]) hx hb dL_locks_297 hl (by decide) rfl (fun ls hl => ?_)
                          refine lv_iinc (v := (nI (k + 1))) (lv' := [(20, .int (nI (k + 1))), (19, .int 1), (18, .int (S 10 t)), (17, .int 1), (15, .long (pl_wds S (-1))), (13, .long (pl_thr S (nI t))), (11, .long (pl_thr S (-1))), (10, .int (pl_own (S 0 a))), (9, .int (S 0 a)), (8, .int 1), (7, .int to), (6, .int 0), (5, .int (nI a)), (4, .int (nI t)), (0, .ref (ad 0)), (2, .int y), (3, .int od), (1, .ref q)]) hx hb dL_locks_299 hl (k := 1) rfl (nI_1 k) (by decide) rfl (fun ls hl => ?_)
                          refine lv_goto (tgt := 255) hx hb dL_locks_302 (by decide) ?_
                          exact ih1 (k + 1) true (by omega) (by rw [← hw, hdu, List.any_cons, decide_eq_true hlk]; rfl) _ _ _ hP hD hS (lv_sub hl [0, 1, 2, 3, 4, 5, 6, 7, 8, 9, 10, 11, 12, 13, 14, 15, 16, 17] rfl)
                        · refine lv_iload hx hb dL_locks_271 (lv_at hl 1 rfl) ?_
                          refine lv_if_ne (tgt := 292) hx hb dL_locks_273 (by decide) (fun c => absurd c (by decide)) (fun _ => ?_)
                          refine lv_aload_n hx hb dL_locks_276 rfl (lv_at hl 14 rfl) ?_
                          refine lv_aload_n hx hb dL_locks_277 rfl (lv_at hl 14 rfl) ?_
                          refine lv_iload hx hb dL_locks_278 (lv_at hl 12 rfl) ?_
                          refine lv_iload hx hb dL_locks_280 (lv_at hl 0 rfl) ?_
                          refine fk_callV (As := [.int (nI a), .int (nI k)]) (rest := [.ref (ad 0)]) ⟨hx, hb, hml, hown, hts⟩ (kc_waiterAt l D ad cI cT cJ _ S a ha (nI k) u (by rw [kq_wAt hG.1.J (by omega) (by omega)]; exact hgu)) (cwV 2 hts gL_locks_X2_waiterAt rfl rfl rfl (by decide +kernel) ⟨Nat.le_of_ble_eq_true rfl, Nat.le_of_ble_eq_true rfl⟩) (fk_rvK hK hP) hK hP hD hS hA rfl hl.1 rfl (Nat.le_of_ble_eq_true rfl) dL_locks_282 ⟨Nat.le_of_ble_eq_true rfl, Nat.le_of_ble_eq_true rfl⟩ (fun H locs hP hD hS => ?_)
                          refine W.eq (g2 := F0 m 285 ls [.int (nI u), .ref (ad 0)]) rfl ?_
                          refine fk_callV (As := [.int (nI u)]) (rest := []) ⟨hx, hb, hml, hown, hts⟩ (kc_stateOf l D ad cI cT cJ _ S u hu9) (cwV 1 hts gL_locks_X2_stateOf rfl rfl rfl (by decide +kernel) ⟨Nat.le_of_ble_eq_true rfl, Nat.le_of_ble_eq_true rfl⟩) (fk_rvK hK hP) hK hP hD hS hA rfl hl.1 rfl (Nat.le_of_ble_eq_true rfl) dL_locks_285 ⟨Nat.le_of_ble_eq_true rfl, Nat.le_of_ble_eq_true rfl⟩ (fun H locs hP hD hS => ?_)
                          refine W.eq (g2 := F0 m 288 ls [.int (S 1 u)]) rfl ?_
                          refine lv_iconst (v := 2) hx hb dL_locks_288 (by decide) ?_
                          refine lv_icmp_ne (tgt := 296) hx hb dL_locks_289 (by decide) (fun c_357 => ?_) (fun c9 => absurd c9 hlk)
                          refine lv_iconst (v := 0) hx hb dL_locks_296 (by decide) ?_
                          refine lv_istore (lv' := [(19, .int 0), (20, .int (nI k)), (18, .int (S 10 t)), (17, .int 1), (15, .long (pl_wds S (-1))), (13, .long (pl_thr S (nI t))), (11, .long (pl_thr S (-1))), (10, .int (pl_own (S 0 a))), (9, .int (S 0 a)), (8, .int 1), (7, .int to), (6, .int 0), (5, .int (nI a)), (4, .int (nI t)), (0, .ref (ad 0)), (2, .int y), (3, .int od), (1, .ref q)]) hx hb dL_locks_297 hl (by decide) rfl (fun ls hl => ?_)
                          refine lv_iinc (v := (nI (k + 1))) (lv' := [(20, .int (nI (k + 1))), (19, .int 0), (18, .int (S 10 t)), (17, .int 1), (15, .long (pl_wds S (-1))), (13, .long (pl_thr S (nI t))), (11, .long (pl_thr S (-1))), (10, .int (pl_own (S 0 a))), (9, .int (S 0 a)), (8, .int 1), (7, .int to), (6, .int 0), (5, .int (nI a)), (4, .int (nI t)), (0, .ref (ad 0)), (2, .int y), (3, .int od), (1, .ref q)]) hx hb dL_locks_299 hl (k := 1) rfl (nI_1 k) (by decide) rfl (fun ls hl => ?_)
                          refine lv_goto (tgt := 255) hx hb dL_locks_302 (by decide) ?_
                          exact ih1 (k + 1) false (by omega) (by rw [← hw, hdu, List.any_cons, decide_eq_false hlk]; rfl) _ _ _ hP hD hS (lv_sub hl [0, 1, 2, 3, 4, 5, 6, 7, 8, 9, 10, 11, 12, 13, 14, 15, 16, 17] rfl)
                  exact loop1 (kq_A S a).length 0 false (by omega) rfl _ _ _ hP hD hS (lv_sub hl [0, 1, 2, 3, 4, 5, 6, 7, 8, 9, 10, 11, 12, 13, 14, 16, 17, 15] rfl)
            refine lv_iload hx hb dL_locks_133 (lv_at hl 0 rfl) ?_
            refine lv_if_lt (tgt := 146) hx hb dL_locks_135 (by decide) (fun c_358 => ?_) (fun c_358 => ?_)
            · refine lv_iconst (v := 1) hx hb dL_locks_146 (by decide) ?_
              refine lv_goto (tgt := 151) hx hb dL_locks_147 (by decide) ?_
              exact jn151 1 (by first | (rw [fk_wA (v := to) (lo := 0) (hi := 10000) (by assumption)]; rfl) | (rw [fk_wC (v := to) (lo := 0) (hi := 10000) (by assumption)]; rfl) | (rw [fk_wF (v := to) (lo := 0) (hi := 10000) (by assumption) (by assumption)]; rfl)) _ _ _ hP hD hS hl
            · refine lv_iload hx hb dL_locks_138 (lv_at hl 0 rfl) ?_
              refine lv_sipush (v := 10000) hx hb dL_locks_140 (by decide) ?_
              refine lv_icmp_le (tgt := 150) hx hb dL_locks_143 (by decide) (fun c_359 => ?_) (fun c_359 => ?_)
              · refine lv_iconst (v := 0) hx hb dL_locks_150 (by decide) ?_
                exact jn151 0 (by first | (rw [fk_wA (v := to) (lo := 0) (hi := 10000) (by assumption)]; rfl) | (rw [fk_wC (v := to) (lo := 0) (hi := 10000) (by assumption)]; rfl) | (rw [fk_wF (v := to) (lo := 0) (hi := 10000) (by assumption) (by assumption)]; rfl)) _ _ _ hP hD hS hl
              · refine lv_iconst (v := 1) hx hb dL_locks_146 (by decide) ?_
                refine lv_goto (tgt := 151) hx hb dL_locks_147 (by decide) ?_
                exact jn151 1 (by first | (rw [fk_wA (v := to) (lo := 0) (hi := 10000) (by assumption)]; rfl) | (rw [fk_wC (v := to) (lo := 0) (hi := 10000) (by assumption)]; rfl) | (rw [fk_wF (v := to) (lo := 0) (hi := 10000) (by assumption) (by assumption)]; rfl)) _ _ _ hP hD hS hl
          refine lv_iload_n hx hb dL_locks_86 rfl (lv_at hl 6 rfl) ?_
          refine lv_if_eq (tgt := 105) hx hb dL_locks_87 (by decide) (fun c_360 => ?_) (fun c_360 => ?_)
          · refine lv_iload_n hx hb dL_locks_105 rfl (lv_at hl 5 rfl) ?_
            refine lv_bipush (v := 9) hx hb dL_locks_106 (by decide) ?_
            refine lv_ishr hx hb dL_locks_108 ?_
            refine lv_iconst (v := 2) hx hb dL_locks_109 (by decide) ?_
            refine fk_callS (As := [.int (y >>> (9 &&& 31)), .int 2]) (rest := []) ⟨hx, hb, hml, hown, hts⟩ (kl_some l D ad cI cT cJ _ S (y >>> (9 &&& 31)) 2 (by decide)) (va_cwS 2 hts gL_locks_L_some rfl rfl rfl (by decide +kernel) ⟨Nat.le_of_ble_eq_true rfl, Nat.le_of_ble_eq_true rfl⟩) hK hP hD hS hA rfl hl.1 rfl (Nat.le_of_ble_eq_true rfl) dL_locks_110 ⟨Nat.le_of_ble_eq_true rfl, Nat.le_of_ble_eq_true rfl⟩ (fun H locs hP hD hS => ?_)
            refine W.eq (g2 := F0 m 113 ls [.int (pl_some (y >>> (9 &&& 31)) 2)]) rfl ?_
            refine lv_if_ne (tgt := 120) hx hb dL_locks_113 (by decide) (fun c_361 => ?_) (fun c_361 => ?_)
            · refine lv_iconst (v := 1) hx hb dL_locks_120 (by decide) ?_
              refine lv_iload_n hx hb dL_locks_121 rfl (lv_at hl 5 rfl) ?_
              refine lv_bipush (v := 11) hx hb dL_locks_122 (by decide) ?_
              refine lv_ishr hx hb dL_locks_124 ?_
              refine lv_bipush (v := 20) hx hb dL_locks_125 (by decide) ?_
              refine fk_callS (As := [.int (y >>> (11 &&& 31)), .int 20]) (rest := [.int 1]) ⟨hx, hb, hml, hown, hts⟩ (kl_some l D ad cI cT cJ _ S (y >>> (11 &&& 31)) 20 (by decide)) (va_cwS 2 hts gL_locks_L_some rfl rfl rfl (by decide +kernel) ⟨Nat.le_of_ble_eq_true rfl, Nat.le_of_ble_eq_true rfl⟩) hK hP hD hS hA rfl hl.1 rfl (Nat.le_of_ble_eq_true rfl) dL_locks_127 ⟨Nat.le_of_ble_eq_true rfl, Nat.le_of_ble_eq_true rfl⟩ (fun H locs hP hD hS => ?_)
              refine W.eq (g2 := F0 m 130 ls [.int (pl_some (y >>> (11 &&& 31)) 20), .int 1]) rfl ?_
              refine lv_iadd hx hb dL_locks_130 ?_
              exact jn131 ((1 : Int32) + (pl_some (y >>> (11 &&& 31)) 20)) _ _ _ hP hD hS hl
            · refine lv_iconst (v := 0) hx hb dL_locks_116 (by decide) ?_
              refine lv_goto (tgt := 131) hx hb dL_locks_117 (by decide) ?_
              exact jn131 0 _ _ _ hP hD hS hl
          · refine lv_iload_n hx hb dL_locks_90 rfl (lv_at hl 5 rfl) ?_
            refine lv_bipush (v := 9) hx hb dL_locks_91 (by decide) ?_
            refine lv_ishr hx hb dL_locks_93 ?_
            refine lv_sipush (v := 10010) hx hb dL_locks_94 (by decide) ?_
            refine fk_callS (As := [.int (y >>> (9 &&& 31)), .int 10010]) (rest := []) ⟨hx, hb, hml, hown, hts⟩ (kl_some l D ad cI cT cJ _ S (y >>> (9 &&& 31)) 10010 (by decide)) (va_cwS 2 hts gL_locks_L_some rfl rfl rfl (by decide +kernel) ⟨Nat.le_of_ble_eq_true rfl, Nat.le_of_ble_eq_true rfl⟩) hK hP hD hS hA rfl hl.1 rfl (Nat.le_of_ble_eq_true rfl) dL_locks_97 ⟨Nat.le_of_ble_eq_true rfl, Nat.le_of_ble_eq_true rfl⟩ (fun H locs hP hD hS => ?_)
            refine W.eq (g2 := F0 m 100 ls [.int (pl_some (y >>> (9 &&& 31)) 10010)]) rfl ?_
            refine lv_iconst (v := 5) hx hb dL_locks_100 (by decide) ?_
            refine lv_isub hx hb dL_locks_101 ?_
            refine lv_goto (tgt := 131) hx hb dL_locks_102 (by decide) ?_
            exact jn131 ((pl_some (y >>> (9 &&& 31)) 10010) - 5) _ _ _ hP hD hS hl
        · have hov : ov = 1 := by rw [h_ov, Bool.eq_false_iff.mpr hout]; rfl
          have hout9 : (fk_isT th && fk_isA av) = false := Bool.eq_false_iff.mpr hout
          have hl : lv_has ls 25 [(6, .int 1), (5, .int av), (4, .int th), (0, .ref (ad 0)), (1, .ref q), (2, .int y), (3, .int od)] := by rw [hov] at hl; exact hl
          have jn131 : ∀ (to : Int32), ∀ (H : Heap) (locs : List Loc) (ls : Array Slot), va_P D vwCl (fk_kW ad cI cT S ++ (q, fk_pr cI P) :: X) H → va_D A (fk_kW ad cI cT S ++ (q, fk_pr cI P) :: X) → va_S A s.heap H locs → lv_has ls 25 [(6, .int 1), (5, .int av), (4, .int th), (0, .ref (ad 0)), (1, .ref q), (2, .int y), (3, .int od)] → W p l e rm_E s m ([.ref (ad 0), .ref q, .int y, .int od] : List Value).toArray below meth c H locs 0 0 (MQ below (fk_QE D (fk_ty cI cT cJ) A (kq_Phi ad cI cT q X (n + 20))) ([.ref (ad 0), .ref q, .int y, .int od] : List Value).toArray s 2 12 A) (F0 m 131 ls [.int to]) := by
            intro to H locs ls hP hD hS hl
            refine lv_istore (lv' := [(7, .int to), (6, .int 1), (5, .int av), (4, .int th), (0, .ref (ad 0)), (1, .ref q), (2, .int y), (3, .int od)]) hx hb dL_locks_131 hl (by decide) rfl (fun ls hl => ?_)
            have jn151 : ∀ (bv : Int32), bv = fk_b (!fk_btw to 0 10000) → ∀ (H : Heap) (locs : List Loc) (ls : Array Slot), va_P D vwCl (fk_kW ad cI cT S ++ (q, fk_pr cI P) :: X) H → va_D A (fk_kW ad cI cT S ++ (q, fk_pr cI P) :: X) → va_S A s.heap H locs → lv_has ls 25 [(7, .int to), (6, .int 1), (5, .int av), (4, .int th), (0, .ref (ad 0)), (1, .ref q), (2, .int y), (3, .int od)] → W p l e rm_E s m ([.ref (ad 0), .ref q, .int y, .int od] : List Value).toArray below meth c H locs 0 0 (MQ below (fk_QE D (fk_ty cI cT cJ) A (kq_Phi ad cI cT q X (n + 20))) ([.ref (ad 0), .ref q, .int y, .int od] : List Value).toArray s 2 12 A) (F0 m 151 ls [.int bv]) := by
              intro bv h_bv H locs ls hP hD hS hl
              refine lv_istore (lv' := [(8, .int bv), (7, .int to), (6, .int 1), (5, .int av), (4, .int th), (0, .ref (ad 0)), (1, .ref q), (2, .int y), (3, .int od)]) hx hb dL_locks_151 hl (by decide) rfl (fun ls hl => ?_)
              refine lv_iload hx hb dL_locks_153 (lv_at hl 2 rfl) ?_
              refine lv_if_eq (tgt := 162) hx hb dL_locks_155 (by decide) (fun c => absurd c (by decide)) (fun _ => ?_)
              refine lv_iconst (v := 0) hx hb dL_locks_158 (by decide) ?_
              refine lv_goto (tgt := 168) hx hb dL_locks_159 (by decide) ?_
              refine lv_istore (lv' := [(9, .int 0), (8, .int bv), (7, .int to), (6, .int 1), (5, .int av), (4, .int th), (0, .ref (ad 0)), (1, .ref q), (2, .int y), (3, .int od)]) hx hb dL_locks_168 hl (by decide) rfl (fun ls hl => ?_)
              refine lv_iload hx hb dL_locks_170 (lv_at hl 0 rfl) ?_
              refine lv_sipush (v := 255) hx hb dL_locks_172 (by decide) ?_
              refine lv_iand hx hb dL_locks_175 ?_
              refine lv_iconst (v := 1) hx hb dL_locks_176 (by decide) ?_
              refine lv_isub hx hb dL_locks_177 ?_
              refine W.eq (g2 := F0 m 178 ls [.int (-1)]) (by rw [show ((0 : Int32) &&& 255) - 1 = -1 from by decide]) ?_
              refine lv_istore (lv' := [(10, .int (-1)), (9, .int 0), (8, .int bv), (7, .int to), (6, .int 1), (5, .int av), (4, .int th), (0, .ref (ad 0)), (1, .ref q), (2, .int y), (3, .int od)]) hx hb dL_locks_178 hl (by decide) rfl (fun ls hl => ?_)
              refine lv_aload_n hx hb dL_locks_180 rfl (lv_at hl 7 rfl) ?_
              refine lv_iconst (v := (-1)) hx hb dL_locks_181 (by decide) ?_
              refine fk_callS (As := [.ref (ad 0), .int (-1)]) (rest := []) ⟨hx, hb, hml, hown, hts⟩ (kl_threads l D ad cI cT cJ _ S hG.1.sz hG.1.J (-1)) (va_cwS 2 hts gL_locks_L_threads rfl rfl rfl (by decide +kernel) ⟨Nat.le_of_ble_eq_true rfl, Nat.le_of_ble_eq_true rfl⟩) hK hP hD hS hA rfl hl.1 rfl (Nat.le_of_ble_eq_true rfl) dL_locks_182 ⟨Nat.le_of_ble_eq_true rfl, Nat.le_of_ble_eq_true rfl⟩ (fun H locs hP hD hS => ?_)
              refine W.eq (g2 := F0 m 185 ls [.long (pl_thr S (-1))]) rfl ?_
              refine lv_lstore (lv' := [(11, .long (pl_thr S (-1))), (10, .int (-1)), (9, .int 0), (8, .int bv), (7, .int to), (6, .int 1), (5, .int av), (4, .int th), (0, .ref (ad 0)), (1, .ref q), (2, .int y), (3, .int od)]) hx hb dL_locks_185 hl (by decide) rfl (fun ls hl => ?_)
              refine lv_aload_n hx hb dL_locks_187 rfl (lv_at hl 8 rfl) ?_
              refine lv_iload hx hb dL_locks_188 (lv_at hl 5 rfl) ?_
              refine lv_if_eq (tgt := 197) hx hb dL_locks_190 (by decide) (fun c => absurd c (by decide)) (fun _ => ?_)
              refine lv_iconst (v := (-1)) hx hb dL_locks_193 (by decide) ?_
              refine lv_goto (tgt := 199) hx hb dL_locks_194 (by decide) ?_
              refine fk_callS (As := [.ref (ad 0), .int (-1)]) (rest := []) ⟨hx, hb, hml, hown, hts⟩ (kl_threads l D ad cI cT cJ _ S hG.1.sz hG.1.J (-1)) (va_cwS 2 hts gL_locks_L_threads rfl rfl rfl (by decide +kernel) ⟨Nat.le_of_ble_eq_true rfl, Nat.le_of_ble_eq_true rfl⟩) hK hP hD hS hA rfl hl.1 rfl (Nat.le_of_ble_eq_true rfl) dL_locks_199 ⟨Nat.le_of_ble_eq_true rfl, Nat.le_of_ble_eq_true rfl⟩ (fun H locs hP hD hS => ?_)
              refine W.eq (g2 := F0 m 202 ls [.long (pl_thr S (-1))]) rfl ?_
              refine lv_lstore (lv' := [(13, .long (pl_thr S (-1))), (11, .long (pl_thr S (-1))), (10, .int (-1)), (9, .int 0), (8, .int bv), (7, .int to), (6, .int 1), (5, .int av), (4, .int th), (0, .ref (ad 0)), (1, .ref q), (2, .int y), (3, .int od)]) hx hb dL_locks_202 hl (by decide) rfl (fun ls hl => ?_)
              refine lv_aload_n hx hb dL_locks_204 rfl (lv_at hl 9 rfl) ?_
              refine lv_iconst (v := (-1)) hx hb dL_locks_205 (by decide) ?_
              refine fk_callS (As := [.ref (ad 0), .int (-1)]) (rest := []) ⟨hx, hb, hml, hown, hts⟩ (kl_words l D ad cI cT cJ _ S (-1)) (va_cwS 2 hts gL_locks_L_words rfl rfl rfl (by decide +kernel) ⟨Nat.le_of_ble_eq_true rfl, Nat.le_of_ble_eq_true rfl⟩) hK hP hD hS hA rfl hl.1 rfl (Nat.le_of_ble_eq_true rfl) dL_locks_206 ⟨Nat.le_of_ble_eq_true rfl, Nat.le_of_ble_eq_true rfl⟩ (fun H locs hP hD hS => ?_)
              refine W.eq (g2 := F0 m 209 ls [.long (pl_wds S (-1))]) rfl ?_
              refine lv_lstore (lv' := [(15, .long (pl_wds S (-1))), (13, .long (pl_thr S (-1))), (11, .long (pl_thr S (-1))), (10, .int (-1)), (9, .int 0), (8, .int bv), (7, .int to), (6, .int 1), (5, .int av), (4, .int th), (0, .ref (ad 0)), (1, .ref q), (2, .int y), (3, .int od)]) hx hb dL_locks_209 hl (by decide) rfl (fun ls hl => ?_)
              refine lv_iload hx hb dL_locks_211 (lv_at hl 7 rfl) ?_
              refine lv_if_ne (tgt := 229) hx hb dL_locks_213 (by decide) (fun _ => ?_) (fun c => absurd c (by decide))
              refine lv_iconst (v := 0) hx hb dL_locks_229 (by decide) ?_
              refine lv_istore (lv' := [(17, .int 0), (15, .long (pl_wds S (-1))), (13, .long (pl_thr S (-1))), (11, .long (pl_thr S (-1))), (10, .int (-1)), (9, .int 0), (8, .int bv), (7, .int to), (6, .int 1), (5, .int av), (4, .int th), (0, .ref (ad 0)), (1, .ref q), (2, .int y), (3, .int od)]) hx hb dL_locks_230 hl (by decide) rfl (fun ls hl => ?_)
              refine lv_iload hx hb dL_locks_232 (lv_at hl 0 rfl) ?_
              refine lv_if_eq (tgt := 246) hx hb dL_locks_234 (by decide) (fun _ => ?_) (fun c => absurd c (by decide))
              refine lv_iconst (v := 0) hx hb dL_locks_246 (by decide) ?_
              refine lv_istore (lv' := [(18, .int 0), (17, .int 0), (15, .long (pl_wds S (-1))), (13, .long (pl_thr S (-1))), (11, .long (pl_thr S (-1))), (10, .int (-1)), (9, .int 0), (8, .int bv), (7, .int to), (6, .int 1), (5, .int av), (4, .int th), (0, .ref (ad 0)), (1, .ref q), (2, .int y), (3, .int od)]) hx hb dL_locks_247 hl (by decide) rfl (fun ls hl => ?_)
              refine lv_iconst (v := 0) hx hb dL_locks_249 (by decide) ?_
              refine lv_istore (lv' := [(19, .int 0), (18, .int 0), (17, .int 0), (15, .long (pl_wds S (-1))), (13, .long (pl_thr S (-1))), (11, .long (pl_thr S (-1))), (10, .int (-1)), (9, .int 0), (8, .int bv), (7, .int to), (6, .int 1), (5, .int av), (4, .int th), (0, .ref (ad 0)), (1, .ref q), (2, .int y), (3, .int od)]) hx hb dL_locks_250 hl (by decide) rfl (fun ls hl => ?_)
              refine lv_iconst (v := 0) hx hb dL_locks_252 (by decide) ?_
              refine lv_istore (lv' := [(20, .int 0), (19, .int 0), (18, .int 0), (17, .int 0), (15, .long (pl_wds S (-1))), (13, .long (pl_thr S (-1))), (11, .long (pl_thr S (-1))), (10, .int (-1)), (9, .int 0), (8, .int bv), (7, .int to), (6, .int 1), (5, .int av), (4, .int th), (0, .ref (ad 0)), (1, .ref q), (2, .int y), (3, .int od)]) hx hb dL_locks_253 hl (by decide) rfl (fun ls hl => ?_)
              refine lv_iload hx hb dL_locks_255 (lv_at hl 11 rfl) ?_
              refine lv_if_ne (tgt := 305) hx hb dL_locks_257 (by decide) (fun _ => ?_) (fun c => absurd c (by decide))
              refine lv_iload hx hb dL_locks_305 (lv_at hl 7 rfl) ?_
              refine lv_bipush (v := 7) hx hb dL_locks_307 (by decide) ?_
              refine lv_icmp_gt (tgt := 327) hx hb dL_locks_309 (by decide) (fun c => absurd c (by decide)) (fun _ => ?_)
              refine lv_iload hx hb dL_locks_312 (lv_at hl 7 rfl) ?_
              refine lv_if_lt (tgt := 331) hx hb dL_locks_314 (by decide) (fun _ => ?_) (fun c => absurd c (by decide))
              refine lv_iconst (v := 0) hx hb dL_locks_331 (by decide) ?_
              refine lv_istore (lv' := [(20, .int 0), (19, .int 0), (18, .int 0), (17, .int 0), (15, .long (pl_wds S (-1))), (13, .long (pl_thr S (-1))), (11, .long (pl_thr S (-1))), (10, .int (-1)), (9, .int 0), (8, .int bv), (7, .int to), (6, .int 1), (5, .int av), (4, .int th), (0, .ref (ad 0)), (1, .ref q), (2, .int y), (3, .int od)]) hx hb dL_locks_332 hl (by decide) rfl (fun ls hl => ?_)
              refine lv_aload_n hx hb dL_locks_334 rfl (lv_at hl 14 rfl) ?_
              refine lv_iconst (v := 0) hx hb dL_locks_335 (by decide) ?_
              refine lv_iload hx hb dL_locks_336 (lv_at hl 13 rfl) ?_
              refine lv_iload hx hb dL_locks_338 (lv_at hl 12 rfl) ?_
              refine lv_iload hx hb dL_locks_340 (lv_at hl 10 rfl) ?_
              refine lv_iconst (v := 0) hx hb dL_locks_342 (by decide) ?_
              refine fk_lcallS (As := [.ref (ad 0), .int 0, .int th, .int av, .int to, .int 0]) (rest := []) ⟨hx, hb, hml, hown, hts⟩ (Lx_lock_IO l D ad cI cT cJ _ S _ _ _ _ (xo_lock l D ad cI cT cJ S th av _ hst hout9)) (vx_cwSW 6 hts gL_locks_L_acts rfl rfl rfl (by decide +kernel) ⟨Nat.le_of_ble_eq_true rfl, Nat.le_of_ble_eq_true rfl⟩) hK hP hD hS hA hZ hN rfl hl.1 rfl (Nat.le_of_ble_eq_true rfl) dL_locks_343 ⟨Nat.le_of_ble_eq_true rfl, Nat.le_of_ble_eq_true rfl⟩ (fun H locs hP hD hS => ?_)
              refine W.eq (g2 := F0 m 346 ls [.int (-2147483201)]) rfl ?_
              refine lv_istore (lv' := [(21, .int (-2147483201)), (20, .int 0), (19, .int 0), (18, .int 0), (17, .int 0), (15, .long (pl_wds S (-1))), (13, .long (pl_thr S (-1))), (11, .long (pl_thr S (-1))), (10, .int (-1)), (9, .int 0), (8, .int bv), (7, .int to), (6, .int 1), (5, .int av), (4, .int th), (0, .ref (ad 0)), (1, .ref q), (2, .int y), (3, .int od)]) hx hb dL_locks_346 hl (by decide) rfl (fun ls hl => ?_)
              refine lv_iload hx hb dL_locks_348 (lv_at hl 12 rfl) ?_
              refine lv_if_ne (tgt := 363) hx hb dL_locks_350 (by decide) (fun _ => ?_) (fun c => absurd c (by decide))
              refine lv_iload hx hb dL_locks_363 (lv_at hl 0 rfl) ?_
              refine lv_iload hx hb dL_locks_365 (lv_at hl 12 rfl) ?_
              refine lv_if_eq (tgt := 375) hx hb dL_locks_367 (by decide) (fun c => absurd c (by decide)) (fun _ => ?_)
              refine lv_ldc (own := RL) (v := (-2147483201)) hx hb hown (hts (.constant RL 17 (-2147483201)) (List.mem_of_getElem? (i := 1) rfl)) dL_locks_370 ?_
              refine lv_goto (tgt := 387) hx hb dL_locks_372 (by decide) ?_
              refine lv_icmp_ne (tgt := 416) hx hb dL_locks_387 (by decide) (fun c => absurd c (by decide)) (fun _ => ?_)
              refine lv_aload_n hx hb dL_locks_390 rfl (lv_at hl 15 rfl) ?_
              refine lv_iconst (v := (-1)) hx hb dL_locks_391 (by decide) ?_
              refine fk_callS (As := [.ref (ad 0), .int (-1)]) (rest := []) ⟨hx, hb, hml, hown, hts⟩ (kl_threads l D ad cI cT cJ _ S hG.1.sz hG.1.J (-1)) (va_cwS 2 hts gL_locks_L_threads rfl rfl rfl (by decide +kernel) ⟨Nat.le_of_ble_eq_true rfl, Nat.le_of_ble_eq_true rfl⟩) hK hP hD hS hA rfl hl.1 rfl (Nat.le_of_ble_eq_true rfl) dL_locks_392 ⟨Nat.le_of_ble_eq_true rfl, Nat.le_of_ble_eq_true rfl⟩ (fun H locs hP hD hS => ?_)
              refine W.eq (g2 := F0 m 395 ls [.long (pl_thr S (-1))]) rfl ?_
              refine lv_lload hx hb dL_locks_395 (lv_at hl 7 rfl) ?_
              refine W.lcmp hx hb dL_locks_397 ?_
              refine W.eq (g2 := F0 m 398 ls [.int 0]) (by rw [fk_cmp_self]) ?_
              refine lv_if_ne (tgt := 416) hx hb dL_locks_398 (by decide) (fun c => absurd c (by decide)) (fun _ => ?_)
              refine lv_aload_n hx hb dL_locks_401 rfl (lv_at hl 15 rfl) ?_
              refine lv_iconst (v := (-1)) hx hb dL_locks_402 (by decide) ?_
              refine fk_callS (As := [.ref (ad 0), .int (-1)]) (rest := []) ⟨hx, hb, hml, hown, hts⟩ (kl_words l D ad cI cT cJ _ S (-1)) (va_cwS 2 hts gL_locks_L_words rfl rfl rfl (by decide +kernel) ⟨Nat.le_of_ble_eq_true rfl, Nat.le_of_ble_eq_true rfl⟩) hK hP hD hS hA rfl hl.1 rfl (Nat.le_of_ble_eq_true rfl) dL_locks_403 ⟨Nat.le_of_ble_eq_true rfl, Nat.le_of_ble_eq_true rfl⟩ (fun H locs hP hD hS => ?_)
              refine W.eq (g2 := F0 m 406 ls [.long (pl_wds S (-1))]) rfl ?_
              refine lv_lload hx hb dL_locks_406 (lv_at hl 5 rfl) ?_
              refine W.lcmp hx hb dL_locks_408 ?_
              refine W.eq (g2 := F0 m 409 ls [.int 0]) (by rw [fk_cmp_self]) ?_
              refine lv_if_ne (tgt := 416) hx hb dL_locks_409 (by decide) (fun c => absurd c (by decide)) (fun _ => ?_)
              refine lv_iconst (v := 1) hx hb dL_locks_412 (by decide) ?_
              refine lv_goto (tgt := 417) hx hb dL_locks_413 (by decide) ?_
              exact fk_zretE (Nat.le_of_ble_eq_true rfl) (Nat.le_of_ble_eq_true rfl) hx hb hr hlocks hP hK hD hS rfl ⟨rfl, _, _, rfl, (hG).wk (by omega)⟩ dL_locks_417
            refine lv_iload hx hb dL_locks_133 (lv_at hl 0 rfl) ?_
            refine lv_if_lt (tgt := 146) hx hb dL_locks_135 (by decide) (fun c_374 => ?_) (fun c_374 => ?_)
            · refine lv_iconst (v := 1) hx hb dL_locks_146 (by decide) ?_
              refine lv_goto (tgt := 151) hx hb dL_locks_147 (by decide) ?_
              exact jn151 1 (by first | (rw [fk_wA (v := to) (lo := 0) (hi := 10000) (by assumption)]; rfl) | (rw [fk_wC (v := to) (lo := 0) (hi := 10000) (by assumption)]; rfl) | (rw [fk_wF (v := to) (lo := 0) (hi := 10000) (by assumption) (by assumption)]; rfl)) _ _ _ hP hD hS hl
            · refine lv_iload hx hb dL_locks_138 (lv_at hl 0 rfl) ?_
              refine lv_sipush (v := 10000) hx hb dL_locks_140 (by decide) ?_
              refine lv_icmp_le (tgt := 150) hx hb dL_locks_143 (by decide) (fun c_375 => ?_) (fun c_375 => ?_)
              · refine lv_iconst (v := 0) hx hb dL_locks_150 (by decide) ?_
                exact jn151 0 (by first | (rw [fk_wA (v := to) (lo := 0) (hi := 10000) (by assumption)]; rfl) | (rw [fk_wC (v := to) (lo := 0) (hi := 10000) (by assumption)]; rfl) | (rw [fk_wF (v := to) (lo := 0) (hi := 10000) (by assumption) (by assumption)]; rfl)) _ _ _ hP hD hS hl
              · refine lv_iconst (v := 1) hx hb dL_locks_146 (by decide) ?_
                refine lv_goto (tgt := 151) hx hb dL_locks_147 (by decide) ?_
                exact jn151 1 (by first | (rw [fk_wA (v := to) (lo := 0) (hi := 10000) (by assumption)]; rfl) | (rw [fk_wC (v := to) (lo := 0) (hi := 10000) (by assumption)]; rfl) | (rw [fk_wF (v := to) (lo := 0) (hi := 10000) (by assumption) (by assumption)]; rfl)) _ _ _ hP hD hS hl
          refine lv_iload_n hx hb dL_locks_86 rfl (lv_at hl 6 rfl) ?_
          refine lv_if_eq (tgt := 105) hx hb dL_locks_87 (by decide) (fun c_376 => ?_) (fun c_376 => ?_)
          · refine lv_iload_n hx hb dL_locks_105 rfl (lv_at hl 5 rfl) ?_
            refine lv_bipush (v := 9) hx hb dL_locks_106 (by decide) ?_
            refine lv_ishr hx hb dL_locks_108 ?_
            refine lv_iconst (v := 2) hx hb dL_locks_109 (by decide) ?_
            refine fk_callS (As := [.int (y >>> (9 &&& 31)), .int 2]) (rest := []) ⟨hx, hb, hml, hown, hts⟩ (kl_some l D ad cI cT cJ _ S (y >>> (9 &&& 31)) 2 (by decide)) (va_cwS 2 hts gL_locks_L_some rfl rfl rfl (by decide +kernel) ⟨Nat.le_of_ble_eq_true rfl, Nat.le_of_ble_eq_true rfl⟩) hK hP hD hS hA rfl hl.1 rfl (Nat.le_of_ble_eq_true rfl) dL_locks_110 ⟨Nat.le_of_ble_eq_true rfl, Nat.le_of_ble_eq_true rfl⟩ (fun H locs hP hD hS => ?_)
            refine W.eq (g2 := F0 m 113 ls [.int (pl_some (y >>> (9 &&& 31)) 2)]) rfl ?_
            refine lv_if_ne (tgt := 120) hx hb dL_locks_113 (by decide) (fun c_377 => ?_) (fun c_377 => ?_)
            · refine lv_iconst (v := 1) hx hb dL_locks_120 (by decide) ?_
              refine lv_iload_n hx hb dL_locks_121 rfl (lv_at hl 5 rfl) ?_
              refine lv_bipush (v := 11) hx hb dL_locks_122 (by decide) ?_
              refine lv_ishr hx hb dL_locks_124 ?_
              refine lv_bipush (v := 20) hx hb dL_locks_125 (by decide) ?_
              refine fk_callS (As := [.int (y >>> (11 &&& 31)), .int 20]) (rest := [.int 1]) ⟨hx, hb, hml, hown, hts⟩ (kl_some l D ad cI cT cJ _ S (y >>> (11 &&& 31)) 20 (by decide)) (va_cwS 2 hts gL_locks_L_some rfl rfl rfl (by decide +kernel) ⟨Nat.le_of_ble_eq_true rfl, Nat.le_of_ble_eq_true rfl⟩) hK hP hD hS hA rfl hl.1 rfl (Nat.le_of_ble_eq_true rfl) dL_locks_127 ⟨Nat.le_of_ble_eq_true rfl, Nat.le_of_ble_eq_true rfl⟩ (fun H locs hP hD hS => ?_)
              refine W.eq (g2 := F0 m 130 ls [.int (pl_some (y >>> (11 &&& 31)) 20), .int 1]) rfl ?_
              refine lv_iadd hx hb dL_locks_130 ?_
              exact jn131 ((1 : Int32) + (pl_some (y >>> (11 &&& 31)) 20)) _ _ _ hP hD hS hl
            · refine lv_iconst (v := 0) hx hb dL_locks_116 (by decide) ?_
              refine lv_goto (tgt := 131) hx hb dL_locks_117 (by decide) ?_
              exact jn131 0 _ _ _ hP hD hS hl
          · refine lv_iload_n hx hb dL_locks_90 rfl (lv_at hl 5 rfl) ?_
            refine lv_bipush (v := 9) hx hb dL_locks_91 (by decide) ?_
            refine lv_ishr hx hb dL_locks_93 ?_
            refine lv_sipush (v := 10010) hx hb dL_locks_94 (by decide) ?_
            refine fk_callS (As := [.int (y >>> (9 &&& 31)), .int 10010]) (rest := []) ⟨hx, hb, hml, hown, hts⟩ (kl_some l D ad cI cT cJ _ S (y >>> (9 &&& 31)) 10010 (by decide)) (va_cwS 2 hts gL_locks_L_some rfl rfl rfl (by decide +kernel) ⟨Nat.le_of_ble_eq_true rfl, Nat.le_of_ble_eq_true rfl⟩) hK hP hD hS hA rfl hl.1 rfl (Nat.le_of_ble_eq_true rfl) dL_locks_97 ⟨Nat.le_of_ble_eq_true rfl, Nat.le_of_ble_eq_true rfl⟩ (fun H locs hP hD hS => ?_)
            refine W.eq (g2 := F0 m 100 ls [.int (pl_some (y >>> (9 &&& 31)) 10010)]) rfl ?_
            refine lv_iconst (v := 5) hx hb dL_locks_100 (by decide) ?_
            refine lv_isub hx hb dL_locks_101 ?_
            refine lv_goto (tgt := 131) hx hb dL_locks_102 (by decide) ?_
            exact jn131 ((pl_some (y >>> (9 &&& 31)) 10010) - 5) _ _ _ hP hD hS hl
      refine lv_iload hx hb dL_locks_55 (lv_at hl 1 rfl) ?_
      refine lv_if_lt (tgt := 79) hx hb dL_locks_57 (by decide) (fun c_378 => ?_) (fun c_378 => ?_)
      · refine lv_iconst (v := 1) hx hb dL_locks_79 (by decide) ?_
        refine lv_goto (tgt := 84) hx hb dL_locks_80 (by decide) ?_
        exact jn84 1 (by first | exact fk_oA (by assumption) | exact fk_oB (by assumption) | exact fk_oC (by assumption) | exact fk_oD (by assumption) | exact fk_oE (by assumption) (by assumption) (by assumption) (by assumption)) _ _ _ hP hD hS hl
      · refine lv_iload hx hb dL_locks_60 (lv_at hl 1 rfl) ?_
        refine lv_bipush (v := 7) hx hb dL_locks_62 (by decide) ?_
        refine lv_icmp_gt (tgt := 79) hx hb dL_locks_64 (by decide) (fun c_379 => ?_) (fun c_379 => ?_)
        · refine lv_iconst (v := 1) hx hb dL_locks_79 (by decide) ?_
          refine lv_goto (tgt := 84) hx hb dL_locks_80 (by decide) ?_
          exact jn84 1 (by first | exact fk_oA (by assumption) | exact fk_oB (by assumption) | exact fk_oC (by assumption) | exact fk_oD (by assumption) | exact fk_oE (by assumption) (by assumption) (by assumption) (by assumption)) _ _ _ hP hD hS hl
        · refine lv_iload hx hb dL_locks_67 (lv_at hl 0 rfl) ?_
          refine lv_if_lt (tgt := 79) hx hb dL_locks_69 (by decide) (fun c_380 => ?_) (fun c_380 => ?_)
          · refine lv_iconst (v := 1) hx hb dL_locks_79 (by decide) ?_
            refine lv_goto (tgt := 84) hx hb dL_locks_80 (by decide) ?_
            exact jn84 1 (by first | exact fk_oA (by assumption) | exact fk_oB (by assumption) | exact fk_oC (by assumption) | exact fk_oD (by assumption) | exact fk_oE (by assumption) (by assumption) (by assumption) (by assumption)) _ _ _ hP hD hS hl
          · refine lv_iload hx hb dL_locks_72 (lv_at hl 0 rfl) ?_
            refine lv_bipush (v := 15) hx hb dL_locks_74 (by decide) ?_
            refine lv_icmp_le (tgt := 83) hx hb dL_locks_76 (by decide) (fun c_381 => ?_) (fun c_381 => ?_)
            · refine lv_iconst (v := 0) hx hb dL_locks_83 (by decide) ?_
              exact jn84 0 (by first | exact fk_oA (by assumption) | exact fk_oB (by assumption) | exact fk_oC (by assumption) | exact fk_oD (by assumption) | exact fk_oE (by assumption) (by assumption) (by assumption) (by assumption)) _ _ _ hP hD hS hl
            · refine lv_iconst (v := 1) hx hb dL_locks_79 (by decide) ?_
              refine lv_goto (tgt := 84) hx hb dL_locks_80 (by decide) ?_
              exact jn84 1 (by first | exact fk_oA (by assumption) | exact fk_oB (by assumption) | exact fk_oC (by assumption) | exact fk_oD (by assumption) | exact fk_oE (by assumption) (by assumption) (by assumption) (by assumption)) _ _ _ hP hD hS hl
    refine lv_iload_n hx hb dL_locks_27 rfl (lv_at hl 4 rfl) ?_
    refine lv_if_eq (tgt := 45) hx hb dL_locks_28 (by decide) (fun c_382 => ?_) (fun c_382 => ?_)
    · refine lv_iload_n hx hb dL_locks_45 rfl (lv_at hl 3 rfl) ?_
      refine lv_bipush (v := 6) hx hb dL_locks_46 (by decide) ?_
      refine lv_ishr hx hb dL_locks_48 ?_
      refine lv_iconst (v := 4) hx hb dL_locks_49 (by decide) ?_
      refine fk_callS (As := [.int (y >>> (6 &&& 31)), .int 4]) (rest := []) ⟨hx, hb, hml, hown, hts⟩ (kl_some l D ad cI cT cJ _ S (y >>> (6 &&& 31)) 4 (by decide)) (va_cwS 2 hts gL_locks_L_some rfl rfl rfl (by decide +kernel) ⟨Nat.le_of_ble_eq_true rfl, Nat.le_of_ble_eq_true rfl⟩) hK hP hD hS hA rfl hl.1 rfl (Nat.le_of_ble_eq_true rfl) dL_locks_50 ⟨Nat.le_of_ble_eq_true rfl, Nat.le_of_ble_eq_true rfl⟩ (fun H locs hP hD hS => ?_)
      refine W.eq (g2 := F0 m 53 ls [.int (pl_some (y >>> (6 &&& 31)) 4)]) rfl ?_
      exact jn53 (pl_some (y >>> (6 &&& 31)) 4) _ _ _ hP hD hS hl
    · refine lv_iload_n hx hb dL_locks_31 rfl (lv_at hl 3 rfl) ?_
      refine lv_bipush (v := 6) hx hb dL_locks_32 (by decide) ?_
      refine lv_ishr hx hb dL_locks_34 ?_
      refine lv_bipush (v := 18) hx hb dL_locks_35 (by decide) ?_
      refine fk_callS (As := [.int (y >>> (6 &&& 31)), .int 18]) (rest := []) ⟨hx, hb, hml, hown, hts⟩ (kl_some l D ad cI cT cJ _ S (y >>> (6 &&& 31)) 18 (by decide)) (va_cwS 2 hts gL_locks_L_some rfl rfl rfl (by decide +kernel) ⟨Nat.le_of_ble_eq_true rfl, Nat.le_of_ble_eq_true rfl⟩) hK hP hD hS hA rfl hl.1 rfl (Nat.le_of_ble_eq_true rfl) dL_locks_37 ⟨Nat.le_of_ble_eq_true rfl, Nat.le_of_ble_eq_true rfl⟩ (fun H locs hP hD hS => ?_)
      refine W.eq (g2 := F0 m 40 ls [.int (pl_some (y >>> (6 &&& 31)) 18)]) rfl ?_
      refine lv_iconst (v := 1) hx hb dL_locks_40 (by decide) ?_
      refine lv_isub hx hb dL_locks_41 ?_
      refine lv_goto (tgt := 53) hx hb dL_locks_42 (by decide) ?_
      exact jn53 ((pl_some (y >>> (6 &&& 31)) 18) - 1) _ _ _ hP hD hS hl
  refine lv_iload_n hx hb dL_locks_0 rfl (lv_at hl 3 rfl) ?_
  refine lv_if_eq (tgt := 17) hx hb dL_locks_1 (by decide) (fun c_383 => ?_) (fun c_383 => ?_)
  · refine lv_iload_n hx hb dL_locks_17 rfl (lv_at hl 2 rfl) ?_
    refine lv_iconst (v := 2) hx hb dL_locks_18 (by decide) ?_
    refine lv_ishr hx hb dL_locks_19 ?_
    refine lv_bipush (v := 8) hx hb dL_locks_20 (by decide) ?_
    refine fk_callS (As := [.int (y >>> (2 &&& 31)), .int 8]) (rest := []) ⟨hx, hb, hml, hown, hts⟩ (kl_some l D ad cI cT cJ _ S (y >>> (2 &&& 31)) 8 (by decide)) (va_cwS 2 hts gL_locks_L_some rfl rfl rfl (by decide +kernel) ⟨Nat.le_of_ble_eq_true rfl, Nat.le_of_ble_eq_true rfl⟩) hK hP hD hS hA rfl hl.1 rfl (Nat.le_of_ble_eq_true rfl) dL_locks_22 ⟨Nat.le_of_ble_eq_true rfl, Nat.le_of_ble_eq_true rfl⟩ (fun H locs hP hD hS => ?_)
    refine W.eq (g2 := F0 m 25 ls [.int (pl_some (y >>> (2 &&& 31)) 8)]) rfl ?_
    exact jn25 (pl_some (y >>> (2 &&& 31)) 8) _ _ _ hP hD hS hl
  · refine lv_iload_n hx hb dL_locks_4 rfl (lv_at hl 2 rfl) ?_
    refine lv_iconst (v := 2) hx hb dL_locks_5 (by decide) ?_
    refine lv_ishr hx hb dL_locks_6 ?_
    refine lv_bipush (v := 10) hx hb dL_locks_7 (by decide) ?_
    refine fk_callS (As := [.int (y >>> (2 &&& 31)), .int 10]) (rest := []) ⟨hx, hb, hml, hown, hts⟩ (kl_some l D ad cI cT cJ _ S (y >>> (2 &&& 31)) 10 (by decide)) (va_cwS 2 hts gL_locks_L_some rfl rfl rfl (by decide +kernel) ⟨Nat.le_of_ble_eq_true rfl, Nat.le_of_ble_eq_true rfl⟩) hK hP hD hS hA rfl hl.1 rfl (Nat.le_of_ble_eq_true rfl) dL_locks_9 ⟨Nat.le_of_ble_eq_true rfl, Nat.le_of_ble_eq_true rfl⟩ (fun H locs hP hD hS => ?_)
    refine W.eq (g2 := F0 m 12 ls [.int (pl_some (y >>> (2 &&& 31)) 10)]) rfl ?_
    refine lv_iconst (v := 1) hx hb dL_locks_12 (by decide) ?_
    refine lv_isub hx hb dL_locks_13 ?_
    refine lv_goto (tgt := 25) hx hb dL_locks_14 (by decide) ?_
    exact jn25 ((pl_some (y >>> (2 &&& 31)) 10) - 1) _ _ _ hP hD hS hl
