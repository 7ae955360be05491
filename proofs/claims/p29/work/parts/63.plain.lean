set_option maxHeartbeats 8000000 in
set_option maxRecDepth 100000 in
theorem el_plain (l : Launch) (D : va_G) (ad : Nat → Nat) (cI cT cJ : ClassId) (X : va_W) (S : fk_S) (q : Nat) (P : Nat → Int32) (n : Nat) (hst : l.stackTraces = false) (hG : kq_G n S P) (hn : n < 2 ^ 16) (od y : Int32)  : fk_E l D (fk_ty cI cT cJ) yL_plain wsL_plain rm_E [.ref (ad 0), .int y, .int od] (fk_kW ad cI cT S ++ (q, fk_pr cI P) :: X) (kq_Phi ad cI cT q X (n + 20)) := by
  refine fk_E_of (cc := cL_plain) (maxL := 14) (ret := (some .boolean)) (own := RL) (by decide) rfl rfl (Nat.le_of_ble_eq_true rfl) ?_
  intro p e s m below meth c A ls hx hb hr hlocks hml hts hown hA hP hK hD hZ hN hl
  have hS : va_S A s.heap s.heap [] := va_S.rf
  have hl : lv_has ls 14 [(0, .ref (ad 0)), (1, .int y), (2, .int od)] := hl
  refine lv_iload_n hx hb dL_plain_0 rfl (lv_at hl 1 rfl) ?_
  refine lv_iconst (v := 3) hx hb dL_plain_1 (by decide) ?_
  refine fk_callS (As := [.int y, .int 3]) (rest := []) ⟨hx, hb, hml, hown, hts⟩ (kl_some l D ad cI cT cJ _ S y 3 (by decide)) (va_cwS 2 hts gL_plain_L_some rfl rfl rfl (by decide +kernel) ⟨Nat.le_of_ble_eq_true rfl, Nat.le_of_ble_eq_true rfl⟩) hK hP hD hS hA rfl hl.1 rfl (Nat.le_of_ble_eq_true rfl) dL_plain_2 ⟨Nat.le_of_ble_eq_true rfl, Nat.le_of_ble_eq_true rfl⟩ (fun H locs hP hD hS => ?_)
  refine W.eq (g2 := F0 m 5 ls [.int (pl_some y 3)]) rfl ?_
  refine lv_istore_n (lv' := [(3, .int (pl_some y 3)), (0, .ref (ad 0)), (1, .int y), (2, .int od)]) hx hb dL_plain_5 rfl hl (by decide) rfl (fun ls hl => ?_)
  have jn31 : ∀ (th : Int32), ∀ (H : Heap) (locs : List Loc) (ls : Array Slot), va_P D vwCl (fk_kW ad cI cT S ++ (q, fk_pr cI P) :: X) H → va_D A (fk_kW ad cI cT S ++ (q, fk_pr cI P) :: X) → va_S A s.heap H locs → lv_has ls 14 [(3, .int (pl_some y 3)), (0, .ref (ad 0)), (1, .int y), (2, .int od)] → W p l e rm_E s m ([.ref (ad 0), .int y, .int od] : List Value).toArray below meth c H locs 0 0 (MQ below (fk_QE D (fk_ty cI cT cJ) A (kq_Phi ad cI cT q X (n + 20))) ([.ref (ad 0), .int y, .int od] : List Value).toArray s 2 12 A) (F0 m 31 ls [.int th]) := by
    intro th H locs ls hP hD hS hl
    refine lv_istore (lv' := [(4, .int th), (3, .int (pl_some y 3)), (0, .ref (ad 0)), (1, .int y), (2, .int od)]) hx hb dL_plain_31 hl (by decide) rfl (fun ls hl => ?_)
    have jn59 : ∀ (av : Int32), ∀ (H : Heap) (locs : List Loc) (ls : Array Slot), va_P D vwCl (fk_kW ad cI cT S ++ (q, fk_pr cI P) :: X) H → va_D A (fk_kW ad cI cT S ++ (q, fk_pr cI P) :: X) → va_S A s.heap H locs → lv_has ls 14 [(4, .int th), (3, .int (pl_some y 3)), (0, .ref (ad 0)), (1, .int y), (2, .int od)] → W p l e rm_E s m ([.ref (ad 0), .int y, .int od] : List Value).toArray below meth c H locs 0 0 (MQ below (fk_QE D (fk_ty cI cT cJ) A (kq_Phi ad cI cT q X (n + 20))) ([.ref (ad 0), .int y, .int od] : List Value).toArray s 2 12 A) (F0 m 59 ls [.int av]) := by
      intro av H locs ls hP hD hS hl
      refine lv_istore (lv' := [(5, .int av), (4, .int th), (3, .int (pl_some y 3)), (0, .ref (ad 0)), (1, .int y), (2, .int od)]) hx hb dL_plain_59 hl (by decide) rfl (fun ls hl => ?_)
      have jn85 : ∀ (vv : Int32), ∀ (H : Heap) (locs : List Loc) (ls : Array Slot), va_P D vwCl (fk_kW ad cI cT S ++ (q, fk_pr cI P) :: X) H → va_D A (fk_kW ad cI cT S ++ (q, fk_pr cI P) :: X) → va_S A s.heap H locs → lv_has ls 14 [(5, .int av), (4, .int th), (3, .int (pl_some y 3)), (0, .ref (ad 0)), (1, .int y), (2, .int od)] → W p l e rm_E s m ([.ref (ad 0), .int y, .int od] : List Value).toArray below meth c H locs 0 0 (MQ below (fk_QE D (fk_ty cI cT cJ) A (kq_Phi ad cI cT q X (n + 20))) ([.ref (ad 0), .int y, .int od] : List Value).toArray s 2 12 A) (F0 m 85 ls [.int vv]) := by
        intro vv H locs ls hP hD hS hl
        refine lv_istore (lv' := [(6, .int vv), (5, .int av), (4, .int th), (3, .int (pl_some y 3)), (0, .ref (ad 0)), (1, .int y), (2, .int od)]) hx hb dL_plain_85 hl (by decide) rfl (fun ls hl => ?_)
        have jn116 : ∀ (ov : Int32), ov = fk_b (!(fk_isT th && fk_isA av)) → ∀ (H : Heap) (locs : List Loc) (ls : Array Slot), va_P D vwCl (fk_kW ad cI cT S ++ (q, fk_pr cI P) :: X) H → va_D A (fk_kW ad cI cT S ++ (q, fk_pr cI P) :: X) → va_S A s.heap H locs → lv_has ls 14 [(6, .int vv), (5, .int av), (4, .int th), (3, .int (pl_some y 3)), (0, .ref (ad 0)), (1, .int y), (2, .int od)] → W p l e rm_E s m ([.ref (ad 0), .int y, .int od] : List Value).toArray below meth c H locs 0 0 (MQ below (fk_QE D (fk_ty cI cT cJ) A (kq_Phi ad cI cT q X (n + 20))) ([.ref (ad 0), .int y, .int od] : List Value).toArray s 2 12 A) (F0 m 116 ls [.int ov]) := by
          intro ov h_ov H locs ls hP hD hS hl
          refine lv_istore (lv' := [(7, .int ov), (6, .int vv), (5, .int av), (4, .int th), (3, .int (pl_some y 3)), (0, .ref (ad 0)), (1, .int y), (2, .int od)]) hx hb dL_plain_116 hl (by decide) rfl (fun ls hl => ?_)
          by_cases hout : (fk_isT th && fk_isA av) = true
          · have hov : ov = 0 := by rw [h_ov, hout]; rfl
            simp only [Bool.and_eq_true] at hout
            obtain ⟨t, ht, eth⟩ := fk_isT_of hout.1
            obtain ⟨a, ha, eav⟩ := fk_isA_of hout.2
            have hl : lv_has ls 14 [(7, .int 0), (6, .int vv), (5, .int (nI a)), (4, .int (nI t)), (3, .int (pl_some y 3)), (0, .ref (ad 0)), (1, .int y), (2, .int od)] := by rw [hov, eth, eav] at hl; exact hl
            refine lv_aload_n hx hb dL_plain_118 rfl (lv_at hl 5 rfl) ?_
            refine lv_iconst (v := (-1)) hx hb dL_plain_119 (by decide) ?_
            refine fk_callS (As := [.ref (ad 0), .int (-1)]) (rest := []) ⟨hx, hb, hml, hown, hts⟩ (kl_threads l D ad cI cT cJ _ S hG.1.sz hG.1.J (-1)) (va_cwS 2 hts gL_plain_L_threads rfl rfl rfl (by decide +kernel) ⟨Nat.le_of_ble_eq_true rfl, Nat.le_of_ble_eq_true rfl⟩) hK hP hD hS hA rfl hl.1 rfl (Nat.le_of_ble_eq_true rfl) dL_plain_120 ⟨Nat.le_of_ble_eq_true rfl, Nat.le_of_ble_eq_true rfl⟩ (fun H locs hP hD hS => ?_)
            refine W.eq (g2 := F0 m 123 ls [.long (pl_thr S (-1))]) rfl ?_
            refine lv_lstore (lv' := [(8, .long (pl_thr S (-1))), (7, .int 0), (6, .int vv), (5, .int (nI a)), (4, .int (nI t)), (3, .int (pl_some y 3)), (0, .ref (ad 0)), (1, .int y), (2, .int od)]) hx hb dL_plain_123 hl (by decide) rfl (fun ls hl => ?_)
            refine lv_aload_n hx hb dL_plain_125 rfl (lv_at hl 6 rfl) ?_
            refine lv_iload hx hb dL_plain_126 (lv_at hl 1 rfl) ?_
            refine lv_if_eq (tgt := 135) hx hb dL_plain_128 (by decide) (fun _ => ?_) (fun c => absurd c (by decide))
            refine lv_iload hx hb dL_plain_135 (lv_at hl 3 rfl) ?_
            refine fk_callS (As := [.ref (ad 0), .int (nI a)]) (rest := []) ⟨hx, hb, hml, hown, hts⟩ (kl_words l D ad cI cT cJ _ S (nI a)) (va_cwS 2 hts gL_plain_L_words rfl rfl rfl (by decide +kernel) ⟨Nat.le_of_ble_eq_true rfl, Nat.le_of_ble_eq_true rfl⟩) hK hP hD hS hA rfl hl.1 rfl (Nat.le_of_ble_eq_true rfl) dL_plain_137 ⟨Nat.le_of_ble_eq_true rfl, Nat.le_of_ble_eq_true rfl⟩ (fun H locs hP hD hS => ?_)
            refine W.eq (g2 := F0 m 140 ls [.long (pl_wds S (nI a))]) rfl ?_
            refine lv_lstore (lv' := [(10, .long (pl_wds S (nI a))), (8, .long (pl_thr S (-1))), (7, .int 0), (6, .int vv), (5, .int (nI a)), (4, .int (nI t)), (3, .int (pl_some y 3)), (0, .ref (ad 0)), (1, .int y), (2, .int od)]) hx hb dL_plain_140 hl (by decide) rfl (fun ls hl => ?_)
            refine lv_iload hx hb dL_plain_142 (lv_at hl 2 rfl) ?_
            refine lv_if_eq (tgt := 151) hx hb dL_plain_144 (by decide) (fun _ => ?_) (fun c => absurd c (by decide))
            refine lv_aload_n hx hb dL_plain_151 rfl (lv_at hl 7 rfl) ?_
            refine lv_iload hx hb dL_plain_152 (lv_at hl 4 rfl) ?_
            refine fk_callV (As := [.int (nI a)]) (rest := []) ⟨hx, hb, hml, hown, hts⟩ (kc_word l D ad cI cT cJ _ S a ha) (cwV 1 hts gL_plain_X2_word rfl rfl rfl (by decide +kernel) ⟨Nat.le_of_ble_eq_true rfl, Nat.le_of_ble_eq_true rfl⟩) (fk_rvK hK hP) hK hP hD hS hA rfl hl.1 rfl (Nat.le_of_ble_eq_true rfl) dL_plain_154 ⟨Nat.le_of_ble_eq_true rfl, Nat.le_of_ble_eq_true rfl⟩ (fun H locs hP hD hS => ?_)
            refine W.eq (g2 := F0 m 157 ls [.int (S 0 a)]) rfl ?_
            refine lv_istore (lv' := [(12, .int (S 0 a)), (10, .long (pl_wds S (nI a))), (8, .long (pl_thr S (-1))), (7, .int 0), (6, .int vv), (5, .int (nI a)), (4, .int (nI t)), (3, .int (pl_some y 3)), (0, .ref (ad 0)), (1, .int y), (2, .int od)]) hx hb dL_plain_157 hl (by decide) rfl (fun ls hl => ?_)
            refine lv_iload hx hb dL_plain_159 (lv_at hl 3 rfl) ?_
            refine lv_if_ne (tgt := 173) hx hb dL_plain_161 (by decide) (fun c => absurd c (by decide)) (fun _ => ?_)
            by_cases hs0 : S 1 t = 0
            · refine lv_aload_n hx hb dL_plain_164 rfl (lv_at hl 8 rfl) ?_
              refine lv_iload hx hb dL_plain_165 (lv_at hl 6 rfl) ?_
              refine fk_callV (As := [.int (nI t)]) (rest := []) ⟨hx, hb, hml, hown, hts⟩ (kc_stateOf l D ad cI cT cJ _ S t ht) (cwV 1 hts gL_plain_X2_stateOf rfl rfl rfl (by decide +kernel) ⟨Nat.le_of_ble_eq_true rfl, Nat.le_of_ble_eq_true rfl⟩) (fk_rvK hK hP) hK hP hD hS hA rfl hl.1 rfl (Nat.le_of_ble_eq_true rfl) dL_plain_167 ⟨Nat.le_of_ble_eq_true rfl, Nat.le_of_ble_eq_true rfl⟩ (fun H locs hP hD hS => ?_)
              refine W.eq (g2 := F0 m 170 ls [.int (S 1 t)]) rfl ?_
              refine W.eq (g2 := F0 m 170 ls [.int 0]) (by rw [show (S 1 t) = (0 : Int32) from hs0]) ?_
              refine lv_if_eq (tgt := 256) hx hb dL_plain_170 (by decide) (fun _ => ?_) (fun c => absurd c (by decide))
              refine lv_iload_n hx hb dL_plain_256 rfl (lv_at hl 7 rfl) ?_
              refine lv_if_ne (tgt := 294) hx hb dL_plain_257 (by decide) (fun c_5 => ?_) (fun c_5 => ?_)
              · refine lv_iload_n hx hb dL_plain_294 rfl (lv_at hl 7 rfl) ?_
                refine lv_iconst (v := 1) hx hb dL_plain_295 (by decide) ?_
                refine lv_icmp_ne (tgt := 336) hx hb dL_plain_296 (by decide) (fun c_6 => ?_) (fun c_6 => ?_)
                · refine lv_aload_n hx hb dL_plain_336 rfl (lv_at hl 8 rfl) ?_
                  refine lv_iload hx hb dL_plain_337 (lv_at hl 6 rfl) ?_
                  refine lv_iload hx hb dL_plain_339 (lv_at hl 5 rfl) ?_
                  refine lv_iload hx hb dL_plain_341 (lv_at hl 0 rfl) ?_
                  refine lv_iload hx hb dL_plain_343 (lv_at hl 4 rfl) ?_
                  refine fk_callV (As := [.int (nI t), .int (nI a), .int (S 0 a), .int vv]) (rest := []) ⟨hx, hb, hml, hown, hts⟩ (kl_casT l D ad cI cT cJ S _ t ht a ha vv hs0) (cwV 4 hts gL_plain_X2_compareAndSet rfl rfl rfl (by decide +kernel) ⟨Nat.le_of_ble_eq_true rfl, Nat.le_of_ble_eq_true rfl⟩) (fk_rvK hK hP) hK hP hD hS hA rfl hl.1 rfl (Nat.le_of_ble_eq_true rfl) dL_plain_345 ⟨Nat.le_of_ble_eq_true rfl, Nat.le_of_ble_eq_true rfl⟩ (fun H locs hP hD hS => ?_)
                  refine W.eq (g2 := F0 m 348 ls [.int 1]) rfl ?_
                  refine lv_if_eq (tgt := 398) hx hb dL_plain_348 (by decide) (fun c => absurd c (by decide)) (fun _ => ?_)
                  refine lv_aload_n hx hb dL_plain_351 rfl (lv_at hl 8 rfl) ?_
                  refine lv_iload hx hb dL_plain_352 (lv_at hl 5 rfl) ?_
                  refine fk_callV (As := [.int (nI a)]) (rest := []) ⟨hx, hb, hml, hown, hts⟩ (kc_word l D ad cI cT cJ _ (fk_up S 0 a vv) a ha) (cwV 1 hts gL_plain_X2_word rfl rfl rfl (by decide +kernel) ⟨Nat.le_of_ble_eq_true rfl, Nat.le_of_ble_eq_true rfl⟩) (fk_rvK hK hP) hK hP hD hS hA rfl hl.1 rfl (Nat.le_of_ble_eq_true rfl) dL_plain_354 ⟨Nat.le_of_ble_eq_true rfl, Nat.le_of_ble_eq_true rfl⟩ (fun H locs hP hD hS => ?_)
                  refine W.eq (g2 := F0 m 357 ls [.int ((fk_up S 0 a vv) 0 a)]) rfl ?_
                  refine W.eq (g2 := F0 m 357 ls [.int vv]) (by rw [show ((fk_up S 0 a vv) 0 a) = vv from (fk_up_s _ _ _ _)]) ?_
                  refine lv_iload hx hb dL_plain_357 (lv_at hl 4 rfl) ?_
                  refine lv_icmp_ne (tgt := 398) hx hb dL_plain_359 (by decide) (fun c => absurd rfl c) (fun _ => ?_)
                  refine lv_iload hx hb dL_plain_362 (lv_at hl 4 rfl) ?_
                  refine lv_iload hx hb dL_plain_364 (lv_at hl 0 rfl) ?_
                  refine lv_icmp_eq (tgt := 394) hx hb dL_plain_366 (by decide) (fun c_8 => ?_) (fun c_8 => ?_)
                  · refine lv_iconst (v := 1) hx hb dL_plain_394 (by decide) ?_
                    refine lv_goto (tgt := 399) hx hb dL_plain_395 (by decide) ?_
                    refine lv_istore (lv' := [(13, .int 1), (12, .int (S 0 a)), (10, .long (pl_wds S (nI a))), (8, .long (pl_thr S (-1))), (7, .int 0), (6, .int vv), (5, .int (nI a)), (4, .int (nI t)), (3, .int (pl_some y 3)), (0, .ref (ad 0)), (1, .int y), (2, .int od)]) hx hb dL_plain_399 hl (by decide) rfl (fun ls hl => ?_)
                    refine lv_iload hx hb dL_plain_401 (lv_at hl 0 rfl) ?_
                    refine lv_if_eq (tgt := 433) hx hb dL_plain_403 (by decide) (fun c => absurd c (by decide)) (fun _ => ?_)
                    refine lv_aload_n hx hb dL_plain_406 rfl (lv_at hl 9 rfl) ?_
                    refine lv_iconst (v := (-1)) hx hb dL_plain_407 (by decide) ?_
                    refine fk_callS (As := [.ref (ad 0), .int (-1)]) (rest := []) ⟨hx, hb, hml, hown, hts⟩ (kl_threads l D ad cI cT cJ _ (fk_up S 0 a vv) (hG.word a vv).1.sz (hG.word a vv).1.J (-1)) (va_cwS 2 hts gL_plain_L_threads rfl rfl rfl (by decide +kernel) ⟨Nat.le_of_ble_eq_true rfl, Nat.le_of_ble_eq_true rfl⟩) hK hP hD hS hA rfl hl.1 rfl (Nat.le_of_ble_eq_true rfl) dL_plain_408 ⟨Nat.le_of_ble_eq_true rfl, Nat.le_of_ble_eq_true rfl⟩ (fun H locs hP hD hS => ?_)
                    refine W.eq (g2 := F0 m 411 ls [.long (pl_thr (fk_up S 0 a vv) (-1))]) rfl ?_
                    refine W.eq (g2 := F0 m 411 ls [.long (pl_thr S (-1))]) (by rw [show (pl_thr (fk_up S 0 a vv) (-1)) = (pl_thr S (-1)) from (pl_thr_word hG.1 a _ _)]) ?_
                    refine lv_lload hx hb dL_plain_411 (lv_at hl 3 rfl) ?_
                    refine W.lcmp hx hb dL_plain_413 ?_
                    refine W.eq (g2 := F0 m 414 ls [.int 0]) (by rw [fk_cmp_self]) ?_
                    refine lv_if_ne (tgt := 433) hx hb dL_plain_414 (by decide) (fun c => absurd c (by decide)) (fun _ => ?_)
                    refine lv_aload_n hx hb dL_plain_417 rfl (lv_at hl 9 rfl) ?_
                    refine lv_iload hx hb dL_plain_418 (lv_at hl 6 rfl) ?_
                    refine fk_callS (As := [.ref (ad 0), .int (nI a)]) (rest := []) ⟨hx, hb, hml, hown, hts⟩ (kl_words l D ad cI cT cJ _ (fk_up S 0 a vv) (nI a)) (va_cwS 2 hts gL_plain_L_words rfl rfl rfl (by decide +kernel) ⟨Nat.le_of_ble_eq_true rfl, Nat.le_of_ble_eq_true rfl⟩) hK hP hD hS hA rfl hl.1 rfl (Nat.le_of_ble_eq_true rfl) dL_plain_420 ⟨Nat.le_of_ble_eq_true rfl, Nat.le_of_ble_eq_true rfl⟩ (fun H locs hP hD hS => ?_)
                    refine W.eq (g2 := F0 m 423 ls [.long (pl_wds (fk_up S 0 a vv) (nI a))]) rfl ?_
                    refine W.eq (g2 := F0 m 423 ls [.long (pl_wds S (nI a))]) (by rw [show (pl_wds (fk_up S 0 a vv) (nI a)) = (pl_wds S (nI a)) from (pl_wds_word S a _)]) ?_
                    refine lv_lload hx hb dL_plain_423 (lv_at hl 2 rfl) ?_
                    refine W.lcmp hx hb dL_plain_425 ?_
                    refine W.eq (g2 := F0 m 426 ls [.int 0]) (by rw [fk_cmp_self]) ?_
                    refine lv_if_ne (tgt := 433) hx hb dL_plain_426 (by decide) (fun c => absurd c (by decide)) (fun _ => ?_)
                    refine lv_iconst (v := 1) hx hb dL_plain_429 (by decide) ?_
                    refine lv_goto (tgt := 434) hx hb dL_plain_430 (by decide) ?_
                    exact fk_zretE (Nat.le_of_ble_eq_true rfl) (Nat.le_of_ble_eq_true rfl) hx hb hr hlocks hP hK hD hS rfl ⟨rfl, _, _, rfl, ((hG.word a vv)).wk (by omega)⟩ dL_plain_434
                  · refine lv_aload_n hx hb dL_plain_369 rfl (lv_at hl 8 rfl) ?_
                    refine lv_iload hx hb dL_plain_370 (lv_at hl 6 rfl) ?_
                    refine lv_iload hx hb dL_plain_372 (lv_at hl 5 rfl) ?_
                    refine lv_iload hx hb dL_plain_374 (lv_at hl 0 rfl) ?_
                    refine lv_iconst (v := 3) hx hb dL_plain_376 (by decide) ?_
                    refine fk_callV (As := [.int (nI t), .int (nI a), .int (S 0 a), .int 3]) (rest := []) ⟨hx, hb, hml, hown, hts⟩ (kl_casF l D ad cI cT cJ (fk_up S 0 a vv) _ t ht a ha (S 0 a) 3 (by rw [fk_up_f (by decide)]; exact hs0) (by rw [fk_up_s]; exact c_8)) (cwV 4 hts gL_plain_X2_compareAndSet rfl rfl rfl (by decide +kernel) ⟨Nat.le_of_ble_eq_true rfl, Nat.le_of_ble_eq_true rfl⟩) (fk_rvK hK hP) hK hP hD hS hA rfl hl.1 rfl (Nat.le_of_ble_eq_true rfl) dL_plain_377 ⟨Nat.le_of_ble_eq_true rfl, Nat.le_of_ble_eq_true rfl⟩ (fun H locs hP hD hS => ?_)
                    refine W.eq (g2 := F0 m 380 ls [.int 0]) rfl ?_
                    refine lv_if_ne (tgt := 398) hx hb dL_plain_380 (by decide) (fun c => absurd c (by decide)) (fun _ => ?_)
                    refine lv_aload_n hx hb dL_plain_383 rfl (lv_at hl 8 rfl) ?_
                    refine lv_iload hx hb dL_plain_384 (lv_at hl 5 rfl) ?_
                    refine fk_callV (As := [.int (nI a)]) (rest := []) ⟨hx, hb, hml, hown, hts⟩ (kc_word l D ad cI cT cJ _ (fk_up S 0 a vv) a ha) (cwV 1 hts gL_plain_X2_word rfl rfl rfl (by decide +kernel) ⟨Nat.le_of_ble_eq_true rfl, Nat.le_of_ble_eq_true rfl⟩) (fk_rvK hK hP) hK hP hD hS hA rfl hl.1 rfl (Nat.le_of_ble_eq_true rfl) dL_plain_386 ⟨Nat.le_of_ble_eq_true rfl, Nat.le_of_ble_eq_true rfl⟩ (fun H locs hP hD hS => ?_)
                    refine W.eq (g2 := F0 m 389 ls [.int ((fk_up S 0 a vv) 0 a)]) rfl ?_
                    refine W.eq (g2 := F0 m 389 ls [.int vv]) (by rw [show ((fk_up S 0 a vv) 0 a) = vv from (fk_up_s _ _ _ _)]) ?_
                    refine lv_iload hx hb dL_plain_389 (lv_at hl 4 rfl) ?_
                    refine lv_icmp_ne (tgt := 398) hx hb dL_plain_391 (by decide) (fun c => absurd rfl c) (fun _ => ?_)
                    refine lv_iconst (v := 1) hx hb dL_plain_394 (by decide) ?_
                    refine lv_goto (tgt := 399) hx hb dL_plain_395 (by decide) ?_
                    refine lv_istore (lv' := [(13, .int 1), (12, .int (S 0 a)), (10, .long (pl_wds S (nI a))), (8, .long (pl_thr S (-1))), (7, .int 0), (6, .int vv), (5, .int (nI a)), (4, .int (nI t)), (3, .int (pl_some y 3)), (0, .ref (ad 0)), (1, .int y), (2, .int od)]) hx hb dL_plain_399 hl (by decide) rfl (fun ls hl => ?_)
                    refine lv_iload hx hb dL_plain_401 (lv_at hl 0 rfl) ?_
                    refine lv_if_eq (tgt := 433) hx hb dL_plain_403 (by decide) (fun c => absurd c (by decide)) (fun _ => ?_)
                    refine lv_aload_n hx hb dL_plain_406 rfl (lv_at hl 9 rfl) ?_
                    refine lv_iconst (v := (-1)) hx hb dL_plain_407 (by decide) ?_
                    refine fk_callS (As := [.ref (ad 0), .int (-1)]) (rest := []) ⟨hx, hb, hml, hown, hts⟩ (kl_threads l D ad cI cT cJ _ (fk_up S 0 a vv) (hG.word a vv).1.sz (hG.word a vv).1.J (-1)) (va_cwS 2 hts gL_plain_L_threads rfl rfl rfl (by decide +kernel) ⟨Nat.le_of_ble_eq_true rfl, Nat.le_of_ble_eq_true rfl⟩) hK hP hD hS hA rfl hl.1 rfl (Nat.le_of_ble_eq_true rfl) dL_plain_408 ⟨Nat.le_of_ble_eq_true rfl, Nat.le_of_ble_eq_true rfl⟩ (fun H locs hP hD hS => ?_)
                    refine W.eq (g2 := F0 m 411 ls [.long (pl_thr (fk_up S 0 a vv) (-1))]) rfl ?_
                    refine W.eq (g2 := F0 m 411 ls [.long (pl_thr S (-1))]) (by rw [show (pl_thr (fk_up S 0 a vv) (-1)) = (pl_thr S (-1)) from (pl_thr_word hG.1 a _ _)]) ?_
                    refine lv_lload hx hb dL_plain_411 (lv_at hl 3 rfl) ?_
                    refine W.lcmp hx hb dL_plain_413 ?_
                    refine W.eq (g2 := F0 m 414 ls [.int 0]) (by rw [fk_cmp_self]) ?_
                    refine lv_if_ne (tgt := 433) hx hb dL_plain_414 (by decide) (fun c => absurd c (by decide)) (fun _ => ?_)
                    refine lv_aload_n hx hb dL_plain_417 rfl (lv_at hl 9 rfl) ?_
                    refine lv_iload hx hb dL_plain_418 (lv_at hl 6 rfl) ?_
                    refine fk_callS (As := [.ref (ad 0), .int (nI a)]) (rest := []) ⟨hx, hb, hml, hown, hts⟩ (kl_words l D ad cI cT cJ _ (fk_up S 0 a vv) (nI a)) (va_cwS 2 hts gL_plain_L_words rfl rfl rfl (by decide +kernel) ⟨Nat.le_of_ble_eq_true rfl, Nat.le_of_ble_eq_true rfl⟩) hK hP hD hS hA rfl hl.1 rfl (Nat.le_of_ble_eq_true rfl) dL_plain_420 ⟨Nat.le_of_ble_eq_true rfl, Nat.le_of_ble_eq_true rfl⟩ (fun H locs hP hD hS => ?_)
                    refine W.eq (g2 := F0 m 423 ls [.long (pl_wds (fk_up S 0 a vv) (nI a))]) rfl ?_
                    refine W.eq (g2 := F0 m 423 ls [.long (pl_wds S (nI a))]) (by rw [show (pl_wds (fk_up S 0 a vv) (nI a)) = (pl_wds S (nI a)) from (pl_wds_word S a _)]) ?_
                    refine lv_lload hx hb dL_plain_423 (lv_at hl 2 rfl) ?_
                    refine W.lcmp hx hb dL_plain_425 ?_
                    refine W.eq (g2 := F0 m 426 ls [.int 0]) (by rw [fk_cmp_self]) ?_
                    refine lv_if_ne (tgt := 433) hx hb dL_plain_426 (by decide) (fun c => absurd c (by decide)) (fun _ => ?_)
                    refine lv_iconst (v := 1) hx hb dL_plain_429 (by decide) ?_
                    refine lv_goto (tgt := 434) hx hb dL_plain_430 (by decide) ?_
                    exact fk_zretE (Nat.le_of_ble_eq_true rfl) (Nat.le_of_ble_eq_true rfl) hx hb hr hlocks hP hK hD hS rfl ⟨rfl, _, _, rfl, ((hG.word a vv)).wk (by omega)⟩ dL_plain_434
                · refine lv_aload_n hx hb dL_plain_299 rfl (lv_at hl 8 rfl) ?_
                  refine lv_iload hx hb dL_plain_300 (lv_at hl 6 rfl) ?_
                  refine lv_iload hx hb dL_plain_302 (lv_at hl 5 rfl) ?_
                  refine lv_iload hx hb dL_plain_304 (lv_at hl 4 rfl) ?_
                  refine fk_callV (As := [.int (nI t), .int (nI a), .int vv]) (rest := []) ⟨hx, hb, hml, hown, hts⟩ (kc_fetchAdd l D ad cI cT cJ _ S t ht a ha vv hs0) (cwV 3 hts gL_plain_X2_fetchAdd rfl rfl rfl (by decide +kernel) ⟨Nat.le_of_ble_eq_true rfl, Nat.le_of_ble_eq_true rfl⟩) (fk_rvK hK hP) hK hP hD hS hA rfl hl.1 rfl (Nat.le_of_ble_eq_true rfl) dL_plain_306 ⟨Nat.le_of_ble_eq_true rfl, Nat.le_of_ble_eq_true rfl⟩ (fun H locs hP hD hS => ?_)
                  refine W.eq (g2 := F0 m 309 ls [.int (S 0 a)]) rfl ?_
                  refine lv_iload hx hb dL_plain_309 (lv_at hl 0 rfl) ?_
                  refine lv_icmp_ne (tgt := 332) hx hb dL_plain_311 (by decide) (fun c => absurd rfl c) (fun _ => ?_)
                  refine lv_aload_n hx hb dL_plain_314 rfl (lv_at hl 8 rfl) ?_
                  refine lv_iload hx hb dL_plain_315 (lv_at hl 5 rfl) ?_
                  refine fk_callV (As := [.int (nI a)]) (rest := []) ⟨hx, hb, hml, hown, hts⟩ (kc_word l D ad cI cT cJ _ (fk_up S 0 a ((S 0 a) + vv)) a ha) (cwV 1 hts gL_plain_X2_word rfl rfl rfl (by decide +kernel) ⟨Nat.le_of_ble_eq_true rfl, Nat.le_of_ble_eq_true rfl⟩) (fk_rvK hK hP) hK hP hD hS hA rfl hl.1 rfl (Nat.le_of_ble_eq_true rfl) dL_plain_317 ⟨Nat.le_of_ble_eq_true rfl, Nat.le_of_ble_eq_true rfl⟩ (fun H locs hP hD hS => ?_)
                  refine W.eq (g2 := F0 m 320 ls [.int ((fk_up S 0 a ((S 0 a) + vv)) 0 a)]) rfl ?_
                  refine W.eq (g2 := F0 m 320 ls [.int ((S 0 a) + vv)]) (by rw [show ((fk_up S 0 a ((S 0 a) + vv)) 0 a) = ((S 0 a) + vv) from (fk_up_s _ _ _ _)]) ?_
                  refine lv_iload hx hb dL_plain_320 (lv_at hl 0 rfl) ?_
                  refine lv_iload hx hb dL_plain_322 (lv_at hl 4 rfl) ?_
                  refine lv_iadd hx hb dL_plain_324 ?_
                  refine lv_icmp_ne (tgt := 332) hx hb dL_plain_325 (by decide) (fun c => absurd rfl c) (fun _ => ?_)
                  refine lv_iconst (v := 1) hx hb dL_plain_328 (by decide) ?_
                  refine lv_goto (tgt := 399) hx hb dL_plain_329 (by decide) ?_
                  refine lv_istore (lv' := [(13, .int 1), (12, .int (S 0 a)), (10, .long (pl_wds S (nI a))), (8, .long (pl_thr S (-1))), (7, .int 0), (6, .int vv), (5, .int (nI a)), (4, .int (nI t)), (3, .int (pl_some y 3)), (0, .ref (ad 0)), (1, .int y), (2, .int od)]) hx hb dL_plain_399 hl (by decide) rfl (fun ls hl => ?_)
                  refine lv_iload hx hb dL_plain_401 (lv_at hl 0 rfl) ?_
                  refine lv_if_eq (tgt := 433) hx hb dL_plain_403 (by decide) (fun c => absurd c (by decide)) (fun _ => ?_)
                  refine lv_aload_n hx hb dL_plain_406 rfl (lv_at hl 9 rfl) ?_
                  refine lv_iconst (v := (-1)) hx hb dL_plain_407 (by decide) ?_
                  refine fk_callS (As := [.ref (ad 0), .int (-1)]) (rest := []) ⟨hx, hb, hml, hown, hts⟩ (kl_threads l D ad cI cT cJ _ (fk_up S 0 a ((S 0 a) + vv)) (hG.word a (S 0 a + vv)).1.sz (hG.word a (S 0 a + vv)).1.J (-1)) (va_cwS 2 hts gL_plain_L_threads rfl rfl rfl (by decide +kernel) ⟨Nat.le_of_ble_eq_true rfl, Nat.le_of_ble_eq_true rfl⟩) hK hP hD hS hA rfl hl.1 rfl (Nat.le_of_ble_eq_true rfl) dL_plain_408 ⟨Nat.le_of_ble_eq_true rfl, Nat.le_of_ble_eq_true rfl⟩ (fun H locs hP hD hS => ?_)
                  refine W.eq (g2 := F0 m 411 ls [.long (pl_thr (fk_up S 0 a ((S 0 a) + vv)) (-1))]) rfl ?_
                  refine W.eq (g2 := F0 m 411 ls [.long (pl_thr S (-1))]) (by rw [show (pl_thr (fk_up S 0 a ((S 0 a) + vv)) (-1)) = (pl_thr S (-1)) from (pl_thr_word hG.1 a _ _)]) ?_
                  refine lv_lload hx hb dL_plain_411 (lv_at hl 3 rfl) ?_
                  refine W.lcmp hx hb dL_plain_413 ?_
                  refine W.eq (g2 := F0 m 414 ls [.int 0]) (by rw [fk_cmp_self]) ?_
                  refine lv_if_ne (tgt := 433) hx hb dL_plain_414 (by decide) (fun c => absurd c (by decide)) (fun _ => ?_)
                  refine lv_aload_n hx hb dL_plain_417 rfl (lv_at hl 9 rfl) ?_
                  refine lv_iload hx hb dL_plain_418 (lv_at hl 6 rfl) ?_
                  refine fk_callS (As := [.ref (ad 0), .int (nI a)]) (rest := []) ⟨hx, hb, hml, hown, hts⟩ (kl_words l D ad cI cT cJ _ (fk_up S 0 a ((S 0 a) + vv)) (nI a)) (va_cwS 2 hts gL_plain_L_words rfl rfl rfl (by decide +kernel) ⟨Nat.le_of_ble_eq_true rfl, Nat.le_of_ble_eq_true rfl⟩) hK hP hD hS hA rfl hl.1 rfl (Nat.le_of_ble_eq_true rfl) dL_plain_420 ⟨Nat.le_of_ble_eq_true rfl, Nat.le_of_ble_eq_true rfl⟩ (fun H locs hP hD hS => ?_)
                  refine W.eq (g2 := F0 m 423 ls [.long (pl_wds (fk_up S 0 a ((S 0 a) + vv)) (nI a))]) rfl ?_
                  refine W.eq (g2 := F0 m 423 ls [.long (pl_wds S (nI a))]) (by rw [show (pl_wds (fk_up S 0 a ((S 0 a) + vv)) (nI a)) = (pl_wds S (nI a)) from (pl_wds_word S a _)]) ?_
                  refine lv_lload hx hb dL_plain_423 (lv_at hl 2 rfl) ?_
                  refine W.lcmp hx hb dL_plain_425 ?_
                  refine W.eq (g2 := F0 m 426 ls [.int 0]) (by rw [fk_cmp_self]) ?_
                  refine lv_if_ne (tgt := 433) hx hb dL_plain_426 (by decide) (fun c => absurd c (by decide)) (fun _ => ?_)
                  refine lv_iconst (v := 1) hx hb dL_plain_429 (by decide) ?_
                  refine lv_goto (tgt := 434) hx hb dL_plain_430 (by decide) ?_
                  exact fk_zretE (Nat.le_of_ble_eq_true rfl) (Nat.le_of_ble_eq_true rfl) hx hb hr hlocks hP hK hD hS rfl ⟨rfl, _, _, rfl, ((hG.word a (S 0 a + vv))).wk (by omega)⟩ dL_plain_434
              · refine lv_aload_n hx hb dL_plain_260 rfl (lv_at hl 8 rfl) ?_
                refine lv_iload hx hb dL_plain_261 (lv_at hl 6 rfl) ?_
                refine lv_iload hx hb dL_plain_263 (lv_at hl 5 rfl) ?_
                refine lv_iload hx hb dL_plain_265 (lv_at hl 4 rfl) ?_
                refine fk_callV (As := [.int (nI t), .int (nI a), .int vv]) (rest := []) ⟨hx, hb, hml, hown, hts⟩ (kc_store l D ad cI cT cJ _ S t ht a ha vv hs0) (cwV 3 hts gL_plain_X2_store rfl rfl rfl (by decide +kernel) ⟨Nat.le_of_ble_eq_true rfl, Nat.le_of_ble_eq_true rfl⟩) (fk_rvK hK hP) hK hP hD hS hA rfl hl.1 rfl (Nat.le_of_ble_eq_true rfl) dL_plain_267 ⟨Nat.le_of_ble_eq_true rfl, Nat.le_of_ble_eq_true rfl⟩ (fun H locs hP hD hS => ?_)
                refine W.eq (g2 := F0 m 270 ls [.int (S 0 a)]) rfl ?_
                refine lv_iload hx hb dL_plain_270 (lv_at hl 0 rfl) ?_
                refine lv_icmp_ne (tgt := 290) hx hb dL_plain_272 (by decide) (fun c => absurd rfl c) (fun _ => ?_)
                refine lv_aload_n hx hb dL_plain_275 rfl (lv_at hl 8 rfl) ?_
                refine lv_iload hx hb dL_plain_276 (lv_at hl 5 rfl) ?_
                refine fk_callV (As := [.int (nI a)]) (rest := []) ⟨hx, hb, hml, hown, hts⟩ (kc_word l D ad cI cT cJ _ (fk_up S 0 a vv) a ha) (cwV 1 hts gL_plain_X2_word rfl rfl rfl (by decide +kernel) ⟨Nat.le_of_ble_eq_true rfl, Nat.le_of_ble_eq_true rfl⟩) (fk_rvK hK hP) hK hP hD hS hA rfl hl.1 rfl (Nat.le_of_ble_eq_true rfl) dL_plain_278 ⟨Nat.le_of_ble_eq_true rfl, Nat.le_of_ble_eq_true rfl⟩ (fun H locs hP hD hS => ?_)
                refine W.eq (g2 := F0 m 281 ls [.int ((fk_up S 0 a vv) 0 a)]) rfl ?_
                refine W.eq (g2 := F0 m 281 ls [.int vv]) (by rw [show ((fk_up S 0 a vv) 0 a) = vv from (fk_up_s _ _ _ _)]) ?_
                refine lv_iload hx hb dL_plain_281 (lv_at hl 4 rfl) ?_
                refine lv_icmp_ne (tgt := 290) hx hb dL_plain_283 (by decide) (fun c => absurd rfl c) (fun _ => ?_)
                refine lv_iconst (v := 1) hx hb dL_plain_286 (by decide) ?_
                refine lv_goto (tgt := 399) hx hb dL_plain_287 (by decide) ?_
                refine lv_istore (lv' := [(13, .int 1), (12, .int (S 0 a)), (10, .long (pl_wds S (nI a))), (8, .long (pl_thr S (-1))), (7, .int 0), (6, .int vv), (5, .int (nI a)), (4, .int (nI t)), (3, .int (pl_some y 3)), (0, .ref (ad 0)), (1, .int y), (2, .int od)]) hx hb dL_plain_399 hl (by decide) rfl (fun ls hl => ?_)
                refine lv_iload hx hb dL_plain_401 (lv_at hl 0 rfl) ?_
                refine lv_if_eq (tgt := 433) hx hb dL_plain_403 (by decide) (fun c => absurd c (by decide)) (fun _ => ?_)
                refine lv_aload_n hx hb dL_plain_406 rfl (lv_at hl 9 rfl) ?_
                refine lv_iconst (v := (-1)) hx hb dL_plain_407 (by decide) ?_
                refine fk_callS (As := [.ref (ad 0), .int (-1)]) (rest := []) ⟨hx, hb, hml, hown, hts⟩ (kl_threads l D ad cI cT cJ _ (fk_up S 0 a vv) (hG.word a vv).1.sz (hG.word a vv).1.J (-1)) (va_cwS 2 hts gL_plain_L_threads rfl rfl rfl (by decide +kernel) ⟨Nat.le_of_ble_eq_true rfl, Nat.le_of_ble_eq_true rfl⟩) hK hP hD hS hA rfl hl.1 rfl (Nat.le_of_ble_eq_true rfl) dL_plain_408 ⟨Nat.le_of_ble_eq_true rfl, Nat.le_of_ble_eq_true rfl⟩ (fun H locs hP hD hS => ?_)
                refine W.eq (g2 := F0 m 411 ls [.long (pl_thr (fk_up S 0 a vv) (-1))]) rfl ?_
                refine W.eq (g2 := F0 m 411 ls [.long (pl_thr S (-1))]) (by rw [show (pl_thr (fk_up S 0 a vv) (-1)) = (pl_thr S (-1)) from (pl_thr_word hG.1 a _ _)]) ?_
                refine lv_lload hx hb dL_plain_411 (lv_at hl 3 rfl) ?_
                refine W.lcmp hx hb dL_plain_413 ?_
                refine W.eq (g2 := F0 m 414 ls [.int 0]) (by rw [fk_cmp_self]) ?_
                refine lv_if_ne (tgt := 433) hx hb dL_plain_414 (by decide) (fun c => absurd c (by decide)) (fun _ => ?_)
                refine lv_aload_n hx hb dL_plain_417 rfl (lv_at hl 9 rfl) ?_
                refine lv_iload hx hb dL_plain_418 (lv_at hl 6 rfl) ?_
                refine fk_callS (As := [.ref (ad 0), .int (nI a)]) (rest := []) ⟨hx, hb, hml, hown, hts⟩ (kl_words l D ad cI cT cJ _ (fk_up S 0 a vv) (nI a)) (va_cwS 2 hts gL_plain_L_words rfl rfl rfl (by decide +kernel) ⟨Nat.le_of_ble_eq_true rfl, Nat.le_of_ble_eq_true rfl⟩) hK hP hD hS hA rfl hl.1 rfl (Nat.le_of_ble_eq_true rfl) dL_plain_420 ⟨Nat.le_of_ble_eq_true rfl, Nat.le_of_ble_eq_true rfl⟩ (fun H locs hP hD hS => ?_)
                refine W.eq (g2 := F0 m 423 ls [.long (pl_wds (fk_up S 0 a vv) (nI a))]) rfl ?_
                refine W.eq (g2 := F0 m 423 ls [.long (pl_wds S (nI a))]) (by rw [show (pl_wds (fk_up S 0 a vv) (nI a)) = (pl_wds S (nI a)) from (pl_wds_word S a _)]) ?_
                refine lv_lload hx hb dL_plain_423 (lv_at hl 2 rfl) ?_
                refine W.lcmp hx hb dL_plain_425 ?_
                refine W.eq (g2 := F0 m 426 ls [.int 0]) (by rw [fk_cmp_self]) ?_
                refine lv_if_ne (tgt := 433) hx hb dL_plain_426 (by decide) (fun c => absurd c (by decide)) (fun _ => ?_)
                refine lv_iconst (v := 1) hx hb dL_plain_429 (by decide) ?_
                refine lv_goto (tgt := 434) hx hb dL_plain_430 (by decide) ?_
                exact fk_zretE (Nat.le_of_ble_eq_true rfl) (Nat.le_of_ble_eq_true rfl) hx hb hr hlocks hP hK hD hS rfl ⟨rfl, _, _, rfl, ((hG.word a vv)).wk (by omega)⟩ dL_plain_434
            · refine lv_aload_n hx hb dL_plain_164 rfl (lv_at hl 8 rfl) ?_
              refine lv_iload hx hb dL_plain_165 (lv_at hl 6 rfl) ?_
              refine fk_callV (As := [.int (nI t)]) (rest := []) ⟨hx, hb, hml, hown, hts⟩ (kc_stateOf l D ad cI cT cJ _ S t ht) (cwV 1 hts gL_plain_X2_stateOf rfl rfl rfl (by decide +kernel) ⟨Nat.le_of_ble_eq_true rfl, Nat.le_of_ble_eq_true rfl⟩) (fk_rvK hK hP) hK hP hD hS hA rfl hl.1 rfl (Nat.le_of_ble_eq_true rfl) dL_plain_167 ⟨Nat.le_of_ble_eq_true rfl, Nat.le_of_ble_eq_true rfl⟩ (fun H locs hP hD hS => ?_)
              refine W.eq (g2 := F0 m 170 ls [.int (S 1 t)]) rfl ?_
              refine lv_if_eq (tgt := 256) hx hb dL_plain_170 (by decide) (fun c_22 => absurd c_22 hs0) (fun c_22 => ?_)
              refine lv_aload_n hx hb dL_plain_173 rfl (lv_at hl 8 rfl) ?_
              refine lv_bipush (v := 6) hx hb dL_plain_174 (by decide) ?_
              refine lv_iload hx hb dL_plain_176 (lv_at hl 6 rfl) ?_
              refine lv_iload hx hb dL_plain_178 (lv_at hl 5 rfl) ?_
              refine lv_iload hx hb dL_plain_180 (lv_at hl 0 rfl) ?_
              refine lv_iload hx hb dL_plain_182 (lv_at hl 4 rfl) ?_
              refine fk_lcallS (As := [.ref (ad 0), .int 6, .int (nI t), .int (nI a), .int (S 0 a), .int vv]) (rest := []) ⟨hx, hb, hml, hown, hts⟩ (Lx_compareAndSet_IS l D ad cI cT cJ _ S _ _ _ _ (fun X => kx_compareAndSet_3 l D ad cI cT cJ X S hst t ht a ha _ _ hs0)) (vx_cwSW 6 hts gL_plain_L_acts rfl rfl rfl (by decide +kernel) ⟨Nat.le_of_ble_eq_true rfl, Nat.le_of_ble_eq_true rfl⟩) hK hP hD hS hA hZ hN rfl hl.1 rfl (Nat.le_of_ble_eq_true rfl) dL_plain_184 ⟨Nat.le_of_ble_eq_true rfl, Nat.le_of_ble_eq_true rfl⟩ (fun H locs hP hD hS => ?_)
              refine W.eq (g2 := F0 m 187 ls [.int (-2147483203)]) rfl ?_
              refine lv_iload hx hb dL_plain_187 (lv_at hl 3 rfl) ?_
              refine lv_if_eq (tgt := 197) hx hb dL_plain_189 (by decide) (fun _ => ?_) (fun c => absurd c (by decide))
              refine lv_ldc (own := RL) (v := (-2147483203)) hx hb hown (hts (.constant RL 23 (-2147483203)) (List.mem_of_getElem? (i := 2) rfl)) dL_plain_197 ?_
              refine lv_icmp_ne (tgt := 254) hx hb dL_plain_199 (by decide) (fun c => absurd c (by decide)) (fun _ => ?_)
              refine lv_aload_n hx hb dL_plain_202 rfl (lv_at hl 8 rfl) ?_
              refine lv_iconst (v := (-1)) hx hb dL_plain_203 (by decide) ?_
              refine fk_callS (As := [.ref (ad 0), .int (-1)]) (rest := []) ⟨hx, hb, hml, hown, hts⟩ (kl_threads l D ad cI cT cJ _ S hG.1.sz hG.1.J (-1)) (va_cwS 2 hts gL_plain_L_threads rfl rfl rfl (by decide +kernel) ⟨Nat.le_of_ble_eq_true rfl, Nat.le_of_ble_eq_true rfl⟩) hK hP hD hS hA rfl hl.1 rfl (Nat.le_of_ble_eq_true rfl) dL_plain_204 ⟨Nat.le_of_ble_eq_true rfl, Nat.le_of_ble_eq_true rfl⟩ (fun H locs hP hD hS => ?_)
              refine W.eq (g2 := F0 m 207 ls [.long (pl_thr S (-1))]) rfl ?_
              refine lv_lload hx hb dL_plain_207 (lv_at hl 2 rfl) ?_
              refine W.lcmp hx hb dL_plain_209 ?_
              refine W.eq (g2 := F0 m 210 ls [.int 0]) (by rw [fk_cmp_self]) ?_
              refine lv_if_ne (tgt := 254) hx hb dL_plain_210 (by decide) (fun c => absurd c (by decide)) (fun _ => ?_)
              refine lv_aload_n hx hb dL_plain_213 rfl (lv_at hl 8 rfl) ?_
              refine lv_iload hx hb dL_plain_214 (lv_at hl 3 rfl) ?_
              refine lv_if_eq (tgt := 223) hx hb dL_plain_216 (by decide) (fun _ => ?_) (fun c => absurd c (by decide))
              refine lv_iload hx hb dL_plain_223 (lv_at hl 5 rfl) ?_
              refine fk_callS (As := [.ref (ad 0), .int (nI a)]) (rest := []) ⟨hx, hb, hml, hown, hts⟩ (kl_words l D ad cI cT cJ _ S (nI a)) (va_cwS 2 hts gL_plain_L_words rfl rfl rfl (by decide +kernel) ⟨Nat.le_of_ble_eq_true rfl, Nat.le_of_ble_eq_true rfl⟩) hK hP hD hS hA rfl hl.1 rfl (Nat.le_of_ble_eq_true rfl) dL_plain_225 ⟨Nat.le_of_ble_eq_true rfl, Nat.le_of_ble_eq_true rfl⟩ (fun H locs hP hD hS => ?_)
              refine W.eq (g2 := F0 m 228 ls [.long (pl_wds S (nI a))]) rfl ?_
              refine lv_lload hx hb dL_plain_228 (lv_at hl 1 rfl) ?_
              refine W.lcmp hx hb dL_plain_230 ?_
              refine W.eq (g2 := F0 m 231 ls [.int 0]) (by rw [fk_cmp_self]) ?_
              refine lv_if_ne (tgt := 254) hx hb dL_plain_231 (by decide) (fun c => absurd c (by decide)) (fun _ => ?_)
              refine lv_iload hx hb dL_plain_234 (lv_at hl 3 rfl) ?_
              refine lv_if_ne (tgt := 250) hx hb dL_plain_236 (by decide) (fun c => absurd c (by decide)) (fun _ => ?_)
              refine lv_aload_n hx hb dL_plain_239 rfl (lv_at hl 8 rfl) ?_
              refine lv_iload hx hb dL_plain_240 (lv_at hl 5 rfl) ?_
              refine fk_callV (As := [.int (nI a)]) (rest := []) ⟨hx, hb, hml, hown, hts⟩ (kc_word l D ad cI cT cJ _ S a ha) (cwV 1 hts gL_plain_X2_word rfl rfl rfl (by decide +kernel) ⟨Nat.le_of_ble_eq_true rfl, Nat.le_of_ble_eq_true rfl⟩) (fk_rvK hK hP) hK hP hD hS hA rfl hl.1 rfl (Nat.le_of_ble_eq_true rfl) dL_plain_242 ⟨Nat.le_of_ble_eq_true rfl, Nat.le_of_ble_eq_true rfl⟩ (fun H locs hP hD hS => ?_)
              refine W.eq (g2 := F0 m 245 ls [.int (S 0 a)]) rfl ?_
              refine lv_iload hx hb dL_plain_245 (lv_at hl 0 rfl) ?_
              refine lv_icmp_ne (tgt := 254) hx hb dL_plain_247 (by decide) (fun c => absurd rfl c) (fun _ => ?_)
              refine lv_iconst (v := 1) hx hb dL_plain_250 (by decide) ?_
              refine lv_goto (tgt := 255) hx hb dL_plain_251 (by decide) ?_
              exact fk_zretE (Nat.le_of_ble_eq_true rfl) (Nat.le_of_ble_eq_true rfl) hx hb hr hlocks hP hK hD hS rfl ⟨rfl, _, _, rfl, (hG).wk (by omega)⟩ dL_plain_255
          · have hov : ov = 1 := by rw [h_ov, Bool.eq_false_iff.mpr hout]; rfl
            have hout9 : (fk_isT th && fk_isA av) = false := Bool.eq_false_iff.mpr hout
            have hl : lv_has ls 14 [(7, .int 1), (6, .int vv), (5, .int av), (4, .int th), (3, .int (pl_some y 3)), (0, .ref (ad 0)), (1, .int y), (2, .int od)] := by rw [hov] at hl; exact hl
            refine lv_aload_n hx hb dL_plain_118 rfl (lv_at hl 5 rfl) ?_
            refine lv_iconst (v := (-1)) hx hb dL_plain_119 (by decide) ?_
            refine fk_callS (As := [.ref (ad 0), .int (-1)]) (rest := []) ⟨hx, hb, hml, hown, hts⟩ (kl_threads l D ad cI cT cJ _ S hG.1.sz hG.1.J (-1)) (va_cwS 2 hts gL_plain_L_threads rfl rfl rfl (by decide +kernel) ⟨Nat.le_of_ble_eq_true rfl, Nat.le_of_ble_eq_true rfl⟩) hK hP hD hS hA rfl hl.1 rfl (Nat.le_of_ble_eq_true rfl) dL_plain_120 ⟨Nat.le_of_ble_eq_true rfl, Nat.le_of_ble_eq_true rfl⟩ (fun H locs hP hD hS => ?_)
            refine W.eq (g2 := F0 m 123 ls [.long (pl_thr S (-1))]) rfl ?_
            refine lv_lstore (lv' := [(8, .long (pl_thr S (-1))), (7, .int 1), (6, .int vv), (5, .int av), (4, .int th), (3, .int (pl_some y 3)), (0, .ref (ad 0)), (1, .int y), (2, .int od)]) hx hb dL_plain_123 hl (by decide) rfl (fun ls hl => ?_)
            refine lv_aload_n hx hb dL_plain_125 rfl (lv_at hl 6 rfl) ?_
            refine lv_iload hx hb dL_plain_126 (lv_at hl 1 rfl) ?_
            refine lv_if_eq (tgt := 135) hx hb dL_plain_128 (by decide) (fun c => absurd c (by decide)) (fun _ => ?_)
            refine lv_iconst (v := (-1)) hx hb dL_plain_131 (by decide) ?_
            refine lv_goto (tgt := 137) hx hb dL_plain_132 (by decide) ?_
            refine fk_callS (As := [.ref (ad 0), .int (-1)]) (rest := []) ⟨hx, hb, hml, hown, hts⟩ (kl_words l D ad cI cT cJ _ S (-1)) (va_cwS 2 hts gL_plain_L_words rfl rfl rfl (by decide +kernel) ⟨Nat.le_of_ble_eq_true rfl, Nat.le_of_ble_eq_true rfl⟩) hK hP hD hS hA rfl hl.1 rfl (Nat.le_of_ble_eq_true rfl) dL_plain_137 ⟨Nat.le_of_ble_eq_true rfl, Nat.le_of_ble_eq_true rfl⟩ (fun H locs hP hD hS => ?_)
            refine W.eq (g2 := F0 m 140 ls [.long (pl_wds S (-1))]) rfl ?_
            refine lv_lstore (lv' := [(10, .long (pl_wds S (-1))), (8, .long (pl_thr S (-1))), (7, .int 1), (6, .int vv), (5, .int av), (4, .int th), (3, .int (pl_some y 3)), (0, .ref (ad 0)), (1, .int y), (2, .int od)]) hx hb dL_plain_140 hl (by decide) rfl (fun ls hl => ?_)
            refine lv_iload hx hb dL_plain_142 (lv_at hl 2 rfl) ?_
            refine lv_if_eq (tgt := 151) hx hb dL_plain_144 (by decide) (fun c => absurd c (by decide)) (fun _ => ?_)
            refine lv_iconst (v := 0) hx hb dL_plain_147 (by decide) ?_
            refine lv_goto (tgt := 157) hx hb dL_plain_148 (by decide) ?_
            refine lv_istore (lv' := [(12, .int 0), (10, .long (pl_wds S (-1))), (8, .long (pl_thr S (-1))), (7, .int 1), (6, .int vv), (5, .int av), (4, .int th), (3, .int (pl_some y 3)), (0, .ref (ad 0)), (1, .int y), (2, .int od)]) hx hb dL_plain_157 hl (by decide) rfl (fun ls hl => ?_)
            refine lv_iload hx hb dL_plain_159 (lv_at hl 3 rfl) ?_
            refine lv_if_ne (tgt := 173) hx hb dL_plain_161 (by decide) (fun _ => ?_) (fun c => absurd c (by decide))
            refine lv_aload_n hx hb dL_plain_173 rfl (lv_at hl 8 rfl) ?_
            refine lv_bipush (v := 6) hx hb dL_plain_174 (by decide) ?_
            refine lv_iload hx hb dL_plain_176 (lv_at hl 6 rfl) ?_
            refine lv_iload hx hb dL_plain_178 (lv_at hl 5 rfl) ?_
            refine lv_iload hx hb dL_plain_180 (lv_at hl 0 rfl) ?_
            refine lv_iload hx hb dL_plain_182 (lv_at hl 4 rfl) ?_
            refine fk_lcallS (As := [.ref (ad 0), .int 6, .int th, .int av, .int 0, .int vv]) (rest := []) ⟨hx, hb, hml, hown, hts⟩ (Lx_compareAndSet_IO l D ad cI cT cJ _ S _ _ _ _ (xo_compareAndSet l D ad cI cT cJ S th av _ _ hst hout9)) (vx_cwSW 6 hts gL_plain_L_acts rfl rfl rfl (by decide +kernel) ⟨Nat.le_of_ble_eq_true rfl, Nat.le_of_ble_eq_true rfl⟩) hK hP hD hS hA hZ hN rfl hl.1 rfl (Nat.le_of_ble_eq_true rfl) dL_plain_184 ⟨Nat.le_of_ble_eq_true rfl, Nat.le_of_ble_eq_true rfl⟩ (fun H locs hP hD hS => ?_)
            refine W.eq (g2 := F0 m 187 ls [.int (-2147483201)]) rfl ?_
            refine lv_iload hx hb dL_plain_187 (lv_at hl 3 rfl) ?_
            refine lv_if_eq (tgt := 197) hx hb dL_plain_189 (by decide) (fun c => absurd c (by decide)) (fun _ => ?_)
            refine lv_ldc (own := RL) (v := (-2147483201)) hx hb hown (hts (.constant RL 17 (-2147483201)) (List.mem_of_getElem? (i := 1) rfl)) dL_plain_192 ?_
            refine lv_goto (tgt := 199) hx hb dL_plain_194 (by decide) ?_
            refine lv_icmp_ne (tgt := 254) hx hb dL_plain_199 (by decide) (fun c => absurd c (by decide)) (fun _ => ?_)
            refine lv_aload_n hx hb dL_plain_202 rfl (lv_at hl 8 rfl) ?_
            refine lv_iconst (v := (-1)) hx hb dL_plain_203 (by decide) ?_
            refine fk_callS (As := [.ref (ad 0), .int (-1)]) (rest := []) ⟨hx, hb, hml, hown, hts⟩ (kl_threads l D ad cI cT cJ _ S hG.1.sz hG.1.J (-1)) (va_cwS 2 hts gL_plain_L_threads rfl rfl rfl (by decide +kernel) ⟨Nat.le_of_ble_eq_true rfl, Nat.le_of_ble_eq_true rfl⟩) hK hP hD hS hA rfl hl.1 rfl (Nat.le_of_ble_eq_true rfl) dL_plain_204 ⟨Nat.le_of_ble_eq_true rfl, Nat.le_of_ble_eq_true rfl⟩ (fun H locs hP hD hS => ?_)
            refine W.eq (g2 := F0 m 207 ls [.long (pl_thr S (-1))]) rfl ?_
            refine lv_lload hx hb dL_plain_207 (lv_at hl 2 rfl) ?_
            refine W.lcmp hx hb dL_plain_209 ?_
            refine W.eq (g2 := F0 m 210 ls [.int 0]) (by rw [fk_cmp_self]) ?_
            refine lv_if_ne (tgt := 254) hx hb dL_plain_210 (by decide) (fun c => absurd c (by decide)) (fun _ => ?_)
            refine lv_aload_n hx hb dL_plain_213 rfl (lv_at hl 8 rfl) ?_
            refine lv_iload hx hb dL_plain_214 (lv_at hl 3 rfl) ?_
            refine lv_if_eq (tgt := 223) hx hb dL_plain_216 (by decide) (fun c => absurd c (by decide)) (fun _ => ?_)
            refine lv_iconst (v := (-1)) hx hb dL_plain_219 (by decide) ?_
            refine lv_goto (tgt := 225) hx hb dL_plain_220 (by decide) ?_
            refine fk_callS (As := [.ref (ad 0), .int (-1)]) (rest := []) ⟨hx, hb, hml, hown, hts⟩ (kl_words l D ad cI cT cJ _ S (-1)) (va_cwS 2 hts gL_plain_L_words rfl rfl rfl (by decide +kernel) ⟨Nat.le_of_ble_eq_true rfl, Nat.le_of_ble_eq_true rfl⟩) hK hP hD hS hA rfl hl.1 rfl (Nat.le_of_ble_eq_true rfl) dL_plain_225 ⟨Nat.le_of_ble_eq_true rfl, Nat.le_of_ble_eq_true rfl⟩ (fun H locs hP hD hS => ?_)
            refine W.eq (g2 := F0 m 228 ls [.long (pl_wds S (-1))]) rfl ?_
            refine lv_lload hx hb dL_plain_228 (lv_at hl 1 rfl) ?_
            refine W.lcmp hx hb dL_plain_230 ?_
            refine W.eq (g2 := F0 m 231 ls [.int 0]) (by rw [fk_cmp_self]) ?_
            refine lv_if_ne (tgt := 254) hx hb dL_plain_231 (by decide) (fun c => absurd c (by decide)) (fun _ => ?_)
            refine lv_iload hx hb dL_plain_234 (lv_at hl 3 rfl) ?_
            refine lv_if_ne (tgt := 250) hx hb dL_plain_236 (by decide) (fun _ => ?_) (fun c => absurd c (by decide))
            refine lv_iconst (v := 1) hx hb dL_plain_250 (by decide) ?_
            refine lv_goto (tgt := 255) hx hb dL_plain_251 (by decide) ?_
            exact fk_zretE (Nat.le_of_ble_eq_true rfl) (Nat.le_of_ble_eq_true rfl) hx hb hr hlocks hP hK hD hS rfl ⟨rfl, _, _, rfl, (hG).wk (by omega)⟩ dL_plain_255
        refine lv_iload hx hb dL_plain_87 (lv_at hl 2 rfl) ?_
        refine lv_if_lt (tgt := 111) hx hb dL_plain_89 (by decide) (fun c_38 => ?_) (fun c_38 => ?_)
        · refine lv_iconst (v := 1) hx hb dL_plain_111 (by decide) ?_
          refine lv_goto (tgt := 116) hx hb dL_plain_112 (by decide) ?_
          exact jn116 1 (by first | exact fk_oA (by assumption) | exact fk_oB (by assumption) | exact fk_oC (by assumption) | exact fk_oD (by assumption) | exact fk_oE (by assumption) (by assumption) (by assumption) (by assumption)) _ _ _ hP hD hS hl
        · refine lv_iload hx hb dL_plain_92 (lv_at hl 2 rfl) ?_
          refine lv_bipush (v := 7) hx hb dL_plain_94 (by decide) ?_
          refine lv_icmp_gt (tgt := 111) hx hb dL_plain_96 (by decide) (fun c_39 => ?_) (fun c_39 => ?_)
          · refine lv_iconst (v := 1) hx hb dL_plain_111 (by decide) ?_
            refine lv_goto (tgt := 116) hx hb dL_plain_112 (by decide) ?_
            exact jn116 1 (by first | exact fk_oA (by assumption) | exact fk_oB (by assumption) | exact fk_oC (by assumption) | exact fk_oD (by assumption) | exact fk_oE (by assumption) (by assumption) (by assumption) (by assumption)) _ _ _ hP hD hS hl
          · refine lv_iload hx hb dL_plain_99 (lv_at hl 1 rfl) ?_
            refine lv_if_lt (tgt := 111) hx hb dL_plain_101 (by decide) (fun c_40 => ?_) (fun c_40 => ?_)
            · refine lv_iconst (v := 1) hx hb dL_plain_111 (by decide) ?_
              refine lv_goto (tgt := 116) hx hb dL_plain_112 (by decide) ?_
              exact jn116 1 (by first | exact fk_oA (by assumption) | exact fk_oB (by assumption) | exact fk_oC (by assumption) | exact fk_oD (by assumption) | exact fk_oE (by assumption) (by assumption) (by assumption) (by assumption)) _ _ _ hP hD hS hl
            · refine lv_iload hx hb dL_plain_104 (lv_at hl 1 rfl) ?_
              refine lv_bipush (v := 15) hx hb dL_plain_106 (by decide) ?_
              refine lv_icmp_le (tgt := 115) hx hb dL_plain_108 (by decide) (fun c_41 => ?_) (fun c_41 => ?_)
              · refine lv_iconst (v := 0) hx hb dL_plain_115 (by decide) ?_
                exact jn116 0 (by first | exact fk_oA (by assumption) | exact fk_oB (by assumption) | exact fk_oC (by assumption) | exact fk_oD (by assumption) | exact fk_oE (by assumption) (by assumption) (by assumption) (by assumption)) _ _ _ hP hD hS hl
              · refine lv_iconst (v := 1) hx hb dL_plain_111 (by decide) ?_
                refine lv_goto (tgt := 116) hx hb dL_plain_112 (by decide) ?_
                exact jn116 1 (by first | exact fk_oA (by assumption) | exact fk_oB (by assumption) | exact fk_oC (by assumption) | exact fk_oD (by assumption) | exact fk_oE (by assumption) (by assumption) (by assumption) (by assumption)) _ _ _ hP hD hS hl
      refine lv_iload_n hx hb dL_plain_61 rfl (lv_at hl 4 rfl) ?_
      refine lv_bipush (v := 9) hx hb dL_plain_62 (by decide) ?_
      refine lv_ishr hx hb dL_plain_64 ?_
      refine lv_iconst (v := 3) hx hb dL_plain_65 (by decide) ?_
      refine fk_callS (As := [.int (y >>> (9 &&& 31)), .int 3]) (rest := []) ⟨hx, hb, hml, hown, hts⟩ (kl_some l D ad cI cT cJ _ S (y >>> (9 &&& 31)) 3 (by decide)) (va_cwS 2 hts gL_plain_L_some rfl rfl rfl (by decide +kernel) ⟨Nat.le_of_ble_eq_true rfl, Nat.le_of_ble_eq_true rfl⟩) hK hP hD hS hA rfl hl.1 rfl (Nat.le_of_ble_eq_true rfl) dL_plain_66 ⟨Nat.le_of_ble_eq_true rfl, Nat.le_of_ble_eq_true rfl⟩ (fun H locs hP hD hS => ?_)
      refine W.eq (g2 := F0 m 69 ls [.int (pl_some (y >>> (9 &&& 31)) 3)]) rfl ?_
      refine lv_if_ne (tgt := 76) hx hb dL_plain_69 (by decide) (fun c_42 => ?_) (fun c_42 => ?_)
      · refine lv_iload_n hx hb dL_plain_76 rfl (lv_at hl 4 rfl) ?_
        refine lv_bipush (v := 11) hx hb dL_plain_77 (by decide) ?_
        refine lv_ishr hx hb dL_plain_79 ?_
        refine lv_bipush (v := 10) hx hb dL_plain_80 (by decide) ?_
        refine fk_callS (As := [.int (y >>> (11 &&& 31)), .int 10]) (rest := []) ⟨hx, hb, hml, hown, hts⟩ (kl_some l D ad cI cT cJ _ S (y >>> (11 &&& 31)) 10 (by decide)) (va_cwS 2 hts gL_plain_L_some rfl rfl rfl (by decide +kernel) ⟨Nat.le_of_ble_eq_true rfl, Nat.le_of_ble_eq_true rfl⟩) hK hP hD hS hA rfl hl.1 rfl (Nat.le_of_ble_eq_true rfl) dL_plain_82 ⟨Nat.le_of_ble_eq_true rfl, Nat.le_of_ble_eq_true rfl⟩ (fun H locs hP hD hS => ?_)
        refine W.eq (g2 := F0 m 85 ls [.int (pl_some (y >>> (11 &&& 31)) 10)]) rfl ?_
        exact jn85 (pl_some (y >>> (11 &&& 31)) 10) _ _ _ hP hD hS hl
      · refine lv_iload_n hx hb dL_plain_72 rfl (lv_at hl 4 rfl) ?_
        refine lv_goto (tgt := 85) hx hb dL_plain_73 (by decide) ?_
        exact jn85 y _ _ _ hP hD hS hl
    refine lv_iload_n hx hb dL_plain_33 rfl (lv_at hl 4 rfl) ?_
    refine lv_if_eq (tgt := 51) hx hb dL_plain_34 (by decide) (fun c_43 => ?_) (fun c_43 => ?_)
    · refine lv_iload_n hx hb dL_plain_51 rfl (lv_at hl 3 rfl) ?_
      refine lv_bipush (v := 6) hx hb dL_plain_52 (by decide) ?_
      refine lv_ishr hx hb dL_plain_54 ?_
      refine lv_iconst (v := 4) hx hb dL_plain_55 (by decide) ?_
      refine fk_callS (As := [.int (y >>> (6 &&& 31)), .int 4]) (rest := []) ⟨hx, hb, hml, hown, hts⟩ (kl_some l D ad cI cT cJ _ S (y >>> (6 &&& 31)) 4 (by decide)) (va_cwS 2 hts gL_plain_L_some rfl rfl rfl (by decide +kernel) ⟨Nat.le_of_ble_eq_true rfl, Nat.le_of_ble_eq_true rfl⟩) hK hP hD hS hA rfl hl.1 rfl (Nat.le_of_ble_eq_true rfl) dL_plain_56 ⟨Nat.le_of_ble_eq_true rfl, Nat.le_of_ble_eq_true rfl⟩ (fun H locs hP hD hS => ?_)
      refine W.eq (g2 := F0 m 59 ls [.int (pl_some (y >>> (6 &&& 31)) 4)]) rfl ?_
      exact jn59 (pl_some (y >>> (6 &&& 31)) 4) _ _ _ hP hD hS hl
    · refine lv_iload_n hx hb dL_plain_37 rfl (lv_at hl 3 rfl) ?_
      refine lv_bipush (v := 6) hx hb dL_plain_38 (by decide) ?_
      refine lv_ishr hx hb dL_plain_40 ?_
      refine lv_bipush (v := 18) hx hb dL_plain_41 (by decide) ?_
      refine fk_callS (As := [.int (y >>> (6 &&& 31)), .int 18]) (rest := []) ⟨hx, hb, hml, hown, hts⟩ (kl_some l D ad cI cT cJ _ S (y >>> (6 &&& 31)) 18 (by decide)) (va_cwS 2 hts gL_plain_L_some rfl rfl rfl (by decide +kernel) ⟨Nat.le_of_ble_eq_true rfl, Nat.le_of_ble_eq_true rfl⟩) hK hP hD hS hA rfl hl.1 rfl (Nat.le_of_ble_eq_true rfl) dL_plain_43 ⟨Nat.le_of_ble_eq_true rfl, Nat.le_of_ble_eq_true rfl⟩ (fun H locs hP hD hS => ?_)
      refine W.eq (g2 := F0 m 46 ls [.int (pl_some (y >>> (6 &&& 31)) 18)]) rfl ?_
      refine lv_iconst (v := 1) hx hb dL_plain_46 (by decide) ?_
      refine lv_isub hx hb dL_plain_47 ?_
      refine lv_goto (tgt := 59) hx hb dL_plain_48 (by decide) ?_
      exact jn59 ((pl_some (y >>> (6 &&& 31)) 18) - 1) _ _ _ hP hD hS hl
  refine lv_iload_n hx hb dL_plain_6 rfl (lv_at hl 3 rfl) ?_
  refine lv_if_eq (tgt := 23) hx hb dL_plain_7 (by decide) (fun c_44 => ?_) (fun c_44 => ?_)
  · refine lv_iload_n hx hb dL_plain_23 rfl (lv_at hl 2 rfl) ?_
    refine lv_iconst (v := 2) hx hb dL_plain_24 (by decide) ?_
    refine lv_ishr hx hb dL_plain_25 ?_
    refine lv_bipush (v := 8) hx hb dL_plain_26 (by decide) ?_
    refine fk_callS (As := [.int (y >>> (2 &&& 31)), .int 8]) (rest := []) ⟨hx, hb, hml, hown, hts⟩ (kl_some l D ad cI cT cJ _ S (y >>> (2 &&& 31)) 8 (by decide)) (va_cwS 2 hts gL_plain_L_some rfl rfl rfl (by decide +kernel) ⟨Nat.le_of_ble_eq_true rfl, Nat.le_of_ble_eq_true rfl⟩) hK hP hD hS hA rfl hl.1 rfl (Nat.le_of_ble_eq_true rfl) dL_plain_28 ⟨Nat.le_of_ble_eq_true rfl, Nat.le_of_ble_eq_true rfl⟩ (fun H locs hP hD hS => ?_)
    refine W.eq (g2 := F0 m 31 ls [.int (pl_some (y >>> (2 &&& 31)) 8)]) rfl ?_
    exact jn31 (pl_some (y >>> (2 &&& 31)) 8) _ _ _ hP hD hS hl
  · refine lv_iload_n hx hb dL_plain_10 rfl (lv_at hl 2 rfl) ?_
    refine lv_iconst (v := 2) hx hb dL_plain_11 (by decide) ?_
    refine lv_ishr hx hb dL_plain_12 ?_
    refine lv_bipush (v := 10) hx hb dL_plain_13 (by decide) ?_
    refine fk_callS (As := [.int (y >>> (2 &&& 31)), .int 10]) (rest := []) ⟨hx, hb, hml, hown, hts⟩ (kl_some l D ad cI cT cJ _ S (y >>> (2 &&& 31)) 10 (by decide)) (va_cwS 2 hts gL_plain_L_some rfl rfl rfl (by decide +kernel) ⟨Nat.le_of_ble_eq_true rfl, Nat.le_of_ble_eq_true rfl⟩) hK hP hD hS hA rfl hl.1 rfl (Nat.le_of_ble_eq_true rfl) dL_plain_15 ⟨Nat.le_of_ble_eq_true rfl, Nat.le_of_ble_eq_true rfl⟩ (fun H locs hP hD hS => ?_)
    refine W.eq (g2 := F0 m 18 ls [.int (pl_some (y >>> (2 &&& 31)) 10)]) rfl ?_
    refine lv_iconst (v := 1) hx hb dL_plain_18 (by decide) ?_
    refine lv_isub hx hb dL_plain_19 ?_
    refine lv_goto (tgt := 31) hx hb dL_plain_20 (by decide) ?_
    exact jn31 ((pl_some (y >>> (2 &&& 31)) 10) - 1) _ _ _ hP hD hS hl
