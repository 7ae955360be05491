abbrev rmL_whole : Room := { frames := 3, cells := 0, slots := 0, locals := 73 }
set_option maxHeartbeats 4000000 in
set_option maxRecDepth 100000 in
theorem kl_whole (l : Launch) (D : va_G) (ad : Nat → Nat) (cI cT cJ : ClassId) (X : va_W) (S : fk_S) (q : Nat) (P : Nat → Int32) (n : Nat) (hG : kq_G n S P) (hn : n < 2 ^ 16) : fk_C l D (fk_ty cI cT cJ) yL_whole wsL_whole rmL_whole [.ref (ad 0), .ref q] (fk_kW ad cI cT S ++ (q, fk_pr cI P) :: X) (some (.int 1)) (fk_kW ad cI cT S ++ (q, fk_pr cI P) :: X) := by
  refine fk_C_of (cc := cL_whole) (maxL := 11) (ret := (some .boolean)) (own := RL) (by decide) rfl rfl (Nat.le_of_ble_eq_true rfl) ?_
  intro p e s m below meth c A ls hx hb hr hlocks hml hts hown hA hP hK hD hl
  have hS : va_S A s.heap s.heap [] := va_S.rf
  have hl : lv_has ls 11 [(0, .ref (ad 0)), (1, .ref q)] := hl
  refine lv_iconst (v := 0) hx hb dL_whole_0 (by decide) ?_
  refine lv_istore_n (lv' := [(2, .int 0), (0, .ref (ad 0)), (1, .ref q)]) hx hb dL_whole_1 rfl hl (by decide) rfl (fun ls hl => ?_)
  refine lv_iconst (v := 0) hx hb dL_whole_2 (by decide) ?_
  refine lv_istore_n (lv' := [(3, .int 0), (2, .int 0), (0, .ref (ad 0)), (1, .ref q)]) hx hb dL_whole_3 rfl hl (by decide) rfl (fun ls hl => ?_)
  refine lv_iconst (v := 1) hx hb dL_whole_4 (by decide) ?_
  refine lv_istore (lv' := [(4, .int 1), (3, .int 0), (2, .int 0), (0, .ref (ad 0)), (1, .ref q)]) hx hb dL_whole_5 hl (by decide) rfl (fun ls hl => ?_)
  refine lv_iconst (v := 0) hx hb dL_whole_7 (by decide) ?_
  refine lv_istore (lv' := [(5, .int 0), (4, .int 1), (3, .int 0), (2, .int 0), (0, .ref (ad 0)), (1, .ref q)]) hx hb dL_whole_8 hl (by decide) rfl (fun ls hl => ?_)
  have loopA : ∀ (n1 : Nat) (b x : Nat), b + n1 = 4 → x = pl_sm (fun b => (kq_B S b).length) b → ∀ (H : Heap) (locs : List Loc) (ls : Array Slot), va_P D vwCl (fk_kW ad cI cT S ++ (q, fk_pr cI P) :: X) H → va_D A (fk_kW ad cI cT S ++ (q, fk_pr cI P) :: X) → va_S A s.heap H locs → lv_has ls 11 [(5, .int (nI b)), (4, .int 1), (3, .int 0), (2, .int (nI x)), (0, .ref (ad 0)), (1, .ref q)] → W p l e rmL_whole s m ([.ref (ad 0), .ref q] : List Value).toArray below meth c H locs 0 0 (fk_Q below D (fk_ty cI cT cJ) [.ref (ad 0), .ref q] s A (fk_kW ad cI cT S ++ (q, fk_pr cI P) :: X) (some (.int 1))) (F0 m 10 ls []) := by
    intro n1
    induction n1 with
    | zero =>
      intro b x hb9 hx9 H locs ls hP hD hS hl
      have hb49 : b = 4 := by omega
      rw [hb49] at hx9
      refine lv_iload hx hb dL_whole_10 (lv_at hl 0 rfl) ?_
      refine lv_iconst (v := 4) hx hb dL_whole_12 (by decide) ?_
      refine lv_icmp_ge (tgt := 179) hx hb dL_whole_13 (by decide) (fun c_1 => ?_) (fun c_1 => absurd (nI_le (a := 4) (b := b) (by omega) (by omega)) c_1)
      refine lv_iconst (v := 0) hx hb dL_whole_179 (by decide) ?_
      refine lv_istore (lv' := [(5, .int 0), (4, .int 1), (3, .int 0), (2, .int (nI x)), (0, .ref (ad 0)), (1, .ref q)]) hx hb dL_whole_180 hl (by decide) rfl (fun ls hl => ?_)
      have loopC : ∀ (n1 : Nat) (t w : Nat), t + n1 = 8 → w = pl_wn S t → ∀ (H : Heap) (locs : List Loc) (ls : Array Slot), va_P D vwCl (fk_kW ad cI cT S ++ (q, fk_pr cI P) :: X) H → va_D A (fk_kW ad cI cT S ++ (q, fk_pr cI P) :: X) → va_S A s.heap H locs → lv_has ls 11 [(5, .int (nI t)), (4, .int 1), (3, .int (nI w)), (2, .int (nI x)), (0, .ref (ad 0)), (1, .ref q)] → W p l e rmL_whole s m ([.ref (ad 0), .ref q] : List Value).toArray below meth c H locs 0 0 (fk_Q below D (fk_ty cI cT cJ) [.ref (ad 0), .ref q] s A (fk_kW ad cI cT S ++ (q, fk_pr cI P) :: X) (some (.int 1))) (F0 m 182 ls []) := by
        intro n1
        induction n1 with
        | zero =>
          intro t w ht9 hw9 H locs ls hP hD hS hl
          have ht89 : t = 8 := by omega
          rw [ht89] at hw9
          refine lv_iload hx hb dL_whole_182 (lv_at hl 0 rfl) ?_
          refine lv_bipush (v := 8) hx hb dL_whole_184 (by decide) ?_
          refine lv_icmp_ge (tgt := 370) hx hb dL_whole_186 (by decide) (fun c_2 => ?_) (fun c_2 => absurd (nI_le (a := 8) (b := t) (by omega) (by omega)) c_2)
          refine lv_iconst (v := 0) hx hb dL_whole_370 (by decide) ?_
          refine lv_istore (lv' := [(5, .int 0), (4, .int 1), (3, .int (nI w)), (2, .int (nI x)), (0, .ref (ad 0)), (1, .ref q)]) hx hb dL_whole_371 hl (by decide) rfl (fun ls hl => ?_)
          refine lv_iconst (v := 0) hx hb dL_whole_373 (by decide) ?_
          refine lv_istore (lv' := [(6, .int 0), (5, .int 0), (4, .int 1), (3, .int (nI w)), (2, .int (nI x)), (0, .ref (ad 0)), (1, .ref q)]) hx hb dL_whole_374 hl (by decide) rfl (fun ls hl => ?_)
          have loopD : ∀ (n1 : Nat) (a y : Nat), a + n1 = 16 → y = pl_sm (fun a => (kq_A S a).length) a → ∀ (H : Heap) (locs : List Loc) (ls : Array Slot), va_P D vwCl (fk_kW ad cI cT S ++ (q, fk_pr cI P) :: X) H → va_D A (fk_kW ad cI cT S ++ (q, fk_pr cI P) :: X) → va_S A s.heap H locs → lv_has ls 11 [(6, .int (nI a)), (5, .int (nI y)), (4, .int 1), (3, .int (nI w)), (2, .int (nI x)), (0, .ref (ad 0)), (1, .ref q)] → W p l e rmL_whole s m ([.ref (ad 0), .ref q] : List Value).toArray below meth c H locs 0 0 (fk_Q below D (fk_ty cI cT cJ) [.ref (ad 0), .ref q] s A (fk_kW ad cI cT S ++ (q, fk_pr cI P) :: X) (some (.int 1))) (F0 m 376 ls []) := by
            intro n1
            induction n1 with
            | zero =>
              intro a y ha9 hy9 H locs ls hP hD hS hl
              have ha169 : a = 16 := by omega
              rw [ha169] at hy9
              have hxw : x = w := by rw [hx9, hw9]; exact kq_sumB hG.1
              have hyw : y = w := by rw [hy9, hw9]; exact kq_sumA hG.1
              have hl : lv_has ls 11 [(6, .int (nI a)), (5, .int (nI w)), (4, .int 1), (3, .int (nI w)), (2, .int (nI w)), (0, .ref (ad 0)), (1, .ref q)] := by rw [hxw, hyw] at hl; exact hl
              refine lv_iload hx hb dL_whole_376 (lv_at hl 0 rfl) ?_
              refine lv_bipush (v := 16) hx hb dL_whole_378 (by decide) ?_
              refine lv_icmp_ge (tgt := 532) hx hb dL_whole_380 (by decide) (fun c_3 => ?_) (fun c_3 => absurd (nI_le (a := 16) (b := a) (by omega) (by omega)) c_3)
              refine lv_aload_n hx hb dL_whole_532 rfl (lv_at hl 5 rfl) ?_
              refine fk_callV (As := []) (rest := []) ⟨hx, hb, hml, hown, hts⟩ (kc_nextTimeout l D ad cI cT cJ _ S) (cwV 0 hts gL_whole_X2_nextTimeout rfl rfl rfl (by decide +kernel) ⟨Nat.le_of_ble_eq_true rfl, Nat.le_of_ble_eq_true rfl⟩) (fk_rvK hK hP) hK hP hD hS hA rfl hl.1 rfl (Nat.le_of_ble_eq_true rfl) dL_whole_533 ⟨Nat.le_of_ble_eq_true rfl, Nat.le_of_ble_eq_true rfl⟩ (fun H locs hP hD hS => ?_)
              refine W.eq (g2 := F0 m 536 ls [.int (kk_nextR S)]) rfl ?_
              refine lv_istore (lv' := [(6, .int (kk_nextR S)), (5, .int (nI w)), (4, .int 1), (3, .int (nI w)), (2, .int (nI w)), (0, .ref (ad 0)), (1, .ref q)]) hx hb dL_whole_536 hl (by decide) rfl (fun ls hl => ?_)
              refine lv_iload hx hb dL_whole_538 (lv_at hl 2 rfl) ?_
              refine lv_if_eq (tgt := 569) hx hb dL_whole_540 (by decide) (fun c => absurd c (by decide)) (fun _ => ?_)
              refine lv_iload_n hx hb dL_whole_543 rfl (lv_at hl 4 rfl) ?_
              refine lv_iload_n hx hb dL_whole_544 rfl (lv_at hl 3 rfl) ?_
              refine lv_icmp_ne (tgt := 569) hx hb dL_whole_545 (by decide) (fun c => absurd rfl c) (fun _ => ?_)
              refine lv_iload hx hb dL_whole_548 (lv_at hl 1 rfl) ?_
              refine lv_iload_n hx hb dL_whole_550 rfl (lv_at hl 3 rfl) ?_
              refine lv_icmp_ne (tgt := 569) hx hb dL_whole_551 (by decide) (fun c => absurd rfl c) (fun _ => ?_)
              refine lv_iload hx hb dL_whole_554 (lv_at hl 0 rfl) ?_
              refine lv_iconst (v := (-1)) hx hb dL_whole_556 (by decide) ?_
              refine lv_icmp_eq (tgt := 565) hx hb dL_whole_557 (by decide) (fun c_5 => ?_) (fun c_5 => ?_)
              · refine lv_iconst (v := 1) hx hb dL_whole_565 (by decide) ?_
                refine lv_goto (tgt := 570) hx hb dL_whole_566 (by decide) ?_
                exact fk_zret hx hb hr hlocks hP hK hD hS rfl rfl (by rfl) dL_whole_570
              · refine lv_iload hx hb dL_whole_560 (lv_at hl 0 rfl) ?_
                refine lv_if_le (tgt := 569) hx hb dL_whole_562 (by decide) (fun c_6 => absurd c_6 (Int32.not_le.mpr (hG.1.next_pos (by omega) |>.resolve_left c_5))) (fun c_6 => ?_)
                refine lv_iconst (v := 1) hx hb dL_whole_565 (by decide) ?_
                refine lv_goto (tgt := 570) hx hb dL_whole_566 (by decide) ?_
                exact fk_zret hx hb hr hlocks hP hK hD hS rfl rfl (by rfl) dL_whole_570
            | succ n1 ih1 =>
              intro a y ha9 hy9 H locs ls hP hD hS hl
              have ha : a < 16 := by omega
              have hA8 := kq_A8 S a
              have hB8 := kq_B8 S (pl_bkt a)
              refine lv_iload hx hb dL_whole_376 (lv_at hl 0 rfl) ?_
              refine lv_bipush (v := 16) hx hb dL_whole_378 (by decide) ?_
              refine lv_icmp_ge (tgt := 532) hx hb dL_whole_380 (by decide) (fun c_7 => absurd c_7 (nI_ge (a := a) (b := 16) (by omega) (by omega))) (fun c_7 => ?_)
              refine lv_iload hx hb dL_whole_383 (lv_at hl 2 rfl) ?_
              refine lv_if_eq (tgt := 532) hx hb dL_whole_385 (by decide) (fun c => absurd c (by decide)) (fun _ => ?_)
              refine lv_aload_n hx hb dL_whole_388 rfl (lv_at hl 5 rfl) ?_
              refine lv_iload hx hb dL_whole_389 (lv_at hl 0 rfl) ?_
              refine fk_callV (As := [.int (nI a)]) (rest := []) ⟨hx, hb, hml, hown, hts⟩ (kc_waiters l D ad cI cT cJ _ S a ha) (cwV 1 hts gL_whole_X2_waiters rfl rfl rfl (by decide +kernel) ⟨Nat.le_of_ble_eq_true rfl, Nat.le_of_ble_eq_true rfl⟩) (fk_rvK hK hP) hK hP hD hS hA rfl hl.1 rfl (Nat.le_of_ble_eq_true rfl) dL_whole_391 ⟨Nat.le_of_ble_eq_true rfl, Nat.le_of_ble_eq_true rfl⟩ (fun H locs hP hD hS => ?_)
              refine W.eq (g2 := F0 m 394 ls [.int (kk_waiters S (nI a))]) rfl ?_
              refine W.eq (g2 := F0 m 394 ls [.int (nI ((kq_A S a).length))]) (by rw [show (kk_waiters S (nI a)) = (nI ((kq_A S a).length)) from (kq_waiters _ _)]) ?_
              refine lv_istore (lv' := [(7, .int (nI ((kq_A S a).length))), (6, .int (nI a)), (5, .int (nI y)), (4, .int 1), (3, .int (nI w)), (2, .int (nI x)), (0, .ref (ad 0)), (1, .ref q)]) hx hb dL_whole_394 hl (by decide) rfl (fun ls hl => ?_)
              refine lv_iconst (v := 0) hx hb dL_whole_396 (by decide) ?_
              refine lv_istore (lv' := [(8, .int 0), (7, .int (nI ((kq_A S a).length))), (6, .int (nI a)), (5, .int (nI y)), (4, .int 1), (3, .int (nI w)), (2, .int (nI x)), (0, .ref (ad 0)), (1, .ref q)]) hx hb dL_whole_397 hl (by decide) rfl (fun ls hl => ?_)
              refine lv_iload hx hb dL_whole_399 (lv_at hl 3 rfl) ?_
              refine lv_iload hx hb dL_whole_401 (lv_at hl 1 rfl) ?_
              refine lv_iadd hx hb dL_whole_403 ?_
              refine W.eq (g2 := F0 m 404 ls [.int (nI (y + (kq_A S a).length))]) (by rw [nI_add]) ?_
              refine lv_istore (lv' := [(5, .int (nI (y + (kq_A S a).length))), (8, .int 0), (7, .int (nI ((kq_A S a).length))), (6, .int (nI a)), (4, .int 1), (3, .int (nI w)), (2, .int (nI x)), (0, .ref (ad 0)), (1, .ref q)]) hx hb dL_whole_404 hl (by decide) rfl (fun ls hl => ?_)
              refine lv_iconst (v := 0) hx hb dL_whole_406 (by decide) ?_
              refine lv_istore (lv' := [(9, .int 0), (5, .int (nI (y + (kq_A S a).length))), (8, .int 0), (7, .int (nI ((kq_A S a).length))), (6, .int (nI a)), (4, .int 1), (3, .int (nI w)), (2, .int (nI x)), (0, .ref (ad 0)), (1, .ref q)]) hx hb dL_whole_407 hl (by decide) rfl (fun ls hl => ?_)
              have loopE : ∀ (n2 : Nat) (i : Nat) (F : List Nat), i + n2 = (kq_B S (pl_bkt a)).length → F ++ ((kq_B S (pl_bkt a)).drop i).filter (fun w => decide (S 3 w = nI a)) = kq_A S a → ∀ (H : Heap) (locs : List Loc) (ls : Array Slot), va_P D vwCl (fk_kW ad cI cT S ++ (q, fk_pr cI P) :: X) H → va_D A (fk_kW ad cI cT S ++ (q, fk_pr cI P) :: X) → va_S A s.heap H locs → lv_has ls 11 [(9, .int (nI i)), (8, .int (nI F.length)), (7, .int (nI ((kq_A S a).length))), (6, .int (nI a)), (5, .int (nI (y + (kq_A S a).length))), (4, .int 1), (3, .int (nI w)), (2, .int (nI x)), (0, .ref (ad 0)), (1, .ref q)] → W p l e rmL_whole s m ([.ref (ad 0), .ref q] : List Value).toArray below meth c H locs 0 0 (fk_Q below D (fk_ty cI cT cJ) [.ref (ad 0), .ref q] s A (fk_kW ad cI cT S ++ (q, fk_pr cI P) :: X) (some (.int 1))) (F0 m 409 ls []) := by
                intro n2
                induction n2 with
                | zero =>
                  intro i F hi hF H locs ls hP hD hS hl
                  rw [(kq_stop hi).2] at hF
                  have hFA : F = kq_A S a := by rw [← hF]; simp
                  have hl : lv_has ls 11 [(9, .int (nI i)), (8, .int (nI ((kq_A S a).length))), (7, .int (nI ((kq_A S a).length))), (6, .int (nI a)), (5, .int (nI (y + (kq_A S a).length))), (4, .int 1), (3, .int (nI w)), (2, .int (nI x)), (0, .ref (ad 0)), (1, .ref q)] := by rw [hFA] at hl; exact hl
                  refine lv_aload_n hx hb dL_whole_409 rfl (lv_at hl 8 rfl) ?_
                  refine lv_iload hx hb dL_whole_410 (lv_at hl 3 rfl) ?_
                  refine fk_callS (As := [.int (nI a)]) (rest := [.ref (ad 0)]) ⟨hx, hb, hml, hown, hts⟩ (kl_bucket l D ad cI cT cJ _ S (nI a)) (va_cwS 1 hts gL_whole_L_bucket rfl rfl rfl (by decide +kernel) ⟨Nat.le_of_ble_eq_true rfl, Nat.le_of_ble_eq_true rfl⟩) hK hP hD hS hA rfl hl.1 rfl (Nat.le_of_ble_eq_true rfl) dL_whole_412 ⟨Nat.le_of_ble_eq_true rfl, Nat.le_of_ble_eq_true rfl⟩ (fun H locs hP hD hS => ?_)
                  refine W.eq (g2 := F0 m 415 ls [.int (fk_bkt (nI a)), .ref (ad 0)]) rfl ?_
                  refine W.eq (g2 := F0 m 415 ls [.int (nI (pl_bkt a)), .ref (ad 0)]) (by rw [show (fk_bkt (nI a)) = (nI (pl_bkt a)) from (fk_bkt_N (by omega))]) ?_
                  refine lv_iload hx hb dL_whole_415 (lv_at hl 0 rfl) ?_
                  refine fk_callV (As := [.int (nI (pl_bkt a)), .int (nI i)]) (rest := []) ⟨hx, hb, hml, hown, hts⟩ (kc_queueAt l D ad cI cT cJ _ S (pl_bkt a) (pl_bkt_lt a) (nI i) (nI_pos' (by omega))) (cwV 2 hts gL_whole_X2_queueAt rfl rfl rfl (by decide +kernel) ⟨Nat.le_of_ble_eq_true rfl, Nat.le_of_ble_eq_true rfl⟩) (fk_rvK hK hP) hK hP hD hS hA rfl hl.1 rfl (Nat.le_of_ble_eq_true rfl) dL_whole_417 ⟨Nat.le_of_ble_eq_true rfl, Nat.le_of_ble_eq_true rfl⟩ (fun H locs hP hD hS => ?_)
                  refine W.eq (g2 := F0 m 420 ls [.int (fk_oI (kk_qAt S (nI (pl_bkt a)) (nI i)))]) rfl ?_
                  refine W.eq (g2 := F0 m 420 ls [.int (-1)]) (by rw [show (fk_oI (kk_qAt S (nI (pl_bkt a)) (nI i))) = ((-1) : Int32) from (by rw [kq_qAt hG.1.J _ (by omega), (kq_stop hi).1]; rfl)]) ?_
                  refine lv_iconst (v := (-1)) hx hb dL_whole_420 (by decide) ?_
                  refine lv_icmp_eq (tgt := 507) hx hb dL_whole_421 (by decide) (fun _ => ?_) (fun c => absurd c (by decide))
                  refine lv_iload hx hb dL_whole_507 (lv_at hl 5 rfl) ?_
                  refine lv_if_eq (tgt := 523) hx hb dL_whole_509 (by decide) (fun c => absurd c (by decide)) (fun _ => ?_)
                  refine lv_iload hx hb dL_whole_512 (lv_at hl 1 rfl) ?_
                  refine lv_iload hx hb dL_whole_514 (lv_at hl 2 rfl) ?_
                  refine lv_icmp_ne (tgt := 523) hx hb dL_whole_516 (by decide) (fun c => absurd rfl c) (fun _ => ?_)
                  refine lv_iconst (v := 1) hx hb dL_whole_519 (by decide) ?_
                  refine lv_goto (tgt := 524) hx hb dL_whole_520 (by decide) ?_
                  refine lv_istore (lv' := [(4, .int 1), (9, .int (nI i)), (8, .int (nI ((kq_A S a).length))), (7, .int (nI ((kq_A S a).length))), (6, .int (nI a)), (5, .int (nI (y + (kq_A S a).length))), (3, .int (nI w)), (2, .int (nI x)), (0, .ref (ad 0)), (1, .ref q)]) hx hb dL_whole_524 hl (by decide) rfl (fun ls hl => ?_)
                  refine lv_iinc (v := (nI (a + 1))) (lv' := [(6, .int (nI (a + 1))), (4, .int 1), (9, .int (nI i)), (8, .int (nI ((kq_A S a).length))), (7, .int (nI ((kq_A S a).length))), (5, .int (nI (y + (kq_A S a).length))), (3, .int (nI w)), (2, .int (nI x)), (0, .ref (ad 0)), (1, .ref q)]) hx hb dL_whole_526 hl (k := 4) rfl (nI_1 a) (by decide) rfl (fun ls hl => ?_)
                  refine lv_goto (tgt := 376) hx hb dL_whole_529 (by decide) ?_
                  exact ih1 (a + 1) (y + (kq_A S a).length) (by omega) (by rw [hy9]; rfl) _ _ _ hP hD hS (lv_sub hl [0, 5, 1, 6, 7, 8, 9] rfl)
                | succ n2 ih2 =>
                  intro i F hi hF H locs ls hP hD hS hl
                  obtain ⟨t, hgt, hdt⟩ := kq_step hi
                  have ht := kq_B_lt hgt
                  rw [hdt] at hF
                  obtain ⟨hF1, hF0⟩ := kq_putA hF
                  refine lv_aload_n hx hb dL_whole_409 rfl (lv_at hl 8 rfl) ?_
                  refine lv_iload hx hb dL_whole_410 (lv_at hl 3 rfl) ?_
                  refine fk_callS (As := [.int (nI a)]) (rest := [.ref (ad 0)]) ⟨hx, hb, hml, hown, hts⟩ (kl_bucket l D ad cI cT cJ _ S (nI a)) (va_cwS 1 hts gL_whole_L_bucket rfl rfl rfl (by decide +kernel) ⟨Nat.le_of_ble_eq_true rfl, Nat.le_of_ble_eq_true rfl⟩) hK hP hD hS hA rfl hl.1 rfl (Nat.le_of_ble_eq_true rfl) dL_whole_412 ⟨Nat.le_of_ble_eq_true rfl, Nat.le_of_ble_eq_true rfl⟩ (fun H locs hP hD hS => ?_)
                  refine W.eq (g2 := F0 m 415 ls [.int (fk_bkt (nI a)), .ref (ad 0)]) rfl ?_
                  refine W.eq (g2 := F0 m 415 ls [.int (nI (pl_bkt a)), .ref (ad 0)]) (by rw [show (fk_bkt (nI a)) = (nI (pl_bkt a)) from (fk_bkt_N (by omega))]) ?_
                  refine lv_iload hx hb dL_whole_415 (lv_at hl 0 rfl) ?_
                  refine fk_callV (As := [.int (nI (pl_bkt a)), .int (nI i)]) (rest := []) ⟨hx, hb, hml, hown, hts⟩ (kc_queueAt l D ad cI cT cJ _ S (pl_bkt a) (pl_bkt_lt a) (nI i) (nI_pos' (by omega))) (cwV 2 hts gL_whole_X2_queueAt rfl rfl rfl (by decide +kernel) ⟨Nat.le_of_ble_eq_true rfl, Nat.le_of_ble_eq_true rfl⟩) (fk_rvK hK hP) hK hP hD hS hA rfl hl.1 rfl (Nat.le_of_ble_eq_true rfl) dL_whole_417 ⟨Nat.le_of_ble_eq_true rfl, Nat.le_of_ble_eq_true rfl⟩ (fun H locs hP hD hS => ?_)
                  refine W.eq (g2 := F0 m 420 ls [.int (fk_oI (kk_qAt S (nI (pl_bkt a)) (nI i)))]) rfl ?_
                  refine W.eq (g2 := F0 m 420 ls [.int (nI t)]) (by rw [show (fk_oI (kk_qAt S (nI (pl_bkt a)) (nI i))) = (nI t) from (by rw [kq_qAt hG.1.J _ (by omega), hgt]; rfl)]) ?_
                  refine lv_iconst (v := (-1)) hx hb dL_whole_420 (by decide) ?_
                  refine lv_icmp_eq (tgt := 507) hx hb dL_whole_421 (by decide) (fun c => absurd c (fk_nI_m1 (by omega))) (fun _ => ?_)
                  refine lv_iload hx hb dL_whole_424 (lv_at hl 5 rfl) ?_
                  refine lv_if_eq (tgt := 507) hx hb dL_whole_426 (by decide) (fun c => absurd c (by decide)) (fun _ => ?_)
                  refine lv_aload_n hx hb dL_whole_429 rfl (lv_at hl 8 rfl) ?_
                  refine lv_iload hx hb dL_whole_430 (lv_at hl 3 rfl) ?_
                  refine fk_callS (As := [.int (nI a)]) (rest := [.ref (ad 0)]) ⟨hx, hb, hml, hown, hts⟩ (kl_bucket l D ad cI cT cJ _ S (nI a)) (va_cwS 1 hts gL_whole_L_bucket rfl rfl rfl (by decide +kernel) ⟨Nat.le_of_ble_eq_true rfl, Nat.le_of_ble_eq_true rfl⟩) hK hP hD hS hA rfl hl.1 rfl (Nat.le_of_ble_eq_true rfl) dL_whole_432 ⟨Nat.le_of_ble_eq_true rfl, Nat.le_of_ble_eq_true rfl⟩ (fun H locs hP hD hS => ?_)
                  refine W.eq (g2 := F0 m 435 ls [.int (fk_bkt (nI a)), .ref (ad 0)]) rfl ?_
                  refine W.eq (g2 := F0 m 435 ls [.int (nI (pl_bkt a)), .ref (ad 0)]) (by rw [show (fk_bkt (nI a)) = (nI (pl_bkt a)) from (fk_bkt_N (by omega))]) ?_
                  refine lv_iload hx hb dL_whole_435 (lv_at hl 0 rfl) ?_
                  refine fk_callV (As := [.int (nI (pl_bkt a)), .int (nI i)]) (rest := []) ⟨hx, hb, hml, hown, hts⟩ (kc_queueAt l D ad cI cT cJ _ S (pl_bkt a) (pl_bkt_lt a) (nI i) (nI_pos' (by omega))) (cwV 2 hts gL_whole_X2_queueAt rfl rfl rfl (by decide +kernel) ⟨Nat.le_of_ble_eq_true rfl, Nat.le_of_ble_eq_true rfl⟩) (fk_rvK hK hP) hK hP hD hS hA rfl hl.1 rfl (Nat.le_of_ble_eq_true rfl) dL_whole_437 ⟨Nat.le_of_ble_eq_true rfl, Nat.le_of_ble_eq_true rfl⟩ (fun H locs hP hD hS => ?_)
                  refine W.eq (g2 := F0 m 440 ls [.int (fk_oI (kk_qAt S (nI (pl_bkt a)) (nI i)))]) rfl ?_
                  refine W.eq (g2 := F0 m 440 ls [.int (nI t)]) (by rw [show (fk_oI (kk_qAt S (nI (pl_bkt a)) (nI i))) = (nI t) from (by rw [kq_qAt hG.1.J _ (by omega), hgt]; rfl)]) ?_
                  refine lv_istore (lv' := [(10, .int (nI t)), (9, .int (nI i)), (8, .int (nI F.length)), (7, .int (nI ((kq_A S a).length))), (6, .int (nI a)), (5, .int (nI (y + (kq_A S a).length))), (4, .int 1), (3, .int (nI w)), (2, .int (nI x)), (0, .ref (ad 0)), (1, .ref q)]) hx hb dL_whole_440 hl (by decide) rfl (fun ls hl => ?_)
                  by_cases he3 : S 3 t = nI a
                  · obtain ⟨hF2, hF3, hF4⟩ := hF1 he3
                    refine lv_aload_n hx hb dL_whole_442 rfl (lv_at hl 9 rfl) ?_
                    refine lv_iload hx hb dL_whole_443 (lv_at hl 0 rfl) ?_
                    refine fk_callV (As := [.int (nI t)]) (rest := []) ⟨hx, hb, hml, hown, hts⟩ (kc_addressOf l D ad cI cT cJ _ S t ht) (cwV 1 hts gL_whole_X2_addressOf rfl rfl rfl (by decide +kernel) ⟨Nat.le_of_ble_eq_true rfl, Nat.le_of_ble_eq_true rfl⟩) (fk_rvK hK hP) hK hP hD hS hA rfl hl.1 rfl (Nat.le_of_ble_eq_true rfl) dL_whole_445 ⟨Nat.le_of_ble_eq_true rfl, Nat.le_of_ble_eq_true rfl⟩ (fun H locs hP hD hS => ?_)
                    refine W.eq (g2 := F0 m 448 ls [.int (S 3 t)]) rfl ?_
                    refine W.eq (g2 := F0 m 448 ls [.int (nI a)]) (by rw [show (S 3 t) = (nI a) from he3]) ?_
                    refine lv_iload hx hb dL_whole_448 (lv_at hl 4 rfl) ?_
                    refine lv_icmp_ne (tgt := 473) hx hb dL_whole_450 (by decide) (fun c => absurd rfl c) (fun _ => ?_)
                    refine lv_iload hx hb dL_whole_453 (lv_at hl 2 rfl) ?_
                    refine lv_iload hx hb dL_whole_455 (lv_at hl 3 rfl) ?_
                    refine lv_icmp_ge (tgt := 477) hx hb dL_whole_457 (by decide) (fun c_12 => absurd c_12 (nI_ge (a := F.length) (b := (kq_A S a).length) hF4 (by omega))) (fun c_12 => ?_)
                    refine lv_aload_n hx hb dL_whole_460 rfl (lv_at hl 9 rfl) ?_
                    refine lv_iload hx hb dL_whole_461 (lv_at hl 4 rfl) ?_
                    refine lv_iload hx hb dL_whole_463 (lv_at hl 2 rfl) ?_
                    refine fk_callV (As := [.int (nI a), .int (nI F.length)]) (rest := []) ⟨hx, hb, hml, hown, hts⟩ (kc_waiterAt l D ad cI cT cJ _ S a ha (nI F.length) t (by rw [kq_wAt hG.1.J (by omega) (by omega)]; exact hF3)) (cwV 2 hts gL_whole_X2_waiterAt rfl rfl rfl (by decide +kernel) ⟨Nat.le_of_ble_eq_true rfl, Nat.le_of_ble_eq_true rfl⟩) (fk_rvK hK hP) hK hP hD hS hA rfl hl.1 rfl (Nat.le_of_ble_eq_true rfl) dL_whole_465 ⟨Nat.le_of_ble_eq_true rfl, Nat.le_of_ble_eq_true rfl⟩ (fun H locs hP hD hS => ?_)
                    refine W.eq (g2 := F0 m 468 ls [.int (nI t)]) rfl ?_
                    refine lv_iload hx hb dL_whole_468 (lv_at hl 0 rfl) ?_
                    refine lv_icmp_ne (tgt := 477) hx hb dL_whole_470 (by decide) (fun c => absurd rfl c) (fun _ => ?_)
                    refine lv_iconst (v := 1) hx hb dL_whole_473 (by decide) ?_
                    refine lv_goto (tgt := 478) hx hb dL_whole_474 (by decide) ?_
                    refine lv_istore (lv' := [(4, .int 1), (10, .int (nI t)), (9, .int (nI i)), (8, .int (nI F.length)), (7, .int (nI ((kq_A S a).length))), (6, .int (nI a)), (5, .int (nI (y + (kq_A S a).length))), (3, .int (nI w)), (2, .int (nI x)), (0, .ref (ad 0)), (1, .ref q)]) hx hb dL_whole_478 hl (by decide) rfl (fun ls hl => ?_)
                    refine lv_iload hx hb dL_whole_480 (lv_at hl 3 rfl) ?_
                    refine lv_aload_n hx hb dL_whole_482 rfl (lv_at hl 9 rfl) ?_
                    refine lv_iload hx hb dL_whole_483 (lv_at hl 1 rfl) ?_
                    refine fk_callV (As := [.int (nI t)]) (rest := [.int (nI F.length)]) ⟨hx, hb, hml, hown, hts⟩ (kc_addressOf l D ad cI cT cJ _ S t ht) (cwV 1 hts gL_whole_X2_addressOf rfl rfl rfl (by decide +kernel) ⟨Nat.le_of_ble_eq_true rfl, Nat.le_of_ble_eq_true rfl⟩) (fk_rvK hK hP) hK hP hD hS hA rfl hl.1 rfl (Nat.le_of_ble_eq_true rfl) dL_whole_485 ⟨Nat.le_of_ble_eq_true rfl, Nat.le_of_ble_eq_true rfl⟩ (fun H locs hP hD hS => ?_)
                    refine W.eq (g2 := F0 m 488 ls [.int (S 3 t), .int (nI F.length)]) rfl ?_
                    refine W.eq (g2 := F0 m 488 ls [.int (nI a), .int (nI F.length)]) (by rw [show (S 3 t) = (nI a) from he3]) ?_
                    refine lv_iload hx hb dL_whole_488 (lv_at hl 5 rfl) ?_
                    refine lv_icmp_ne (tgt := 497) hx hb dL_whole_490 (by decide) (fun c => absurd rfl c) (fun _ => ?_)
                    refine lv_iconst (v := 1) hx hb dL_whole_493 (by decide) ?_
                    refine lv_goto (tgt := 498) hx hb dL_whole_494 (by decide) ?_
                    refine lv_iadd hx hb dL_whole_498 ?_
                    refine W.eq (g2 := F0 m 499 ls [.int (nI (F.length + 1))]) (by rw [nI_1]) ?_
                    refine lv_istore (lv' := [(8, .int (nI (F.length + 1))), (4, .int 1), (10, .int (nI t)), (9, .int (nI i)), (7, .int (nI ((kq_A S a).length))), (6, .int (nI a)), (5, .int (nI (y + (kq_A S a).length))), (3, .int (nI w)), (2, .int (nI x)), (0, .ref (ad 0)), (1, .ref q)]) hx hb dL_whole_499 hl (by decide) rfl (fun ls hl => ?_)
                    have hFl : F.length + 1 = (F ++ [t]).length := by rw [List.length_append]; rfl
                    have hl : lv_has ls 11 [(8, .int (nI ((F ++ [t]).length))), (4, .int 1), (10, .int (nI t)), (9, .int (nI i)), (7, .int (nI ((kq_A S a).length))), (6, .int (nI a)), (5, .int (nI (y + (kq_A S a).length))), (3, .int (nI w)), (2, .int (nI x)), (0, .ref (ad 0)), (1, .ref q)] := by rw [hFl] at hl; exact hl
                    refine lv_iinc (v := (nI (i + 1))) (lv' := [(9, .int (nI (i + 1))), (8, .int (nI ((F ++ [t]).length))), (4, .int 1), (10, .int (nI t)), (7, .int (nI ((kq_A S a).length))), (6, .int (nI a)), (5, .int (nI (y + (kq_A S a).length))), (3, .int (nI w)), (2, .int (nI x)), (0, .ref (ad 0)), (1, .ref q)]) hx hb dL_whole_501 hl (k := 3) rfl (nI_1 i) (by decide) rfl (fun ls hl => ?_)
                    refine lv_goto (tgt := 409) hx hb dL_whole_504 (by decide) ?_
                    exact ih2 (i + 1) (F ++ [t]) (by omega) hF2 _ _ _ hP hD hS (lv_sub hl [0, 1, 4, 5, 6, 2, 7, 8, 9, 10] rfl)
                  · have hF2 := hF0 he3
                    refine lv_aload_n hx hb dL_whole_442 rfl (lv_at hl 9 rfl) ?_
                    refine lv_iload hx hb dL_whole_443 (lv_at hl 0 rfl) ?_
                    refine fk_callV (As := [.int (nI t)]) (rest := []) ⟨hx, hb, hml, hown, hts⟩ (kc_addressOf l D ad cI cT cJ _ S t ht) (cwV 1 hts gL_whole_X2_addressOf rfl rfl rfl (by decide +kernel) ⟨Nat.le_of_ble_eq_true rfl, Nat.le_of_ble_eq_true rfl⟩) (fk_rvK hK hP) hK hP hD hS hA rfl hl.1 rfl (Nat.le_of_ble_eq_true rfl) dL_whole_445 ⟨Nat.le_of_ble_eq_true rfl, Nat.le_of_ble_eq_true rfl⟩ (fun H locs hP hD hS => ?_)
                    refine W.eq (g2 := F0 m 448 ls [.int (S 3 t)]) rfl ?_
                    refine lv_iload hx hb dL_whole_448 (lv_at hl 4 rfl) ?_
                    refine lv_icmp_ne (tgt := 473) hx hb dL_whole_450 (by decide) (fun c_13 => ?_) (fun c9 => absurd c9 he3)
                    refine lv_iconst (v := 1) hx hb dL_whole_473 (by decide) ?_
                    refine lv_goto (tgt := 478) hx hb dL_whole_474 (by decide) ?_
                    refine lv_istore (lv' := [(4, .int 1), (10, .int (nI t)), (9, .int (nI i)), (8, .int (nI F.length)), (7, .int (nI ((kq_A S a).length))), (6, .int (nI a)), (5, .int (nI (y + (kq_A S a).length))), (3, .int (nI w)), (2, .int (nI x)), (0, .ref (ad 0)), (1, .ref q)]) hx hb dL_whole_478 hl (by decide) rfl (fun ls hl => ?_)
                    refine lv_iload hx hb dL_whole_480 (lv_at hl 3 rfl) ?_
                    refine lv_aload_n hx hb dL_whole_482 rfl (lv_at hl 9 rfl) ?_
                    refine lv_iload hx hb dL_whole_483 (lv_at hl 1 rfl) ?_
                    refine fk_callV (As := [.int (nI t)]) (rest := [.int (nI F.length)]) ⟨hx, hb, hml, hown, hts⟩ (kc_addressOf l D ad cI cT cJ _ S t ht) (cwV 1 hts gL_whole_X2_addressOf rfl rfl rfl (by decide +kernel) ⟨Nat.le_of_ble_eq_true rfl, Nat.le_of_ble_eq_true rfl⟩) (fk_rvK hK hP) hK hP hD hS hA rfl hl.1 rfl (Nat.le_of_ble_eq_true rfl) dL_whole_485 ⟨Nat.le_of_ble_eq_true rfl, Nat.le_of_ble_eq_true rfl⟩ (fun H locs hP hD hS => ?_)
                    refine W.eq (g2 := F0 m 488 ls [.int (S 3 t), .int (nI F.length)]) rfl ?_
                    refine lv_iload hx hb dL_whole_488 (lv_at hl 5 rfl) ?_
                    refine lv_icmp_ne (tgt := 497) hx hb dL_whole_490 (by decide) (fun c_14 => ?_) (fun c9 => absurd c9 he3)
                    refine lv_iconst (v := 0) hx hb dL_whole_497 (by decide) ?_
                    refine lv_iadd hx hb dL_whole_498 ?_
                    refine W.eq (g2 := F0 m 499 ls [.int (nI F.length)]) (by rw [show (0 : Int32) = nI 0 from rfl, nI_add]; rfl) ?_
                    refine lv_istore (lv' := [(8, .int (nI F.length)), (4, .int 1), (10, .int (nI t)), (9, .int (nI i)), (7, .int (nI ((kq_A S a).length))), (6, .int (nI a)), (5, .int (nI (y + (kq_A S a).length))), (3, .int (nI w)), (2, .int (nI x)), (0, .ref (ad 0)), (1, .ref q)]) hx hb dL_whole_499 hl (by decide) rfl (fun ls hl => ?_)
                    refine lv_iinc (v := (nI (i + 1))) (lv' := [(9, .int (nI (i + 1))), (8, .int (nI F.length)), (4, .int 1), (10, .int (nI t)), (7, .int (nI ((kq_A S a).length))), (6, .int (nI a)), (5, .int (nI (y + (kq_A S a).length))), (3, .int (nI w)), (2, .int (nI x)), (0, .ref (ad 0)), (1, .ref q)]) hx hb dL_whole_501 hl (k := 3) rfl (nI_1 i) (by decide) rfl (fun ls hl => ?_)
                    refine lv_goto (tgt := 409) hx hb dL_whole_504 (by decide) ?_
                    exact ih2 (i + 1) F (by omega) hF2 _ _ _ hP hD hS (lv_sub hl [0, 1, 4, 5, 6, 2, 7, 8, 9, 10] rfl)
              exact loopE (kq_B S (pl_bkt a)).length 0 [] (by omega) (by rw [List.nil_append]; exact (kq_AB hG.1.J (by omega) (fk_bkt_N (by omega))).symm) _ _ _ hP hD hS (lv_sub hl [0, 2, 3, 4, 1, 5, 6, 7, 8, 9] rfl)
          exact loopD 16 0 0 rfl rfl _ _ _ hP hD hS (lv_sub hl [0, 1, 2, 3, 4, 5, 6] rfl)
        | succ n1 ih1 =>
          intro t w ht9 hw9 H locs ls hP hD hS hl
          have ht : t < 8 := by omega
          refine lv_iload hx hb dL_whole_182 (lv_at hl 0 rfl) ?_
          refine lv_bipush (v := 8) hx hb dL_whole_184 (by decide) ?_
          refine lv_icmp_ge (tgt := 370) hx hb dL_whole_186 (by decide) (fun c_15 => absurd c_15 (nI_ge (a := t) (b := 8) (by omega) (by omega))) (fun c_15 => ?_)
          refine lv_iload hx hb dL_whole_189 (lv_at hl 1 rfl) ?_
          refine lv_if_eq (tgt := 370) hx hb dL_whole_191 (by decide) (fun c => absurd c (by decide)) (fun _ => ?_)
          rcases (hG.1.T ht).st with hs | hs | hs | hs
          · have e3 := ((hG.1.T ht).nq (Or.inl hs)).1
            refine lv_aload_n hx hb dL_whole_194 rfl (lv_at hl 4 rfl) ?_
            refine lv_iload hx hb dL_whole_195 (lv_at hl 0 rfl) ?_
            refine fk_callV (As := [.int (nI t)]) (rest := []) ⟨hx, hb, hml, hown, hts⟩ (kc_stateOf l D ad cI cT cJ _ S t ht) (cwV 1 hts gL_whole_X2_stateOf rfl rfl rfl (by decide +kernel) ⟨Nat.le_of_ble_eq_true rfl, Nat.le_of_ble_eq_true rfl⟩) (fk_rvK hK hP) hK hP hD hS hA rfl hl.1 rfl (Nat.le_of_ble_eq_true rfl) dL_whole_197 ⟨Nat.le_of_ble_eq_true rfl, Nat.le_of_ble_eq_true rfl⟩ (fun H locs hP hD hS => ?_)
            refine W.eq (g2 := F0 m 200 ls [.int (S 1 t)]) rfl ?_
            refine W.eq (g2 := F0 m 200 ls [.int 0]) (by rw [show (S 1 t) = (0 : Int32) from hs]) ?_
            refine lv_iconst (v := 1) hx hb dL_whole_200 (by decide) ?_
            refine lv_icmp_eq (tgt := 214) hx hb dL_whole_201 (by decide) (fun c => absurd c (by decide)) (fun _ => ?_)
            refine lv_aload_n hx hb dL_whole_204 rfl (lv_at hl 4 rfl) ?_
            refine lv_iload hx hb dL_whole_205 (lv_at hl 0 rfl) ?_
            refine fk_callV (As := [.int (nI t)]) (rest := []) ⟨hx, hb, hml, hown, hts⟩ (kc_stateOf l D ad cI cT cJ _ S t ht) (cwV 1 hts gL_whole_X2_stateOf rfl rfl rfl (by decide +kernel) ⟨Nat.le_of_ble_eq_true rfl, Nat.le_of_ble_eq_true rfl⟩) (fk_rvK hK hP) hK hP hD hS hA rfl hl.1 rfl (Nat.le_of_ble_eq_true rfl) dL_whole_207 ⟨Nat.le_of_ble_eq_true rfl, Nat.le_of_ble_eq_true rfl⟩ (fun H locs hP hD hS => ?_)
            refine W.eq (g2 := F0 m 210 ls [.int (S 1 t)]) rfl ?_
            refine W.eq (g2 := F0 m 210 ls [.int 0]) (by rw [show (S 1 t) = (0 : Int32) from hs]) ?_
            refine lv_iconst (v := 2) hx hb dL_whole_210 (by decide) ?_
            refine lv_icmp_ne (tgt := 218) hx hb dL_whole_211 (by decide) (fun _ => ?_) (fun c => absurd c (by decide))
            refine lv_iconst (v := 0) hx hb dL_whole_218 (by decide) ?_
            refine lv_istore (lv' := [(6, .int 0), (5, .int (nI t)), (4, .int 1), (3, .int (nI w)), (2, .int (nI x)), (0, .ref (ad 0)), (1, .ref q)]) hx hb dL_whole_219 hl (by decide) rfl (fun ls hl => ?_)
            refine lv_iload_n hx hb dL_whole_221 rfl (lv_at hl 3 rfl) ?_
            refine lv_iload hx hb dL_whole_222 (lv_at hl 0 rfl) ?_
            refine lv_if_eq (tgt := 231) hx hb dL_whole_224 (by decide) (fun _ => ?_) (fun c => absurd c (by decide))
            refine lv_iconst (v := 0) hx hb dL_whole_231 (by decide) ?_
            refine lv_iadd hx hb dL_whole_232 ?_
            refine W.eq (g2 := F0 m 233 ls [.int (nI w)]) (by rw [show (0 : Int32) = nI 0 from rfl, nI_add]; rfl) ?_
            refine lv_istore_n (lv' := [(3, .int (nI w)), (6, .int 0), (5, .int (nI t)), (4, .int 1), (2, .int (nI x)), (0, .ref (ad 0)), (1, .ref q)]) hx hb dL_whole_233 rfl hl (by decide) rfl (fun ls hl => ?_)
            have jn310 : ∀ (z9 : Int32), z9 = 1 → ∀ (H : Heap) (locs : List Loc) (ls : Array Slot), va_P D vwCl (fk_kW ad cI cT S ++ (q, fk_pr cI P) :: X) H → va_D A (fk_kW ad cI cT S ++ (q, fk_pr cI P) :: X) → va_S A s.heap H locs → lv_has ls 11 [(3, .int (nI w)), (6, .int 0), (5, .int (nI t)), (4, .int 1), (2, .int (nI x)), (0, .ref (ad 0)), (1, .ref q)] → W p l e rmL_whole s m ([.ref (ad 0), .ref q] : List Value).toArray below meth c H locs 0 0 (fk_Q below D (fk_ty cI cT cJ) [.ref (ad 0), .ref q] s A (fk_kW ad cI cT S ++ (q, fk_pr cI P) :: X) (some (.int 1))) (F0 m 310 ls [.int z9]) := by
              intro z9 h_z9 H locs ls hP hD hS hl
              refine lv_istore (lv' := [(4, .int z9), (3, .int (nI w)), (6, .int 0), (5, .int (nI t)), (2, .int (nI x)), (0, .ref (ad 0)), (1, .ref q)]) hx hb dL_whole_310 hl (by decide) rfl (fun ls hl => ?_)
              have hl : lv_has ls 11 [(4, .int 1), (3, .int (nI w)), (6, .int 0), (5, .int (nI t)), (2, .int (nI x)), (0, .ref (ad 0)), (1, .ref q)] := by rw [h_z9] at hl; exact hl
              refine lv_iconst (v := 0) hx hb dL_whole_312 (by decide) ?_
              refine lv_istore (lv' := [(7, .int 0), (4, .int 1), (3, .int (nI w)), (6, .int 0), (5, .int (nI t)), (2, .int (nI x)), (0, .ref (ad 0)), (1, .ref q)]) hx hb dL_whole_313 hl (by decide) rfl (fun ls hl => ?_)
              have loopU : ∀ (n2 : Nat) (u : Nat), u + n2 = t → ∀ (H : Heap) (locs : List Loc) (ls : Array Slot), va_P D vwCl (fk_kW ad cI cT S ++ (q, fk_pr cI P) :: X) H → va_D A (fk_kW ad cI cT S ++ (q, fk_pr cI P) :: X) → va_S A s.heap H locs → lv_has ls 11 [(7, .int (nI u)), (5, .int (nI t)), (4, .int 1), (3, .int (nI w)), (2, .int (nI x)), (0, .ref (ad 0)), (1, .ref q)] → W p l e rmL_whole s m ([.ref (ad 0), .ref q] : List Value).toArray below meth c H locs 0 0 (fk_Q below D (fk_ty cI cT cJ) [.ref (ad 0), .ref q] s A (fk_kW ad cI cT S ++ (q, fk_pr cI P) :: X) (some (.int 1))) (F0 m 315 ls []) := by
                intro n2
                induction n2 with
                | zero =>
                  intro u hu H locs ls hP hD hS hl
                  refine lv_iload hx hb dL_whole_315 (lv_at hl 0 rfl) ?_
                  refine lv_iload hx hb dL_whole_317 (lv_at hl 1 rfl) ?_
                  refine lv_icmp_ge (tgt := 364) hx hb dL_whole_319 (by decide) (fun c_20 => ?_) (fun c_20 => absurd (nI_le (a := t) (b := u) (by omega) (by omega)) c_20)
                  refine lv_iinc (v := (nI (t + 1))) (lv' := [(5, .int (nI (t + 1))), (7, .int (nI u)), (4, .int 1), (3, .int (nI w)), (2, .int (nI x)), (0, .ref (ad 0)), (1, .ref q)]) hx hb dL_whole_364 hl (k := 1) rfl (nI_1 t) (by decide) rfl (fun ls hl => ?_)
                  refine lv_goto (tgt := 182) hx hb dL_whole_367 (by decide) ?_
                  exact ih1 (t + 1) w (by omega) (by rw [hw9]; simp only [pl_wn]; rw [if_neg (by rw [kk_q_no hG.1 (by omega) (Or.inl hs)]; decide), Nat.add_zero]) _ _ _ hP hD hS (lv_sub hl [0, 2, 3, 4, 5, 6] rfl)
                | succ n2 ih2 =>
                  intro u hu H locs ls hP hD hS hl
                  refine lv_iload hx hb dL_whole_315 (lv_at hl 0 rfl) ?_
                  refine lv_iload hx hb dL_whole_317 (lv_at hl 1 rfl) ?_
                  refine lv_icmp_ge (tgt := 364) hx hb dL_whole_319 (by decide) (fun c_21 => absurd c_21 (nI_ge (a := u) (b := t) (by omega) (by omega))) (fun c_21 => ?_)
                  refine lv_iload hx hb dL_whole_322 (lv_at hl 2 rfl) ?_
                  refine lv_if_eq (tgt := 364) hx hb dL_whole_324 (by decide) (fun c => absurd c (by decide)) (fun _ => ?_)
                  refine lv_aload_n hx hb dL_whole_327 rfl (lv_at hl 5 rfl) ?_
                  refine lv_iload hx hb dL_whole_328 (lv_at hl 1 rfl) ?_
                  refine fk_callV (As := [.int (nI t)]) (rest := []) ⟨hx, hb, hml, hown, hts⟩ (kc_serialOf l D ad cI cT cJ _ S t ht) (cwV 1 hts gL_whole_X2_serialOf rfl rfl rfl (by decide +kernel) ⟨Nat.le_of_ble_eq_true rfl, Nat.le_of_ble_eq_true rfl⟩) (fk_rvK hK hP) hK hP hD hS hA rfl hl.1 rfl (Nat.le_of_ble_eq_true rfl) dL_whole_330 ⟨Nat.le_of_ble_eq_true rfl, Nat.le_of_ble_eq_true rfl⟩ (fun H locs hP hD hS => ?_)
                  refine W.eq (g2 := F0 m 333 ls [.int (S 9 t)]) rfl ?_
                  refine lv_if_eq (tgt := 351) hx hb dL_whole_333 (by decide) (fun c_23 => ?_) (fun c_23 => ?_)
                  · refine lv_iconst (v := 1) hx hb dL_whole_351 (by decide) ?_
                    refine lv_goto (tgt := 356) hx hb dL_whole_352 (by decide) ?_
                    refine lv_istore (lv' := [(4, .int 1), (7, .int (nI u)), (5, .int (nI t)), (3, .int (nI w)), (2, .int (nI x)), (0, .ref (ad 0)), (1, .ref q)]) hx hb dL_whole_356 hl (by decide) rfl (fun ls hl => ?_)
                    refine lv_iinc (v := (nI (u + 1))) (lv' := [(7, .int (nI (u + 1))), (4, .int 1), (5, .int (nI t)), (3, .int (nI w)), (2, .int (nI x)), (0, .ref (ad 0)), (1, .ref q)]) hx hb dL_whole_358 hl (k := 1) rfl (nI_1 u) (by decide) rfl (fun ls hl => ?_)
                    refine lv_goto (tgt := 315) hx hb dL_whole_361 (by decide) ?_
                    exact ih2 (u + 1) (by omega) _ _ _ hP hD hS (lv_sub hl [0, 2, 1, 3, 4, 5, 6] rfl)
                  · refine lv_aload_n hx hb dL_whole_336 rfl (lv_at hl 5 rfl) ?_
                    refine lv_iload hx hb dL_whole_337 (lv_at hl 0 rfl) ?_
                    refine fk_callV (As := [.int (nI u)]) (rest := []) ⟨hx, hb, hml, hown, hts⟩ (kc_serialOf l D ad cI cT cJ _ S u (by omega)) (cwV 1 hts gL_whole_X2_serialOf rfl rfl rfl (by decide +kernel) ⟨Nat.le_of_ble_eq_true rfl, Nat.le_of_ble_eq_true rfl⟩) (fk_rvK hK hP) hK hP hD hS hA rfl hl.1 rfl (Nat.le_of_ble_eq_true rfl) dL_whole_339 ⟨Nat.le_of_ble_eq_true rfl, Nat.le_of_ble_eq_true rfl⟩ (fun H locs hP hD hS => ?_)
                    refine W.eq (g2 := F0 m 342 ls [.int (S 9 u)]) rfl ?_
                    refine lv_aload_n hx hb dL_whole_342 rfl (lv_at hl 5 rfl) ?_
                    refine lv_iload hx hb dL_whole_343 (lv_at hl 1 rfl) ?_
                    refine fk_callV (As := [.int (nI t)]) (rest := [.int (S 9 u)]) ⟨hx, hb, hml, hown, hts⟩ (kc_serialOf l D ad cI cT cJ _ S t ht) (cwV 1 hts gL_whole_X2_serialOf rfl rfl rfl (by decide +kernel) ⟨Nat.le_of_ble_eq_true rfl, Nat.le_of_ble_eq_true rfl⟩) (fk_rvK hK hP) hK hP hD hS hA rfl hl.1 rfl (Nat.le_of_ble_eq_true rfl) dL_whole_345 ⟨Nat.le_of_ble_eq_true rfl, Nat.le_of_ble_eq_true rfl⟩ (fun H locs hP hD hS => ?_)
                    refine W.eq (g2 := F0 m 348 ls [.int (S 9 t), .int (S 9 u)]) rfl ?_
                    refine lv_icmp_eq (tgt := 355) hx hb dL_whole_348 (by decide) (fun c_24 => absurd c_24 (fun c9 => (hG.1.ser2 (show u < 8 by omega) ht c9).elim (fun z => absurd z (by omega)) (fun z => c_23 (c9.symm.trans z)))) (fun c_24 => ?_)
                    refine lv_iconst (v := 1) hx hb dL_whole_351 (by decide) ?_
                    refine lv_goto (tgt := 356) hx hb dL_whole_352 (by decide) ?_
                    refine lv_istore (lv' := [(4, .int 1), (7, .int (nI u)), (5, .int (nI t)), (3, .int (nI w)), (2, .int (nI x)), (0, .ref (ad 0)), (1, .ref q)]) hx hb dL_whole_356 hl (by decide) rfl (fun ls hl => ?_)
                    refine lv_iinc (v := (nI (u + 1))) (lv' := [(7, .int (nI (u + 1))), (4, .int 1), (5, .int (nI t)), (3, .int (nI w)), (2, .int (nI x)), (0, .ref (ad 0)), (1, .ref q)]) hx hb dL_whole_358 hl (k := 1) rfl (nI_1 u) (by decide) rfl (fun ls hl => ?_)
                    refine lv_goto (tgt := 315) hx hb dL_whole_361 (by decide) ?_
                    exact ih2 (u + 1) (by omega) _ _ _ hP hD hS (lv_sub hl [0, 2, 1, 3, 4, 5, 6] rfl)
              exact loopU t 0 (by omega) _ _ _ hP hD hS (lv_sub hl [0, 4, 1, 2, 5, 6, 7] rfl)
            by_cases hr8 : S 8 t = -1
            · refine lv_iload hx hb dL_whole_234 (lv_at hl 1 rfl) ?_
              refine lv_aload_n hx hb dL_whole_236 rfl (lv_at hl 5 rfl) ?_
              refine lv_iload hx hb dL_whole_237 (lv_at hl 2 rfl) ?_
              refine fk_callV (As := [.int (nI t)]) (rest := [.int 0]) ⟨hx, hb, hml, hown, hts⟩ (kc_addressOf l D ad cI cT cJ _ S t ht) (cwV 1 hts gL_whole_X2_addressOf rfl rfl rfl (by decide +kernel) ⟨Nat.le_of_ble_eq_true rfl, Nat.le_of_ble_eq_true rfl⟩) (fk_rvK hK hP) hK hP hD hS hA rfl hl.1 rfl (Nat.le_of_ble_eq_true rfl) dL_whole_239 ⟨Nat.le_of_ble_eq_true rfl, Nat.le_of_ble_eq_true rfl⟩ (fun H locs hP hD hS => ?_)
              refine W.eq (g2 := F0 m 242 ls [.int (S 3 t), .int 0]) rfl ?_
              refine W.eq (g2 := F0 m 242 ls [.int (-1), .int 0]) (by rw [show (S 3 t) = ((-1) : Int32) from e3]) ?_
              refine lv_iconst (v := (-1)) hx hb dL_whole_242 (by decide) ?_
              refine lv_icmp_eq (tgt := 250) hx hb dL_whole_243 (by decide) (fun _ => ?_) (fun c => absurd c (by decide))
              refine lv_iconst (v := 0) hx hb dL_whole_250 (by decide) ?_
              refine lv_icmp_ne (tgt := 309) hx hb dL_whole_251 (by decide) (fun c => absurd c (by decide)) (fun _ => ?_)
              refine lv_aload_n hx hb dL_whole_254 rfl (lv_at hl 5 rfl) ?_
              refine lv_iload hx hb dL_whole_255 (lv_at hl 2 rfl) ?_
              refine fk_callV (As := [.int (nI t)]) (rest := []) ⟨hx, hb, hml, hown, hts⟩ (kc_resultOf l D ad cI cT cJ _ S t ht) (cwV 1 hts gL_whole_X2_resultOf rfl rfl rfl (by decide +kernel) ⟨Nat.le_of_ble_eq_true rfl, Nat.le_of_ble_eq_true rfl⟩) (fk_rvK hK hP) hK hP hD hS hA rfl hl.1 rfl (Nat.le_of_ble_eq_true rfl) dL_whole_257 ⟨Nat.le_of_ble_eq_true rfl, Nat.le_of_ble_eq_true rfl⟩ (fun H locs hP hD hS => ?_)
              refine W.eq (g2 := F0 m 260 ls [.int (S 8 t)]) rfl ?_
              refine W.eq (g2 := F0 m 260 ls [.int (-1)]) (by rw [show (S 8 t) = ((-1) : Int32) from hr8]) ?_
              refine lv_iconst (v := (-1)) hx hb dL_whole_260 (by decide) ?_
              refine lv_icmp_ne (tgt := 268) hx hb dL_whole_261 (by decide) (fun c => absurd c (by decide)) (fun _ => ?_)
              refine lv_iconst (v := 1) hx hb dL_whole_264 (by decide) ?_
              refine lv_goto (tgt := 269) hx hb dL_whole_265 (by decide) ?_
              refine lv_aload_n hx hb dL_whole_269 rfl (lv_at hl 5 rfl) ?_
              refine lv_iload hx hb dL_whole_270 (lv_at hl 2 rfl) ?_
              refine fk_callV (As := [.int (nI t)]) (rest := [.int 1]) ⟨hx, hb, hml, hown, hts⟩ (kc_serialOf l D ad cI cT cJ _ S t ht) (cwV 1 hts gL_whole_X2_serialOf rfl rfl rfl (by decide +kernel) ⟨Nat.le_of_ble_eq_true rfl, Nat.le_of_ble_eq_true rfl⟩) (fk_rvK hK hP) hK hP hD hS hA rfl hl.1 rfl (Nat.le_of_ble_eq_true rfl) dL_whole_272 ⟨Nat.le_of_ble_eq_true rfl, Nat.le_of_ble_eq_true rfl⟩ (fun H locs hP hD hS => ?_)
              refine W.eq (g2 := F0 m 275 ls [.int (S 9 t), .int 1]) rfl ?_
              refine W.eq (g2 := F0 m 275 ls [.int 0, .int 1]) (by rw [show (S 9 t) = (0 : Int32) from ((hG.1.T ht).2.2.mp hr8)]) ?_
              refine lv_if_ne (tgt := 282) hx hb dL_whole_275 (by decide) (fun c => absurd c (by decide)) (fun _ => ?_)
              refine lv_iconst (v := 1) hx hb dL_whole_278 (by decide) ?_
              refine lv_goto (tgt := 283) hx hb dL_whole_279 (by decide) ?_
              refine lv_icmp_ne (tgt := 309) hx hb dL_whole_283 (by decide) (fun c => absurd c (by decide)) (fun _ => ?_)
              refine lv_aload_n hx hb dL_whole_286 rfl (lv_at hl 5 rfl) ?_
              refine lv_iload hx hb dL_whole_287 (lv_at hl 2 rfl) ?_
              refine fk_callV (As := [.int (nI t)]) (rest := []) ⟨hx, hb, hml, hown, hts⟩ (kc_stateOf l D ad cI cT cJ _ S t ht) (cwV 1 hts gL_whole_X2_stateOf rfl rfl rfl (by decide +kernel) ⟨Nat.le_of_ble_eq_true rfl, Nat.le_of_ble_eq_true rfl⟩) (fk_rvK hK hP) hK hP hD hS hA rfl hl.1 rfl (Nat.le_of_ble_eq_true rfl) dL_whole_289 ⟨Nat.le_of_ble_eq_true rfl, Nat.le_of_ble_eq_true rfl⟩ (fun H locs hP hD hS => ?_)
              refine W.eq (g2 := F0 m 292 ls [.int (S 1 t)]) rfl ?_
              refine W.eq (g2 := F0 m 292 ls [.int 0]) (by rw [show (S 1 t) = (0 : Int32) from hs]) ?_
              refine lv_iconst (v := 3) hx hb dL_whole_292 (by decide) ?_
              refine lv_icmp_ne (tgt := 305) hx hb dL_whole_293 (by decide) (fun _ => ?_) (fun c => absurd c (by decide))
              refine lv_iconst (v := 1) hx hb dL_whole_305 (by decide) ?_
              refine lv_goto (tgt := 310) hx hb dL_whole_306 (by decide) ?_
              exact jn310 1 rfl _ _ _ hP hD hS hl
            · refine lv_iload hx hb dL_whole_234 (lv_at hl 1 rfl) ?_
              refine lv_aload_n hx hb dL_whole_236 rfl (lv_at hl 5 rfl) ?_
              refine lv_iload hx hb dL_whole_237 (lv_at hl 2 rfl) ?_
              refine fk_callV (As := [.int (nI t)]) (rest := [.int 0]) ⟨hx, hb, hml, hown, hts⟩ (kc_addressOf l D ad cI cT cJ _ S t ht) (cwV 1 hts gL_whole_X2_addressOf rfl rfl rfl (by decide +kernel) ⟨Nat.le_of_ble_eq_true rfl, Nat.le_of_ble_eq_true rfl⟩) (fk_rvK hK hP) hK hP hD hS hA rfl hl.1 rfl (Nat.le_of_ble_eq_true rfl) dL_whole_239 ⟨Nat.le_of_ble_eq_true rfl, Nat.le_of_ble_eq_true rfl⟩ (fun H locs hP hD hS => ?_)
              refine W.eq (g2 := F0 m 242 ls [.int (S 3 t), .int 0]) rfl ?_
              refine W.eq (g2 := F0 m 242 ls [.int (-1), .int 0]) (by rw [show (S 3 t) = ((-1) : Int32) from e3]) ?_
              refine lv_iconst (v := (-1)) hx hb dL_whole_242 (by decide) ?_
              refine lv_icmp_eq (tgt := 250) hx hb dL_whole_243 (by decide) (fun _ => ?_) (fun c => absurd c (by decide))
              refine lv_iconst (v := 0) hx hb dL_whole_250 (by decide) ?_
              refine lv_icmp_ne (tgt := 309) hx hb dL_whole_251 (by decide) (fun c => absurd c (by decide)) (fun _ => ?_)
              refine lv_aload_n hx hb dL_whole_254 rfl (lv_at hl 5 rfl) ?_
              refine lv_iload hx hb dL_whole_255 (lv_at hl 2 rfl) ?_
              refine fk_callV (As := [.int (nI t)]) (rest := []) ⟨hx, hb, hml, hown, hts⟩ (kc_resultOf l D ad cI cT cJ _ S t ht) (cwV 1 hts gL_whole_X2_resultOf rfl rfl rfl (by decide +kernel) ⟨Nat.le_of_ble_eq_true rfl, Nat.le_of_ble_eq_true rfl⟩) (fk_rvK hK hP) hK hP hD hS hA rfl hl.1 rfl (Nat.le_of_ble_eq_true rfl) dL_whole_257 ⟨Nat.le_of_ble_eq_true rfl, Nat.le_of_ble_eq_true rfl⟩ (fun H locs hP hD hS => ?_)
              refine W.eq (g2 := F0 m 260 ls [.int (S 8 t)]) rfl ?_
              refine lv_iconst (v := (-1)) hx hb dL_whole_260 (by decide) ?_
              refine lv_icmp_ne (tgt := 268) hx hb dL_whole_261 (by decide) (fun c_33 => ?_) (fun c9 => absurd c9 hr8)
              refine lv_iconst (v := 0) hx hb dL_whole_268 (by decide) ?_
              refine lv_aload_n hx hb dL_whole_269 rfl (lv_at hl 5 rfl) ?_
              refine lv_iload hx hb dL_whole_270 (lv_at hl 2 rfl) ?_
              refine fk_callV (As := [.int (nI t)]) (rest := [.int 0]) ⟨hx, hb, hml, hown, hts⟩ (kc_serialOf l D ad cI cT cJ _ S t ht) (cwV 1 hts gL_whole_X2_serialOf rfl rfl rfl (by decide +kernel) ⟨Nat.le_of_ble_eq_true rfl, Nat.le_of_ble_eq_true rfl⟩) (fk_rvK hK hP) hK hP hD hS hA rfl hl.1 rfl (Nat.le_of_ble_eq_true rfl) dL_whole_272 ⟨Nat.le_of_ble_eq_true rfl, Nat.le_of_ble_eq_true rfl⟩ (fun H locs hP hD hS => ?_)
              refine W.eq (g2 := F0 m 275 ls [.int (S 9 t), .int 0]) rfl ?_
              refine lv_if_ne (tgt := 282) hx hb dL_whole_275 (by decide) (fun c_34 => ?_) (fun c9 => absurd ((hG.1.T ht).2.2.mpr c9) hr8)
              refine lv_iconst (v := 0) hx hb dL_whole_282 (by decide) ?_
              refine lv_icmp_ne (tgt := 309) hx hb dL_whole_283 (by decide) (fun c => absurd c (by decide)) (fun _ => ?_)
              refine lv_aload_n hx hb dL_whole_286 rfl (lv_at hl 5 rfl) ?_
              refine lv_iload hx hb dL_whole_287 (lv_at hl 2 rfl) ?_
              refine fk_callV (As := [.int (nI t)]) (rest := []) ⟨hx, hb, hml, hown, hts⟩ (kc_stateOf l D ad cI cT cJ _ S t ht) (cwV 1 hts gL_whole_X2_stateOf rfl rfl rfl (by decide +kernel) ⟨Nat.le_of_ble_eq_true rfl, Nat.le_of_ble_eq_true rfl⟩) (fk_rvK hK hP) hK hP hD hS hA rfl hl.1 rfl (Nat.le_of_ble_eq_true rfl) dL_whole_289 ⟨Nat.le_of_ble_eq_true rfl, Nat.le_of_ble_eq_true rfl⟩ (fun H locs hP hD hS => ?_)
              refine W.eq (g2 := F0 m 292 ls [.int (S 1 t)]) rfl ?_
              refine W.eq (g2 := F0 m 292 ls [.int 0]) (by rw [show (S 1 t) = (0 : Int32) from hs]) ?_
              refine lv_iconst (v := 3) hx hb dL_whole_292 (by decide) ?_
              refine lv_icmp_ne (tgt := 305) hx hb dL_whole_293 (by decide) (fun _ => ?_) (fun c => absurd c (by decide))
              refine lv_iconst (v := 1) hx hb dL_whole_305 (by decide) ?_
              refine lv_goto (tgt := 310) hx hb dL_whole_306 (by decide) ?_
              exact jn310 1 rfl _ _ _ hP hD hS hl
          · obtain ⟨a, ha, e3⟩ := (hG.1.T ht).q (Or.inl hs)
            refine lv_aload_n hx hb dL_whole_194 rfl (lv_at hl 4 rfl) ?_
            refine lv_iload hx hb dL_whole_195 (lv_at hl 0 rfl) ?_
            refine fk_callV (As := [.int (nI t)]) (rest := []) ⟨hx, hb, hml, hown, hts⟩ (kc_stateOf l D ad cI cT cJ _ S t ht) (cwV 1 hts gL_whole_X2_stateOf rfl rfl rfl (by decide +kernel) ⟨Nat.le_of_ble_eq_true rfl, Nat.le_of_ble_eq_true rfl⟩) (fk_rvK hK hP) hK hP hD hS hA rfl hl.1 rfl (Nat.le_of_ble_eq_true rfl) dL_whole_197 ⟨Nat.le_of_ble_eq_true rfl, Nat.le_of_ble_eq_true rfl⟩ (fun H locs hP hD hS => ?_)
            refine W.eq (g2 := F0 m 200 ls [.int (S 1 t)]) rfl ?_
            refine W.eq (g2 := F0 m 200 ls [.int 1]) (by rw [show (S 1 t) = (1 : Int32) from hs]) ?_
            refine lv_iconst (v := 1) hx hb dL_whole_200 (by decide) ?_
            refine lv_icmp_eq (tgt := 214) hx hb dL_whole_201 (by decide) (fun _ => ?_) (fun c => absurd c (by decide))
            refine lv_iconst (v := 1) hx hb dL_whole_214 (by decide) ?_
            refine lv_goto (tgt := 219) hx hb dL_whole_215 (by decide) ?_
            refine lv_istore (lv' := [(6, .int 1), (5, .int (nI t)), (4, .int 1), (3, .int (nI w)), (2, .int (nI x)), (0, .ref (ad 0)), (1, .ref q)]) hx hb dL_whole_219 hl (by decide) rfl (fun ls hl => ?_)
            refine lv_iload_n hx hb dL_whole_221 rfl (lv_at hl 3 rfl) ?_
            refine lv_iload hx hb dL_whole_222 (lv_at hl 0 rfl) ?_
            refine lv_if_eq (tgt := 231) hx hb dL_whole_224 (by decide) (fun c => absurd c (by decide)) (fun _ => ?_)
            refine lv_iconst (v := 1) hx hb dL_whole_227 (by decide) ?_
            refine lv_goto (tgt := 232) hx hb dL_whole_228 (by decide) ?_
            refine lv_iadd hx hb dL_whole_232 ?_
            refine W.eq (g2 := F0 m 233 ls [.int (nI (w + 1))]) (by rw [nI_1]) ?_
            refine lv_istore_n (lv' := [(3, .int (nI (w + 1))), (6, .int 1), (5, .int (nI t)), (4, .int 1), (2, .int (nI x)), (0, .ref (ad 0)), (1, .ref q)]) hx hb dL_whole_233 rfl hl (by decide) rfl (fun ls hl => ?_)
            have jn310 : ∀ (z9 : Int32), z9 = 1 → ∀ (H : Heap) (locs : List Loc) (ls : Array Slot), va_P D vwCl (fk_kW ad cI cT S ++ (q, fk_pr cI P) :: X) H → va_D A (fk_kW ad cI cT S ++ (q, fk_pr cI P) :: X) → va_S A s.heap H locs → lv_has ls 11 [(3, .int (nI (w + 1))), (6, .int 1), (5, .int (nI t)), (4, .int 1), (2, .int (nI x)), (0, .ref (ad 0)), (1, .ref q)] → W p l e rmL_whole s m ([.ref (ad 0), .ref q] : List Value).toArray below meth c H locs 0 0 (fk_Q below D (fk_ty cI cT cJ) [.ref (ad 0), .ref q] s A (fk_kW ad cI cT S ++ (q, fk_pr cI P) :: X) (some (.int 1))) (F0 m 310 ls [.int z9]) := by
              intro z9 h_z9 H locs ls hP hD hS hl
              refine lv_istore (lv' := [(4, .int z9), (3, .int (nI (w + 1))), (6, .int 1), (5, .int (nI t)), (2, .int (nI x)), (0, .ref (ad 0)), (1, .ref q)]) hx hb dL_whole_310 hl (by decide) rfl (fun ls hl => ?_)
              have hl : lv_has ls 11 [(4, .int 1), (3, .int (nI (w + 1))), (6, .int 1), (5, .int (nI t)), (2, .int (nI x)), (0, .ref (ad 0)), (1, .ref q)] := by rw [h_z9] at hl; exact hl
              refine lv_iconst (v := 0) hx hb dL_whole_312 (by decide) ?_
              refine lv_istore (lv' := [(7, .int 0), (4, .int 1), (3, .int (nI (w + 1))), (6, .int 1), (5, .int (nI t)), (2, .int (nI x)), (0, .ref (ad 0)), (1, .ref q)]) hx hb dL_whole_313 hl (by decide) rfl (fun ls hl => ?_)
              have loopU : ∀ (n2 : Nat) (u : Nat), u + n2 = t → ∀ (H : Heap) (locs : List Loc) (ls : Array Slot), va_P D vwCl (fk_kW ad cI cT S ++ (q, fk_pr cI P) :: X) H → va_D A (fk_kW ad cI cT S ++ (q, fk_pr cI P) :: X) → va_S A s.heap H locs → lv_has ls 11 [(7, .int (nI u)), (5, .int (nI t)), (4, .int 1), (3, .int (nI (w + 1))), (2, .int (nI x)), (0, .ref (ad 0)), (1, .ref q)] → W p l e rmL_whole s m ([.ref (ad 0), .ref q] : List Value).toArray below meth c H locs 0 0 (fk_Q below D (fk_ty cI cT cJ) [.ref (ad 0), .ref q] s A (fk_kW ad cI cT S ++ (q, fk_pr cI P) :: X) (some (.int 1))) (F0 m 315 ls []) := by
                intro n2
                induction n2 with
                | zero =>
                  intro u hu H locs ls hP hD hS hl
                  refine lv_iload hx hb dL_whole_315 (lv_at hl 0 rfl) ?_
                  refine lv_iload hx hb dL_whole_317 (lv_at hl 1 rfl) ?_
                  refine lv_icmp_ge (tgt := 364) hx hb dL_whole_319 (by decide) (fun c_39 => ?_) (fun c_39 => absurd (nI_le (a := t) (b := u) (by omega) (by omega)) c_39)
                  refine lv_iinc (v := (nI (t + 1))) (lv' := [(5, .int (nI (t + 1))), (7, .int (nI u)), (4, .int 1), (3, .int (nI (w + 1))), (2, .int (nI x)), (0, .ref (ad 0)), (1, .ref q)]) hx hb dL_whole_364 hl (k := 1) rfl (nI_1 t) (by decide) rfl (fun ls hl => ?_)
                  refine lv_goto (tgt := 182) hx hb dL_whole_367 (by decide) ?_
                  exact ih1 (t + 1) (w + 1) (by omega) (by rw [hw9]; simp only [pl_wn]; rw [if_pos ((hG.1.T (by omega)).isq.mpr (Or.inl hs))]) _ _ _ hP hD hS (lv_sub hl [0, 2, 3, 4, 5, 6] rfl)
                | succ n2 ih2 =>
                  intro u hu H locs ls hP hD hS hl
                  refine lv_iload hx hb dL_whole_315 (lv_at hl 0 rfl) ?_
                  refine lv_iload hx hb dL_whole_317 (lv_at hl 1 rfl) ?_
                  refine lv_icmp_ge (tgt := 364) hx hb dL_whole_319 (by decide) (fun c_40 => absurd c_40 (nI_ge (a := u) (b := t) (by omega) (by omega))) (fun c_40 => ?_)
                  refine lv_iload hx hb dL_whole_322 (lv_at hl 2 rfl) ?_
                  refine lv_if_eq (tgt := 364) hx hb dL_whole_324 (by decide) (fun c => absurd c (by decide)) (fun _ => ?_)
                  refine lv_aload_n hx hb dL_whole_327 rfl (lv_at hl 5 rfl) ?_
                  refine lv_iload hx hb dL_whole_328 (lv_at hl 1 rfl) ?_
                  refine fk_callV (As := [.int (nI t)]) (rest := []) ⟨hx, hb, hml, hown, hts⟩ (kc_serialOf l D ad cI cT cJ _ S t ht) (cwV 1 hts gL_whole_X2_serialOf rfl rfl rfl (by decide +kernel) ⟨Nat.le_of_ble_eq_true rfl, Nat.le_of_ble_eq_true rfl⟩) (fk_rvK hK hP) hK hP hD hS hA rfl hl.1 rfl (Nat.le_of_ble_eq_true rfl) dL_whole_330 ⟨Nat.le_of_ble_eq_true rfl, Nat.le_of_ble_eq_true rfl⟩ (fun H locs hP hD hS => ?_)
                  refine W.eq (g2 := F0 m 333 ls [.int (S 9 t)]) rfl ?_
                  refine lv_if_eq (tgt := 351) hx hb dL_whole_333 (by decide) (fun c_42 => ?_) (fun c_42 => ?_)
                  · refine lv_iconst (v := 1) hx hb dL_whole_351 (by decide) ?_
                    refine lv_goto (tgt := 356) hx hb dL_whole_352 (by decide) ?_
                    refine lv_istore (lv' := [(4, .int 1), (7, .int (nI u)), (5, .int (nI t)), (3, .int (nI (w + 1))), (2, .int (nI x)), (0, .ref (ad 0)), (1, .ref q)]) hx hb dL_whole_356 hl (by decide) rfl (fun ls hl => ?_)
                    refine lv_iinc (v := (nI (u + 1))) (lv' := [(7, .int (nI (u + 1))), (4, .int 1), (5, .int (nI t)), (3, .int (nI (w + 1))), (2, .int (nI x)), (0, .ref (ad 0)), (1, .ref q)]) hx hb dL_whole_358 hl (k := 1) rfl (nI_1 u) (by decide) rfl (fun ls hl => ?_)
                    refine lv_goto (tgt := 315) hx hb dL_whole_361 (by decide) ?_
                    exact ih2 (u + 1) (by omega) _ _ _ hP hD hS (lv_sub hl [0, 2, 1, 3, 4, 5, 6] rfl)
                  · refine lv_aload_n hx hb dL_whole_336 rfl (lv_at hl 5 rfl) ?_
                    refine lv_iload hx hb dL_whole_337 (lv_at hl 0 rfl) ?_
                    refine fk_callV (As := [.int (nI u)]) (rest := []) ⟨hx, hb, hml, hown, hts⟩ (kc_serialOf l D ad cI cT cJ _ S u (by omega)) (cwV 1 hts gL_whole_X2_serialOf rfl rfl rfl (by decide +kernel) ⟨Nat.le_of_ble_eq_true rfl, Nat.le_of_ble_eq_true rfl⟩) (fk_rvK hK hP) hK hP hD hS hA rfl hl.1 rfl (Nat.le_of_ble_eq_true rfl) dL_whole_339 ⟨Nat.le_of_ble_eq_true rfl, Nat.le_of_ble_eq_true rfl⟩ (fun H locs hP hD hS => ?_)
                    refine W.eq (g2 := F0 m 342 ls [.int (S 9 u)]) rfl ?_
                    refine lv_aload_n hx hb dL_whole_342 rfl (lv_at hl 5 rfl) ?_
                    refine lv_iload hx hb dL_whole_343 (lv_at hl 1 rfl) ?_
                    refine fk_callV (As := [.int (nI t)]) (rest := [.int (S 9 u)]) ⟨hx, hb, hml, hown, hts⟩ (kc_serialOf l D ad cI cT cJ _ S t ht) (cwV 1 hts gL_whole_X2_serialOf rfl rfl rfl (by decide +kernel) ⟨Nat.le_of_ble_eq_true rfl, Nat.le_of_ble_eq_true rfl⟩) (fk_rvK hK hP) hK hP hD hS hA rfl hl.1 rfl (Nat.le_of_ble_eq_true rfl) dL_whole_345 ⟨Nat.le_of_ble_eq_true rfl, Nat.le_of_ble_eq_true rfl⟩ (fun H locs hP hD hS => ?_)
                    refine W.eq (g2 := F0 m 348 ls [.int (S 9 t), .int (S 9 u)]) rfl ?_
                    refine lv_icmp_eq (tgt := 355) hx hb dL_whole_348 (by decide) (fun c_43 => absurd c_43 (fun c9 => (hG.1.ser2 (show u < 8 by omega) ht c9).elim (fun z => absurd z (by omega)) (fun z => c_42 (c9.symm.trans z)))) (fun c_43 => ?_)
                    refine lv_iconst (v := 1) hx hb dL_whole_351 (by decide) ?_
                    refine lv_goto (tgt := 356) hx hb dL_whole_352 (by decide) ?_
                    refine lv_istore (lv' := [(4, .int 1), (7, .int (nI u)), (5, .int (nI t)), (3, .int (nI (w + 1))), (2, .int (nI x)), (0, .ref (ad 0)), (1, .ref q)]) hx hb dL_whole_356 hl (by decide) rfl (fun ls hl => ?_)
                    refine lv_iinc (v := (nI (u + 1))) (lv' := [(7, .int (nI (u + 1))), (4, .int 1), (5, .int (nI t)), (3, .int (nI (w + 1))), (2, .int (nI x)), (0, .ref (ad 0)), (1, .ref q)]) hx hb dL_whole_358 hl (k := 1) rfl (nI_1 u) (by decide) rfl (fun ls hl => ?_)
                    refine lv_goto (tgt := 315) hx hb dL_whole_361 (by decide) ?_
                    exact ih2 (u + 1) (by omega) _ _ _ hP hD hS (lv_sub hl [0, 2, 1, 3, 4, 5, 6] rfl)
              exact loopU t 0 (by omega) _ _ _ hP hD hS (lv_sub hl [0, 4, 1, 2, 5, 6, 7] rfl)
            by_cases hr8 : S 8 t = -1
            · refine lv_iload hx hb dL_whole_234 (lv_at hl 1 rfl) ?_
              refine lv_aload_n hx hb dL_whole_236 rfl (lv_at hl 5 rfl) ?_
              refine lv_iload hx hb dL_whole_237 (lv_at hl 2 rfl) ?_
              refine fk_callV (As := [.int (nI t)]) (rest := [.int 1]) ⟨hx, hb, hml, hown, hts⟩ (kc_addressOf l D ad cI cT cJ _ S t ht) (cwV 1 hts gL_whole_X2_addressOf rfl rfl rfl (by decide +kernel) ⟨Nat.le_of_ble_eq_true rfl, Nat.le_of_ble_eq_true rfl⟩) (fk_rvK hK hP) hK hP hD hS hA rfl hl.1 rfl (Nat.le_of_ble_eq_true rfl) dL_whole_239 ⟨Nat.le_of_ble_eq_true rfl, Nat.le_of_ble_eq_true rfl⟩ (fun H locs hP hD hS => ?_)
              refine W.eq (g2 := F0 m 242 ls [.int (S 3 t), .int 1]) rfl ?_
              refine W.eq (g2 := F0 m 242 ls [.int (nI a), .int 1]) (by rw [show (S 3 t) = (nI a) from e3]) ?_
              refine lv_iconst (v := (-1)) hx hb dL_whole_242 (by decide) ?_
              refine lv_icmp_eq (tgt := 250) hx hb dL_whole_243 (by decide) (fun c => absurd c (fk_nI_m1 (by omega))) (fun _ => ?_)
              refine lv_iconst (v := 1) hx hb dL_whole_246 (by decide) ?_
              refine lv_goto (tgt := 251) hx hb dL_whole_247 (by decide) ?_
              refine lv_icmp_ne (tgt := 309) hx hb dL_whole_251 (by decide) (fun c => absurd c (by decide)) (fun _ => ?_)
              refine lv_aload_n hx hb dL_whole_254 rfl (lv_at hl 5 rfl) ?_
              refine lv_iload hx hb dL_whole_255 (lv_at hl 2 rfl) ?_
              refine fk_callV (As := [.int (nI t)]) (rest := []) ⟨hx, hb, hml, hown, hts⟩ (kc_resultOf l D ad cI cT cJ _ S t ht) (cwV 1 hts gL_whole_X2_resultOf rfl rfl rfl (by decide +kernel) ⟨Nat.le_of_ble_eq_true rfl, Nat.le_of_ble_eq_true rfl⟩) (fk_rvK hK hP) hK hP hD hS hA rfl hl.1 rfl (Nat.le_of_ble_eq_true rfl) dL_whole_257 ⟨Nat.le_of_ble_eq_true rfl, Nat.le_of_ble_eq_true rfl⟩ (fun H locs hP hD hS => ?_)
              refine W.eq (g2 := F0 m 260 ls [.int (S 8 t)]) rfl ?_
              refine W.eq (g2 := F0 m 260 ls [.int (-1)]) (by rw [show (S 8 t) = ((-1) : Int32) from hr8]) ?_
              refine lv_iconst (v := (-1)) hx hb dL_whole_260 (by decide) ?_
              refine lv_icmp_ne (tgt := 268) hx hb dL_whole_261 (by decide) (fun c => absurd c (by decide)) (fun _ => ?_)
              refine lv_iconst (v := 1) hx hb dL_whole_264 (by decide) ?_
              refine lv_goto (tgt := 269) hx hb dL_whole_265 (by decide) ?_
              refine lv_aload_n hx hb dL_whole_269 rfl (lv_at hl 5 rfl) ?_
              refine lv_iload hx hb dL_whole_270 (lv_at hl 2 rfl) ?_
              refine fk_callV (As := [.int (nI t)]) (rest := [.int 1]) ⟨hx, hb, hml, hown, hts⟩ (kc_serialOf l D ad cI cT cJ _ S t ht) (cwV 1 hts gL_whole_X2_serialOf rfl rfl rfl (by decide +kernel) ⟨Nat.le_of_ble_eq_true rfl, Nat.le_of_ble_eq_true rfl⟩) (fk_rvK hK hP) hK hP hD hS hA rfl hl.1 rfl (Nat.le_of_ble_eq_true rfl) dL_whole_272 ⟨Nat.le_of_ble_eq_true rfl, Nat.le_of_ble_eq_true rfl⟩ (fun H locs hP hD hS => ?_)
              refine W.eq (g2 := F0 m 275 ls [.int (S 9 t), .int 1]) rfl ?_
              refine W.eq (g2 := F0 m 275 ls [.int 0, .int 1]) (by rw [show (S 9 t) = (0 : Int32) from ((hG.1.T ht).2.2.mp hr8)]) ?_
              refine lv_if_ne (tgt := 282) hx hb dL_whole_275 (by decide) (fun c => absurd c (by decide)) (fun _ => ?_)
              refine lv_iconst (v := 1) hx hb dL_whole_278 (by decide) ?_
              refine lv_goto (tgt := 283) hx hb dL_whole_279 (by decide) ?_
              refine lv_icmp_ne (tgt := 309) hx hb dL_whole_283 (by decide) (fun c => absurd c (by decide)) (fun _ => ?_)
              refine lv_aload_n hx hb dL_whole_286 rfl (lv_at hl 5 rfl) ?_
              refine lv_iload hx hb dL_whole_287 (lv_at hl 2 rfl) ?_
              refine fk_callV (As := [.int (nI t)]) (rest := []) ⟨hx, hb, hml, hown, hts⟩ (kc_stateOf l D ad cI cT cJ _ S t ht) (cwV 1 hts gL_whole_X2_stateOf rfl rfl rfl (by decide +kernel) ⟨Nat.le_of_ble_eq_true rfl, Nat.le_of_ble_eq_true rfl⟩) (fk_rvK hK hP) hK hP hD hS hA rfl hl.1 rfl (Nat.le_of_ble_eq_true rfl) dL_whole_289 ⟨Nat.le_of_ble_eq_true rfl, Nat.le_of_ble_eq_true rfl⟩ (fun H locs hP hD hS => ?_)
              refine W.eq (g2 := F0 m 292 ls [.int (S 1 t)]) rfl ?_
              refine W.eq (g2 := F0 m 292 ls [.int 1]) (by rw [show (S 1 t) = (1 : Int32) from hs]) ?_
              refine lv_iconst (v := 3) hx hb dL_whole_292 (by decide) ?_
              refine lv_icmp_ne (tgt := 305) hx hb dL_whole_293 (by decide) (fun _ => ?_) (fun c => absurd c (by decide))
              refine lv_iconst (v := 1) hx hb dL_whole_305 (by decide) ?_
              refine lv_goto (tgt := 310) hx hb dL_whole_306 (by decide) ?_
              exact jn310 1 rfl _ _ _ hP hD hS hl
            · refine lv_iload hx hb dL_whole_234 (lv_at hl 1 rfl) ?_
              refine lv_aload_n hx hb dL_whole_236 rfl (lv_at hl 5 rfl) ?_
              refine lv_iload hx hb dL_whole_237 (lv_at hl 2 rfl) ?_
              refine fk_callV (As := [.int (nI t)]) (rest := [.int 1]) ⟨hx, hb, hml, hown, hts⟩ (kc_addressOf l D ad cI cT cJ _ S t ht) (cwV 1 hts gL_whole_X2_addressOf rfl rfl rfl (by decide +kernel) ⟨Nat.le_of_ble_eq_true rfl, Nat.le_of_ble_eq_true rfl⟩) (fk_rvK hK hP) hK hP hD hS hA rfl hl.1 rfl (Nat.le_of_ble_eq_true rfl) dL_whole_239 ⟨Nat.le_of_ble_eq_true rfl, Nat.le_of_ble_eq_true rfl⟩ (fun H locs hP hD hS => ?_)
              refine W.eq (g2 := F0 m 242 ls [.int (S 3 t), .int 1]) rfl ?_
              refine W.eq (g2 := F0 m 242 ls [.int (nI a), .int 1]) (by rw [show (S 3 t) = (nI a) from e3]) ?_
              refine lv_iconst (v := (-1)) hx hb dL_whole_242 (by decide) ?_
              refine lv_icmp_eq (tgt := 250) hx hb dL_whole_243 (by decide) (fun c => absurd c (fk_nI_m1 (by omega))) (fun _ => ?_)
              refine lv_iconst (v := 1) hx hb dL_whole_246 (by decide) ?_
              refine lv_goto (tgt := 251) hx hb dL_whole_247 (by decide) ?_
              refine lv_icmp_ne (tgt := 309) hx hb dL_whole_251 (by decide) (fun c => absurd c (by decide)) (fun _ => ?_)
              refine lv_aload_n hx hb dL_whole_254 rfl (lv_at hl 5 rfl) ?_
              refine lv_iload hx hb dL_whole_255 (lv_at hl 2 rfl) ?_
              refine fk_callV (As := [.int (nI t)]) (rest := []) ⟨hx, hb, hml, hown, hts⟩ (kc_resultOf l D ad cI cT cJ _ S t ht) (cwV 1 hts gL_whole_X2_resultOf rfl rfl rfl (by decide +kernel) ⟨Nat.le_of_ble_eq_true rfl, Nat.le_of_ble_eq_true rfl⟩) (fk_rvK hK hP) hK hP hD hS hA rfl hl.1 rfl (Nat.le_of_ble_eq_true rfl) dL_whole_257 ⟨Nat.le_of_ble_eq_true rfl, Nat.le_of_ble_eq_true rfl⟩ (fun H locs hP hD hS => ?_)
              refine W.eq (g2 := F0 m 260 ls [.int (S 8 t)]) rfl ?_
              refine lv_iconst (v := (-1)) hx hb dL_whole_260 (by decide) ?_
              refine lv_icmp_ne (tgt := 268) hx hb dL_whole_261 (by decide) (fun c_50 => ?_) (fun c9 => absurd c9 hr8)
              refine lv_iconst (v := 0) hx hb dL_whole_268 (by decide) ?_
              refine lv_aload_n hx hb dL_whole_269 rfl (lv_at hl 5 rfl) ?_
              refine lv_iload hx hb dL_whole_270 (lv_at hl 2 rfl) ?_
              refine fk_callV (As := [.int (nI t)]) (rest := [.int 0]) ⟨hx, hb, hml, hown, hts⟩ (kc_serialOf l D ad cI cT cJ _ S t ht) (cwV 1 hts gL_whole_X2_serialOf rfl rfl rfl (by decide +kernel) ⟨Nat.le_of_ble_eq_true rfl, Nat.le_of_ble_eq_true rfl⟩) (fk_rvK hK hP) hK hP hD hS hA rfl hl.1 rfl (Nat.le_of_ble_eq_true rfl) dL_whole_272 ⟨Nat.le_of_ble_eq_true rfl, Nat.le_of_ble_eq_true rfl⟩ (fun H locs hP hD hS => ?_)
              refine W.eq (g2 := F0 m 275 ls [.int (S 9 t), .int 0]) rfl ?_
              refine lv_if_ne (tgt := 282) hx hb dL_whole_275 (by decide) (fun c_51 => ?_) (fun c9 => absurd ((hG.1.T ht).2.2.mpr c9) hr8)
              refine lv_iconst (v := 0) hx hb dL_whole_282 (by decide) ?_
              refine lv_icmp_ne (tgt := 309) hx hb dL_whole_283 (by decide) (fun c => absurd c (by decide)) (fun _ => ?_)
              refine lv_aload_n hx hb dL_whole_286 rfl (lv_at hl 5 rfl) ?_
              refine lv_iload hx hb dL_whole_287 (lv_at hl 2 rfl) ?_
              refine fk_callV (As := [.int (nI t)]) (rest := []) ⟨hx, hb, hml, hown, hts⟩ (kc_stateOf l D ad cI cT cJ _ S t ht) (cwV 1 hts gL_whole_X2_stateOf rfl rfl rfl (by decide +kernel) ⟨Nat.le_of_ble_eq_true rfl, Nat.le_of_ble_eq_true rfl⟩) (fk_rvK hK hP) hK hP hD hS hA rfl hl.1 rfl (Nat.le_of_ble_eq_true rfl) dL_whole_289 ⟨Nat.le_of_ble_eq_true rfl, Nat.le_of_ble_eq_true rfl⟩ (fun H locs hP hD hS => ?_)
              refine W.eq (g2 := F0 m 292 ls [.int (S 1 t)]) rfl ?_
              refine W.eq (g2 := F0 m 292 ls [.int 1]) (by rw [show (S 1 t) = (1 : Int32) from hs]) ?_
              refine lv_iconst (v := 3) hx hb dL_whole_292 (by decide) ?_
              refine lv_icmp_ne (tgt := 305) hx hb dL_whole_293 (by decide) (fun _ => ?_) (fun c => absurd c (by decide))
              refine lv_iconst (v := 1) hx hb dL_whole_305 (by decide) ?_
              refine lv_goto (tgt := 310) hx hb dL_whole_306 (by decide) ?_
              exact jn310 1 rfl _ _ _ hP hD hS hl
          · obtain ⟨a, ha, e3⟩ := (hG.1.T ht).q (Or.inr hs)
            refine lv_aload_n hx hb dL_whole_194 rfl (lv_at hl 4 rfl) ?_
            refine lv_iload hx hb dL_whole_195 (lv_at hl 0 rfl) ?_
            refine fk_callV (As := [.int (nI t)]) (rest := []) ⟨hx, hb, hml, hown, hts⟩ (kc_stateOf l D ad cI cT cJ _ S t ht) (cwV 1 hts gL_whole_X2_stateOf rfl rfl rfl (by decide +kernel) ⟨Nat.le_of_ble_eq_true rfl, Nat.le_of_ble_eq_true rfl⟩) (fk_rvK hK hP) hK hP hD hS hA rfl hl.1 rfl (Nat.le_of_ble_eq_true rfl) dL_whole_197 ⟨Nat.le_of_ble_eq_true rfl, Nat.le_of_ble_eq_true rfl⟩ (fun H locs hP hD hS => ?_)
            refine W.eq (g2 := F0 m 200 ls [.int (S 1 t)]) rfl ?_
            refine W.eq (g2 := F0 m 200 ls [.int 2]) (by rw [show (S 1 t) = (2 : Int32) from hs]) ?_
            refine lv_iconst (v := 1) hx hb dL_whole_200 (by decide) ?_
            refine lv_icmp_eq (tgt := 214) hx hb dL_whole_201 (by decide) (fun c => absurd c (by decide)) (fun _ => ?_)
            refine lv_aload_n hx hb dL_whole_204 rfl (lv_at hl 4 rfl) ?_
            refine lv_iload hx hb dL_whole_205 (lv_at hl 0 rfl) ?_
            refine fk_callV (As := [.int (nI t)]) (rest := []) ⟨hx, hb, hml, hown, hts⟩ (kc_stateOf l D ad cI cT cJ _ S t ht) (cwV 1 hts gL_whole_X2_stateOf rfl rfl rfl (by decide +kernel) ⟨Nat.le_of_ble_eq_true rfl, Nat.le_of_ble_eq_true rfl⟩) (fk_rvK hK hP) hK hP hD hS hA rfl hl.1 rfl (Nat.le_of_ble_eq_true rfl) dL_whole_207 ⟨Nat.le_of_ble_eq_true rfl, Nat.le_of_ble_eq_true rfl⟩ (fun H locs hP hD hS => ?_)
            refine W.eq (g2 := F0 m 210 ls [.int (S 1 t)]) rfl ?_
            refine W.eq (g2 := F0 m 210 ls [.int 2]) (by rw [show (S 1 t) = (2 : Int32) from hs]) ?_
            refine lv_iconst (v := 2) hx hb dL_whole_210 (by decide) ?_
            refine lv_icmp_ne (tgt := 218) hx hb dL_whole_211 (by decide) (fun c => absurd c (by decide)) (fun _ => ?_)
            refine lv_iconst (v := 1) hx hb dL_whole_214 (by decide) ?_
            refine lv_goto (tgt := 219) hx hb dL_whole_215 (by decide) ?_
            refine lv_istore (lv' := [(6, .int 1), (5, .int (nI t)), (4, .int 1), (3, .int (nI w)), (2, .int (nI x)), (0, .ref (ad 0)), (1, .ref q)]) hx hb dL_whole_219 hl (by decide) rfl (fun ls hl => ?_)
            refine lv_iload_n hx hb dL_whole_221 rfl (lv_at hl 3 rfl) ?_
            refine lv_iload hx hb dL_whole_222 (lv_at hl 0 rfl) ?_
            refine lv_if_eq (tgt := 231) hx hb dL_whole_224 (by decide) (fun c => absurd c (by decide)) (fun _ => ?_)
            refine lv_iconst (v := 1) hx hb dL_whole_227 (by decide) ?_
            refine lv_goto (tgt := 232) hx hb dL_whole_228 (by decide) ?_
            refine lv_iadd hx hb dL_whole_232 ?_
            refine W.eq (g2 := F0 m 233 ls [.int (nI (w + 1))]) (by rw [nI_1]) ?_
            refine lv_istore_n (lv' := [(3, .int (nI (w + 1))), (6, .int 1), (5, .int (nI t)), (4, .int 1), (2, .int (nI x)), (0, .ref (ad 0)), (1, .ref q)]) hx hb dL_whole_233 rfl hl (by decide) rfl (fun ls hl => ?_)
            have jn310 : ∀ (z9 : Int32), z9 = 1 → ∀ (H : Heap) (locs : List Loc) (ls : Array Slot), va_P D vwCl (fk_kW ad cI cT S ++ (q, fk_pr cI P) :: X) H → va_D A (fk_kW ad cI cT S ++ (q, fk_pr cI P) :: X) → va_S A s.heap H locs → lv_has ls 11 [(3, .int (nI (w + 1))), (6, .int 1), (5, .int (nI t)), (4, .int 1), (2, .int (nI x)), (0, .ref (ad 0)), (1, .ref q)] → W p l e rmL_whole s m ([.ref (ad 0), .ref q] : List Value).toArray below meth c H locs 0 0 (fk_Q below D (fk_ty cI cT cJ) [.ref (ad 0), .ref q] s A (fk_kW ad cI cT S ++ (q, fk_pr cI P) :: X) (some (.int 1))) (F0 m 310 ls [.int z9]) := by
              intro z9 h_z9 H locs ls hP hD hS hl
              refine lv_istore (lv' := [(4, .int z9), (3, .int (nI (w + 1))), (6, .int 1), (5, .int (nI t)), (2, .int (nI x)), (0, .ref (ad 0)), (1, .ref q)]) hx hb dL_whole_310 hl (by decide) rfl (fun ls hl => ?_)
              have hl : lv_has ls 11 [(4, .int 1), (3, .int (nI (w + 1))), (6, .int 1), (5, .int (nI t)), (2, .int (nI x)), (0, .ref (ad 0)), (1, .ref q)] := by rw [h_z9] at hl; exact hl
              refine lv_iconst (v := 0) hx hb dL_whole_312 (by decide) ?_
              refine lv_istore (lv' := [(7, .int 0), (4, .int 1), (3, .int (nI (w + 1))), (6, .int 1), (5, .int (nI t)), (2, .int (nI x)), (0, .ref (ad 0)), (1, .ref q)]) hx hb dL_whole_313 hl (by decide) rfl (fun ls hl => ?_)
              have loopU : ∀ (n2 : Nat) (u : Nat), u + n2 = t → ∀ (H : Heap) (locs : List Loc) (ls : Array Slot), va_P D vwCl (fk_kW ad cI cT S ++ (q, fk_pr cI P) :: X) H → va_D A (fk_kW ad cI cT S ++ (q, fk_pr cI P) :: X) → va_S A s.heap H locs → lv_has ls 11 [(7, .int (nI u)), (5, .int (nI t)), (4, .int 1), (3, .int (nI (w + 1))), (2, .int (nI x)), (0, .ref (ad 0)), (1, .ref q)] → W p l e rmL_whole s m ([.ref (ad 0), .ref q] : List Value).toArray below meth c H locs 0 0 (fk_Q below D (fk_ty cI cT cJ) [.ref (ad 0), .ref q] s A (fk_kW ad cI cT S ++ (q, fk_pr cI P) :: X) (some (.int 1))) (F0 m 315 ls []) := by
                intro n2
                induction n2 with
                | zero =>
                  intro u hu H locs ls hP hD hS hl
                  refine lv_iload hx hb dL_whole_315 (lv_at hl 0 rfl) ?_
                  refine lv_iload hx hb dL_whole_317 (lv_at hl 1 rfl) ?_
                  refine lv_icmp_ge (tgt := 364) hx hb dL_whole_319 (by decide) (fun c_57 => ?_) (fun c_57 => absurd (nI_le (a := t) (b := u) (by omega) (by omega)) c_57)
                  refine lv_iinc (v := (nI (t + 1))) (lv' := [(5, .int (nI (t + 1))), (7, .int (nI u)), (4, .int 1), (3, .int (nI (w + 1))), (2, .int (nI x)), (0, .ref (ad 0)), (1, .ref q)]) hx hb dL_whole_364 hl (k := 1) rfl (nI_1 t) (by decide) rfl (fun ls hl => ?_)
                  refine lv_goto (tgt := 182) hx hb dL_whole_367 (by decide) ?_
                  exact ih1 (t + 1) (w + 1) (by omega) (by rw [hw9]; simp only [pl_wn]; rw [if_pos ((hG.1.T (by omega)).isq.mpr (Or.inr hs))]) _ _ _ hP hD hS (lv_sub hl [0, 2, 3, 4, 5, 6] rfl)
                | succ n2 ih2 =>
                  intro u hu H locs ls hP hD hS hl
                  refine lv_iload hx hb dL_whole_315 (lv_at hl 0 rfl) ?_
                  refine lv_iload hx hb dL_whole_317 (lv_at hl 1 rfl) ?_
                  refine lv_icmp_ge (tgt := 364) hx hb dL_whole_319 (by decide) (fun c_58 => absurd c_58 (nI_ge (a := u) (b := t) (by omega) (by omega))) (fun c_58 => ?_)
                  refine lv_iload hx hb dL_whole_322 (lv_at hl 2 rfl) ?_
                  refine lv_if_eq (tgt := 364) hx hb dL_whole_324 (by decide) (fun c => absurd c (by decide)) (fun _ => ?_)
                  refine lv_aload_n hx hb dL_whole_327 rfl (lv_at hl 5 rfl) ?_
                  refine lv_iload hx hb dL_whole_328 (lv_at hl 1 rfl) ?_
                  refine fk_callV (As := [.int (nI t)]) (rest := []) ⟨hx, hb, hml, hown, hts⟩ (kc_serialOf l D ad cI cT cJ _ S t ht) (cwV 1 hts gL_whole_X2_serialOf rfl rfl rfl (by decide +kernel) ⟨Nat.le_of_ble_eq_true rfl, Nat.le_of_ble_eq_true rfl⟩) (fk_rvK hK hP) hK hP hD hS hA rfl hl.1 rfl (Nat.le_of_ble_eq_true rfl) dL_whole_330 ⟨Nat.le_of_ble_eq_true rfl, Nat.le_of_ble_eq_true rfl⟩ (fun H locs hP hD hS => ?_)
                  refine W.eq (g2 := F0 m 333 ls [.int (S 9 t)]) rfl ?_
                  refine lv_if_eq (tgt := 351) hx hb dL_whole_333 (by decide) (fun c_60 => ?_) (fun c_60 => ?_)
                  · refine lv_iconst (v := 1) hx hb dL_whole_351 (by decide) ?_
                    refine lv_goto (tgt := 356) hx hb dL_whole_352 (by decide) ?_
                    refine lv_istore (lv' := [(4, .int 1), (7, .int (nI u)), (5, .int (nI t)), (3, .int (nI (w + 1))), (2, .int (nI x)), (0, .ref (ad 0)), (1, .ref q)]) hx hb dL_whole_356 hl (by decide) rfl (fun ls hl => ?_)
                    refine lv_iinc (v := (nI (u + 1))) (lv' := [(7, .int (nI (u + 1))), (4, .int 1), (5, .int (nI t)), (3, .int (nI (w + 1))), (2, .int (nI x)), (0, .ref (ad 0)), (1, .ref q)]) hx hb dL_whole_358 hl (k := 1) rfl (nI_1 u) (by decide) rfl (fun ls hl => ?_)
                    refine lv_goto (tgt := 315) hx hb dL_whole_361 (by decide) ?_
                    exact ih2 (u + 1) (by omega) _ _ _ hP hD hS (lv_sub hl [0, 2, 1, 3, 4, 5, 6] rfl)
                  · refine lv_aload_n hx hb dL_whole_336 rfl (lv_at hl 5 rfl) ?_
                    refine lv_iload hx hb dL_whole_337 (lv_at hl 0 rfl) ?_
                    refine fk_callV (As := [.int (nI u)]) (rest := []) ⟨hx, hb, hml, hown, hts⟩ (kc_serialOf l D ad cI cT cJ _ S u (by omega)) (cwV 1 hts gL_whole_X2_serialOf rfl rfl rfl (by decide +kernel) ⟨Nat.le_of_ble_eq_true rfl, Nat.le_of_ble_eq_true rfl⟩) (fk_rvK hK hP) hK hP hD hS hA rfl hl.1 rfl (Nat.le_of_ble_eq_true rfl) dL_whole_339 ⟨Nat.le_of_ble_eq_true rfl, Nat.le_of_ble_eq_true rfl⟩ (fun H locs hP hD hS => ?_)
                    refine W.eq (g2 := F0 m 342 ls [.int (S 9 u)]) rfl ?_
                    refine lv_aload_n hx hb dL_whole_342 rfl (lv_at hl 5 rfl) ?_
                    refine lv_iload hx hb dL_whole_343 (lv_at hl 1 rfl) ?_
                    refine fk_callV (As := [.int (nI t)]) (rest := [.int (S 9 u)]) ⟨hx, hb, hml, hown, hts⟩ (kc_serialOf l D ad cI cT cJ _ S t ht) (cwV 1 hts gL_whole_X2_serialOf rfl rfl rfl (by decide +kernel) ⟨Nat.le_of_ble_eq_true rfl, Nat.le_of_ble_eq_true rfl⟩) (fk_rvK hK hP) hK hP hD hS hA rfl hl.1 rfl (Nat.le_of_ble_eq_true rfl) dL_whole_345 ⟨Nat.le_of_ble_eq_true rfl, Nat.le_of_ble_eq_true rfl⟩ (fun H locs hP hD hS => ?_)
                    refine W.eq (g2 := F0 m 348 ls [.int (S 9 t), .int (S 9 u)]) rfl ?_
                    refine lv_icmp_eq (tgt := 355) hx hb dL_whole_348 (by decide) (fun c_61 => absurd c_61 (fun c9 => (hG.1.ser2 (show u < 8 by omega) ht c9).elim (fun z => absurd z (by omega)) (fun z => c_60 (c9.symm.trans z)))) (fun c_61 => ?_)
                    refine lv_iconst (v := 1) hx hb dL_whole_351 (by decide) ?_
                    refine lv_goto (tgt := 356) hx hb dL_whole_352 (by decide) ?_
                    refine lv_istore (lv' := [(4, .int 1), (7, .int (nI u)), (5, .int (nI t)), (3, .int (nI (w + 1))), (2, .int (nI x)), (0, .ref (ad 0)), (1, .ref q)]) hx hb dL_whole_356 hl (by decide) rfl (fun ls hl => ?_)
                    refine lv_iinc (v := (nI (u + 1))) (lv' := [(7, .int (nI (u + 1))), (4, .int 1), (5, .int (nI t)), (3, .int (nI (w + 1))), (2, .int (nI x)), (0, .ref (ad 0)), (1, .ref q)]) hx hb dL_whole_358 hl (k := 1) rfl (nI_1 u) (by decide) rfl (fun ls hl => ?_)
                    refine lv_goto (tgt := 315) hx hb dL_whole_361 (by decide) ?_
                    exact ih2 (u + 1) (by omega) _ _ _ hP hD hS (lv_sub hl [0, 2, 1, 3, 4, 5, 6] rfl)
              exact loopU t 0 (by omega) _ _ _ hP hD hS (lv_sub hl [0, 4, 1, 2, 5, 6, 7] rfl)
            by_cases hr8 : S 8 t = -1
            · refine lv_iload hx hb dL_whole_234 (lv_at hl 1 rfl) ?_
              refine lv_aload_n hx hb dL_whole_236 rfl (lv_at hl 5 rfl) ?_
              refine lv_iload hx hb dL_whole_237 (lv_at hl 2 rfl) ?_
              refine fk_callV (As := [.int (nI t)]) (rest := [.int 1]) ⟨hx, hb, hml, hown, hts⟩ (kc_addressOf l D ad cI cT cJ _ S t ht) (cwV 1 hts gL_whole_X2_addressOf rfl rfl rfl (by decide +kernel) ⟨Nat.le_of_ble_eq_true rfl, Nat.le_of_ble_eq_true rfl⟩) (fk_rvK hK hP) hK hP hD hS hA rfl hl.1 rfl (Nat.le_of_ble_eq_true rfl) dL_whole_239 ⟨Nat.le_of_ble_eq_true rfl, Nat.le_of_ble_eq_true rfl⟩ (fun H locs hP hD hS => ?_)
              refine W.eq (g2 := F0 m 242 ls [.int (S 3 t), .int 1]) rfl ?_
              refine W.eq (g2 := F0 m 242 ls [.int (nI a), .int 1]) (by rw [show (S 3 t) = (nI a) from e3]) ?_
              refine lv_iconst (v := (-1)) hx hb dL_whole_242 (by decide) ?_
              refine lv_icmp_eq (tgt := 250) hx hb dL_whole_243 (by decide) (fun c => absurd c (fk_nI_m1 (by omega))) (fun _ => ?_)
              refine lv_iconst (v := 1) hx hb dL_whole_246 (by decide) ?_
              refine lv_goto (tgt := 251) hx hb dL_whole_247 (by decide) ?_
              refine lv_icmp_ne (tgt := 309) hx hb dL_whole_251 (by decide) (fun c => absurd c (by decide)) (fun _ => ?_)
              refine lv_aload_n hx hb dL_whole_254 rfl (lv_at hl 5 rfl) ?_
              refine lv_iload hx hb dL_whole_255 (lv_at hl 2 rfl) ?_
              refine fk_callV (As := [.int (nI t)]) (rest := []) ⟨hx, hb, hml, hown, hts⟩ (kc_resultOf l D ad cI cT cJ _ S t ht) (cwV 1 hts gL_whole_X2_resultOf rfl rfl rfl (by decide +kernel) ⟨Nat.le_of_ble_eq_true rfl, Nat.le_of_ble_eq_true rfl⟩) (fk_rvK hK hP) hK hP hD hS hA rfl hl.1 rfl (Nat.le_of_ble_eq_true rfl) dL_whole_257 ⟨Nat.le_of_ble_eq_true rfl, Nat.le_of_ble_eq_true rfl⟩ (fun H locs hP hD hS => ?_)
              refine W.eq (g2 := F0 m 260 ls [.int (S 8 t)]) rfl ?_
              refine W.eq (g2 := F0 m 260 ls [.int (-1)]) (by rw [show (S 8 t) = ((-1) : Int32) from hr8]) ?_
              refine lv_iconst (v := (-1)) hx hb dL_whole_260 (by decide) ?_
              refine lv_icmp_ne (tgt := 268) hx hb dL_whole_261 (by decide) (fun c => absurd c (by decide)) (fun _ => ?_)
              refine lv_iconst (v := 1) hx hb dL_whole_264 (by decide) ?_
              refine lv_goto (tgt := 269) hx hb dL_whole_265 (by decide) ?_
              refine lv_aload_n hx hb dL_whole_269 rfl (lv_at hl 5 rfl) ?_
              refine lv_iload hx hb dL_whole_270 (lv_at hl 2 rfl) ?_
              refine fk_callV (As := [.int (nI t)]) (rest := [.int 1]) ⟨hx, hb, hml, hown, hts⟩ (kc_serialOf l D ad cI cT cJ _ S t ht) (cwV 1 hts gL_whole_X2_serialOf rfl rfl rfl (by decide +kernel) ⟨Nat.le_of_ble_eq_true rfl, Nat.le_of_ble_eq_true rfl⟩) (fk_rvK hK hP) hK hP hD hS hA rfl hl.1 rfl (Nat.le_of_ble_eq_true rfl) dL_whole_272 ⟨Nat.le_of_ble_eq_true rfl, Nat.le_of_ble_eq_true rfl⟩ (fun H locs hP hD hS => ?_)
              refine W.eq (g2 := F0 m 275 ls [.int (S 9 t), .int 1]) rfl ?_
              refine W.eq (g2 := F0 m 275 ls [.int 0, .int 1]) (by rw [show (S 9 t) = (0 : Int32) from ((hG.1.T ht).2.2.mp hr8)]) ?_
              refine lv_if_ne (tgt := 282) hx hb dL_whole_275 (by decide) (fun c => absurd c (by decide)) (fun _ => ?_)
              refine lv_iconst (v := 1) hx hb dL_whole_278 (by decide) ?_
              refine lv_goto (tgt := 283) hx hb dL_whole_279 (by decide) ?_
              refine lv_icmp_ne (tgt := 309) hx hb dL_whole_283 (by decide) (fun c => absurd c (by decide)) (fun _ => ?_)
              refine lv_aload_n hx hb dL_whole_286 rfl (lv_at hl 5 rfl) ?_
              refine lv_iload hx hb dL_whole_287 (lv_at hl 2 rfl) ?_
              refine fk_callV (As := [.int (nI t)]) (rest := []) ⟨hx, hb, hml, hown, hts⟩ (kc_stateOf l D ad cI cT cJ _ S t ht) (cwV 1 hts gL_whole_X2_stateOf rfl rfl rfl (by decide +kernel) ⟨Nat.le_of_ble_eq_true rfl, Nat.le_of_ble_eq_true rfl⟩) (fk_rvK hK hP) hK hP hD hS hA rfl hl.1 rfl (Nat.le_of_ble_eq_true rfl) dL_whole_289 ⟨Nat.le_of_ble_eq_true rfl, Nat.le_of_ble_eq_true rfl⟩ (fun H locs hP hD hS => ?_)
              refine W.eq (g2 := F0 m 292 ls [.int (S 1 t)]) rfl ?_
              refine W.eq (g2 := F0 m 292 ls [.int 2]) (by rw [show (S 1 t) = (2 : Int32) from hs]) ?_
              refine lv_iconst (v := 3) hx hb dL_whole_292 (by decide) ?_
              refine lv_icmp_ne (tgt := 305) hx hb dL_whole_293 (by decide) (fun _ => ?_) (fun c => absurd c (by decide))
              refine lv_iconst (v := 1) hx hb dL_whole_305 (by decide) ?_
              refine lv_goto (tgt := 310) hx hb dL_whole_306 (by decide) ?_
              exact jn310 1 rfl _ _ _ hP hD hS hl
            · refine lv_iload hx hb dL_whole_234 (lv_at hl 1 rfl) ?_
              refine lv_aload_n hx hb dL_whole_236 rfl (lv_at hl 5 rfl) ?_
              refine lv_iload hx hb dL_whole_237 (lv_at hl 2 rfl) ?_
              refine fk_callV (As := [.int (nI t)]) (rest := [.int 1]) ⟨hx, hb, hml, hown, hts⟩ (kc_addressOf l D ad cI cT cJ _ S t ht) (cwV 1 hts gL_whole_X2_addressOf rfl rfl rfl (by decide +kernel) ⟨Nat.le_of_ble_eq_true rfl, Nat.le_of_ble_eq_true rfl⟩) (fk_rvK hK hP) hK hP hD hS hA rfl hl.1 rfl (Nat.le_of_ble_eq_true rfl) dL_whole_239 ⟨Nat.le_of_ble_eq_true rfl, Nat.le_of_ble_eq_true rfl⟩ (fun H locs hP hD hS => ?_)
              refine W.eq (g2 := F0 m 242 ls [.int (S 3 t), .int 1]) rfl ?_
              refine W.eq (g2 := F0 m 242 ls [.int (nI a), .int 1]) (by rw [show (S 3 t) = (nI a) from e3]) ?_
              refine lv_iconst (v := (-1)) hx hb dL_whole_242 (by decide) ?_
              refine lv_icmp_eq (tgt := 250) hx hb dL_whole_243 (by decide) (fun c => absurd c (fk_nI_m1 (by omega))) (fun _ => ?_)
              refine lv_iconst (v := 1) hx hb dL_whole_246 (by decide) ?_
              refine lv_goto (tgt := 251) hx hb dL_whole_247 (by decide) ?_
              refine lv_icmp_ne (tgt := 309) hx hb dL_whole_251 (by decide) (fun c => absurd c (by decide)) (fun _ => ?_)
              refine lv_aload_n hx hb dL_whole_254 rfl (lv_at hl 5 rfl) ?_
              refine lv_iload hx hb dL_whole_255 (lv_at hl 2 rfl) ?_
              refine fk_callV (As := [.int (nI t)]) (rest := []) ⟨hx, hb, hml, hown, hts⟩ (kc_resultOf l D ad cI cT cJ _ S t ht) (cwV 1 hts gL_whole_X2_resultOf rfl rfl rfl (by decide +kernel) ⟨Nat.le_of_ble_eq_true rfl, Nat.le_of_ble_eq_true rfl⟩) (fk_rvK hK hP) hK hP hD hS hA rfl hl.1 rfl (Nat.le_of_ble_eq_true rfl) dL_whole_257 ⟨Nat.le_of_ble_eq_true rfl, Nat.le_of_ble_eq_true rfl⟩ (fun H locs hP hD hS => ?_)
              refine W.eq (g2 := F0 m 260 ls [.int (S 8 t)]) rfl ?_
              refine lv_iconst (v := (-1)) hx hb dL_whole_260 (by decide) ?_
              refine lv_icmp_ne (tgt := 268) hx hb dL_whole_261 (by decide) (fun c_68 => ?_) (fun c9 => absurd c9 hr8)
              refine lv_iconst (v := 0) hx hb dL_whole_268 (by decide) ?_
              refine lv_aload_n hx hb dL_whole_269 rfl (lv_at hl 5 rfl) ?_
              refine lv_iload hx hb dL_whole_270 (lv_at hl 2 rfl) ?_
              refine fk_callV (As := [.int (nI t)]) (rest := [.int 0]) ⟨hx, hb, hml, hown, hts⟩ (kc_serialOf l D ad cI cT cJ _ S t ht) (cwV 1 hts gL_whole_X2_serialOf rfl rfl rfl (by decide +kernel) ⟨Nat.le_of_ble_eq_true rfl, Nat.le_of_ble_eq_true rfl⟩) (fk_rvK hK hP) hK hP hD hS hA rfl hl.1 rfl (Nat.le_of_ble_eq_true rfl) dL_whole_272 ⟨Nat.le_of_ble_eq_true rfl, Nat.le_of_ble_eq_true rfl⟩ (fun H locs hP hD hS => ?_)
              refine W.eq (g2 := F0 m 275 ls [.int (S 9 t), .int 0]) rfl ?_
              refine lv_if_ne (tgt := 282) hx hb dL_whole_275 (by decide) (fun c_69 => ?_) (fun c9 => absurd ((hG.1.T ht).2.2.mpr c9) hr8)
              refine lv_iconst (v := 0) hx hb dL_whole_282 (by decide) ?_
              refine lv_icmp_ne (tgt := 309) hx hb dL_whole_283 (by decide) (fun c => absurd c (by decide)) (fun _ => ?_)
              refine lv_aload_n hx hb dL_whole_286 rfl (lv_at hl 5 rfl) ?_
              refine lv_iload hx hb dL_whole_287 (lv_at hl 2 rfl) ?_
              refine fk_callV (As := [.int (nI t)]) (rest := []) ⟨hx, hb, hml, hown, hts⟩ (kc_stateOf l D ad cI cT cJ _ S t ht) (cwV 1 hts gL_whole_X2_stateOf rfl rfl rfl (by decide +kernel) ⟨Nat.le_of_ble_eq_true rfl, Nat.le_of_ble_eq_true rfl⟩) (fk_rvK hK hP) hK hP hD hS hA rfl hl.1 rfl (Nat.le_of_ble_eq_true rfl) dL_whole_289 ⟨Nat.le_of_ble_eq_true rfl, Nat.le_of_ble_eq_true rfl⟩ (fun H locs hP hD hS => ?_)
              refine W.eq (g2 := F0 m 292 ls [.int (S 1 t)]) rfl ?_
              refine W.eq (g2 := F0 m 292 ls [.int 2]) (by rw [show (S 1 t) = (2 : Int32) from hs]) ?_
              refine lv_iconst (v := 3) hx hb dL_whole_292 (by decide) ?_
              refine lv_icmp_ne (tgt := 305) hx hb dL_whole_293 (by decide) (fun _ => ?_) (fun c => absurd c (by decide))
              refine lv_iconst (v := 1) hx hb dL_whole_305 (by decide) ?_
              refine lv_goto (tgt := 310) hx hb dL_whole_306 (by decide) ?_
              exact jn310 1 rfl _ _ _ hP hD hS hl
          · have e3 := ((hG.1.T ht).nq (Or.inr hs)).1
            refine lv_aload_n hx hb dL_whole_194 rfl (lv_at hl 4 rfl) ?_
            refine lv_iload hx hb dL_whole_195 (lv_at hl 0 rfl) ?_
            refine fk_callV (As := [.int (nI t)]) (rest := []) ⟨hx, hb, hml, hown, hts⟩ (kc_stateOf l D ad cI cT cJ _ S t ht) (cwV 1 hts gL_whole_X2_stateOf rfl rfl rfl (by decide +kernel) ⟨Nat.le_of_ble_eq_true rfl, Nat.le_of_ble_eq_true rfl⟩) (fk_rvK hK hP) hK hP hD hS hA rfl hl.1 rfl (Nat.le_of_ble_eq_true rfl) dL_whole_197 ⟨Nat.le_of_ble_eq_true rfl, Nat.le_of_ble_eq_true rfl⟩ (fun H locs hP hD hS => ?_)
            refine W.eq (g2 := F0 m 200 ls [.int (S 1 t)]) rfl ?_
            refine W.eq (g2 := F0 m 200 ls [.int 3]) (by rw [show (S 1 t) = (3 : Int32) from hs]) ?_
            refine lv_iconst (v := 1) hx hb dL_whole_200 (by decide) ?_
            refine lv_icmp_eq (tgt := 214) hx hb dL_whole_201 (by decide) (fun c => absurd c (by decide)) (fun _ => ?_)
            refine lv_aload_n hx hb dL_whole_204 rfl (lv_at hl 4 rfl) ?_
            refine lv_iload hx hb dL_whole_205 (lv_at hl 0 rfl) ?_
            refine fk_callV (As := [.int (nI t)]) (rest := []) ⟨hx, hb, hml, hown, hts⟩ (kc_stateOf l D ad cI cT cJ _ S t ht) (cwV 1 hts gL_whole_X2_stateOf rfl rfl rfl (by decide +kernel) ⟨Nat.le_of_ble_eq_true rfl, Nat.le_of_ble_eq_true rfl⟩) (fk_rvK hK hP) hK hP hD hS hA rfl hl.1 rfl (Nat.le_of_ble_eq_true rfl) dL_whole_207 ⟨Nat.le_of_ble_eq_true rfl, Nat.le_of_ble_eq_true rfl⟩ (fun H locs hP hD hS => ?_)
            refine W.eq (g2 := F0 m 210 ls [.int (S 1 t)]) rfl ?_
            refine W.eq (g2 := F0 m 210 ls [.int 3]) (by rw [show (S 1 t) = (3 : Int32) from hs]) ?_
            refine lv_iconst (v := 2) hx hb dL_whole_210 (by decide) ?_
            refine lv_icmp_ne (tgt := 218) hx hb dL_whole_211 (by decide) (fun _ => ?_) (fun c => absurd c (by decide))
            refine lv_iconst (v := 0) hx hb dL_whole_218 (by decide) ?_
            refine lv_istore (lv' := [(6, .int 0), (5, .int (nI t)), (4, .int 1), (3, .int (nI w)), (2, .int (nI x)), (0, .ref (ad 0)), (1, .ref q)]) hx hb dL_whole_219 hl (by decide) rfl (fun ls hl => ?_)
            refine lv_iload_n hx hb dL_whole_221 rfl (lv_at hl 3 rfl) ?_
            refine lv_iload hx hb dL_whole_222 (lv_at hl 0 rfl) ?_
            refine lv_if_eq (tgt := 231) hx hb dL_whole_224 (by decide) (fun _ => ?_) (fun c => absurd c (by decide))
            refine lv_iconst (v := 0) hx hb dL_whole_231 (by decide) ?_
            refine lv_iadd hx hb dL_whole_232 ?_
            refine W.eq (g2 := F0 m 233 ls [.int (nI w)]) (by rw [show (0 : Int32) = nI 0 from rfl, nI_add]; rfl) ?_
            refine lv_istore_n (lv' := [(3, .int (nI w)), (6, .int 0), (5, .int (nI t)), (4, .int 1), (2, .int (nI x)), (0, .ref (ad 0)), (1, .ref q)]) hx hb dL_whole_233 rfl hl (by decide) rfl (fun ls hl => ?_)
            have jn310 : ∀ (z9 : Int32), z9 = 1 → ∀ (H : Heap) (locs : List Loc) (ls : Array Slot), va_P D vwCl (fk_kW ad cI cT S ++ (q, fk_pr cI P) :: X) H → va_D A (fk_kW ad cI cT S ++ (q, fk_pr cI P) :: X) → va_S A s.heap H locs → lv_has ls 11 [(3, .int (nI w)), (6, .int 0), (5, .int (nI t)), (4, .int 1), (2, .int (nI x)), (0, .ref (ad 0)), (1, .ref q)] → W p l e rmL_whole s m ([.ref (ad 0), .ref q] : List Value).toArray below meth c H locs 0 0 (fk_Q below D (fk_ty cI cT cJ) [.ref (ad 0), .ref q] s A (fk_kW ad cI cT S ++ (q, fk_pr cI P) :: X) (some (.int 1))) (F0 m 310 ls [.int z9]) := by
              intro z9 h_z9 H locs ls hP hD hS hl
              refine lv_istore (lv' := [(4, .int z9), (3, .int (nI w)), (6, .int 0), (5, .int (nI t)), (2, .int (nI x)), (0, .ref (ad 0)), (1, .ref q)]) hx hb dL_whole_310 hl (by decide) rfl (fun ls hl => ?_)
              have hl : lv_has ls 11 [(4, .int 1), (3, .int (nI w)), (6, .int 0), (5, .int (nI t)), (2, .int (nI x)), (0, .ref (ad 0)), (1, .ref q)] := by rw [h_z9] at hl; exact hl
              refine lv_iconst (v := 0) hx hb dL_whole_312 (by decide) ?_
              refine lv_istore (lv' := [(7, .int 0), (4, .int 1), (3, .int (nI w)), (6, .int 0), (5, .int (nI t)), (2, .int (nI x)), (0, .ref (ad 0)), (1, .ref q)]) hx hb dL_whole_313 hl (by decide) rfl (fun ls hl => ?_)
              have loopU : ∀ (n2 : Nat) (u : Nat), u + n2 = t → ∀ (H : Heap) (locs : List Loc) (ls : Array Slot), va_P D vwCl (fk_kW ad cI cT S ++ (q, fk_pr cI P) :: X) H → va_D A (fk_kW ad cI cT S ++ (q, fk_pr cI P) :: X) → va_S A s.heap H locs → lv_has ls 11 [(7, .int (nI u)), (5, .int (nI t)), (4, .int 1), (3, .int (nI w)), (2, .int (nI x)), (0, .ref (ad 0)), (1, .ref q)] → W p l e rmL_whole s m ([.ref (ad 0), .ref q] : List Value).toArray below meth c H locs 0 0 (fk_Q below D (fk_ty cI cT cJ) [.ref (ad 0), .ref q] s A (fk_kW ad cI cT S ++ (q, fk_pr cI P) :: X) (some (.int 1))) (F0 m 315 ls []) := by
                intro n2
                induction n2 with
                | zero =>
                  intro u hu H locs ls hP hD hS hl
                  refine lv_iload hx hb dL_whole_315 (lv_at hl 0 rfl) ?_
                  refine lv_iload hx hb dL_whole_317 (lv_at hl 1 rfl) ?_
                  refine lv_icmp_ge (tgt := 364) hx hb dL_whole_319 (by decide) (fun c_75 => ?_) (fun c_75 => absurd (nI_le (a := t) (b := u) (by omega) (by omega)) c_75)
                  refine lv_iinc (v := (nI (t + 1))) (lv' := [(5, .int (nI (t + 1))), (7, .int (nI u)), (4, .int 1), (3, .int (nI w)), (2, .int (nI x)), (0, .ref (ad 0)), (1, .ref q)]) hx hb dL_whole_364 hl (k := 1) rfl (nI_1 t) (by decide) rfl (fun ls hl => ?_)
                  refine lv_goto (tgt := 182) hx hb dL_whole_367 (by decide) ?_
                  exact ih1 (t + 1) w (by omega) (by rw [hw9]; simp only [pl_wn]; rw [if_neg (by rw [kk_q_no hG.1 (by omega) (Or.inr hs)]; decide), Nat.add_zero]) _ _ _ hP hD hS (lv_sub hl [0, 2, 3, 4, 5, 6] rfl)
                | succ n2 ih2 =>
                  intro u hu H locs ls hP hD hS hl
                  refine lv_iload hx hb dL_whole_315 (lv_at hl 0 rfl) ?_
                  refine lv_iload hx hb dL_whole_317 (lv_at hl 1 rfl) ?_
                  refine lv_icmp_ge (tgt := 364) hx hb dL_whole_319 (by decide) (fun c_76 => absurd c_76 (nI_ge (a := u) (b := t) (by omega) (by omega))) (fun c_76 => ?_)
                  refine lv_iload hx hb dL_whole_322 (lv_at hl 2 rfl) ?_
                  refine lv_if_eq (tgt := 364) hx hb dL_whole_324 (by decide) (fun c => absurd c (by decide)) (fun _ => ?_)
                  refine lv_aload_n hx hb dL_whole_327 rfl (lv_at hl 5 rfl) ?_
                  refine lv_iload hx hb dL_whole_328 (lv_at hl 1 rfl) ?_
                  refine fk_callV (As := [.int (nI t)]) (rest := []) ⟨hx, hb, hml, hown, hts⟩ (kc_serialOf l D ad cI cT cJ _ S t ht) (cwV 1 hts gL_whole_X2_serialOf rfl rfl rfl (by decide +kernel) ⟨Nat.le_of_ble_eq_true rfl, Nat.le_of_ble_eq_true rfl⟩) (fk_rvK hK hP) hK hP hD hS hA rfl hl.1 rfl (Nat.le_of_ble_eq_true rfl) dL_whole_330 ⟨Nat.le_of_ble_eq_true rfl, Nat.le_of_ble_eq_true rfl⟩ (fun H locs hP hD hS => ?_)
                  refine W.eq (g2 := F0 m 333 ls [.int (S 9 t)]) rfl ?_
                  refine lv_if_eq (tgt := 351) hx hb dL_whole_333 (by decide) (fun c_78 => ?_) (fun c_78 => ?_)
                  · refine lv_iconst (v := 1) hx hb dL_whole_351 (by decide) ?_
                    refine lv_goto (tgt := 356) hx hb dL_whole_352 (by decide) ?_
                    refine lv_istore (lv' := [(4, .int 1), (7, .int (nI u)), (5, .int (nI t)), (3, .int (nI w)), (2, .int (nI x)), (0, .ref (ad 0)), (1, .ref q)]) hx hb dL_whole_356 hl (by decide) rfl (fun ls hl => ?_)
                    refine lv_iinc (v := (nI (u + 1))) (lv' := [(7, .int (nI (u + 1))), (4, .int 1), (5, .int (nI t)), (3, .int (nI w)), (2, .int (nI x)), (0, .ref (ad 0)), (1, .ref q)]) hx hb dL_whole_358 hl (k := 1) rfl (nI_1 u) (by decide) rfl (fun ls hl => ?_)
                    refine lv_goto (tgt := 315) hx hb dL_whole_361 (by decide) ?_
                    exact ih2 (u + 1) (by omega) _ _ _ hP hD hS (lv_sub hl [0, 2, 1, 3, 4, 5, 6] rfl)
                  · refine lv_aload_n hx hb dL_whole_336 rfl (lv_at hl 5 rfl) ?_
                    refine lv_iload hx hb dL_whole_337 (lv_at hl 0 rfl) ?_
                    refine fk_callV (As := [.int (nI u)]) (rest := []) ⟨hx, hb, hml, hown, hts⟩ (kc_serialOf l D ad cI cT cJ _ S u (by omega)) (cwV 1 hts gL_whole_X2_serialOf rfl rfl rfl (by decide +kernel) ⟨Nat.le_of_ble_eq_true rfl, Nat.le_of_ble_eq_true rfl⟩) (fk_rvK hK hP) hK hP hD hS hA rfl hl.1 rfl (Nat.le_of_ble_eq_true rfl) dL_whole_339 ⟨Nat.le_of_ble_eq_true rfl, Nat.le_of_ble_eq_true rfl⟩ (fun H locs hP hD hS => ?_)
                    refine W.eq (g2 := F0 m 342 ls [.int (S 9 u)]) rfl ?_
                    refine lv_aload_n hx hb dL_whole_342 rfl (lv_at hl 5 rfl) ?_
                    refine lv_iload hx hb dL_whole_343 (lv_at hl 1 rfl) ?_
                    refine fk_callV (As := [.int (nI t)]) (rest := [.int (S 9 u)]) ⟨hx, hb, hml, hown, hts⟩ (kc_serialOf l D ad cI cT cJ _ S t ht) (cwV 1 hts gL_whole_X2_serialOf rfl rfl rfl (by decide +kernel) ⟨Nat.le_of_ble_eq_true rfl, Nat.le_of_ble_eq_true rfl⟩) (fk_rvK hK hP) hK hP hD hS hA rfl hl.1 rfl (Nat.le_of_ble_eq_true rfl) dL_whole_345 ⟨Nat.le_of_ble_eq_true rfl, Nat.le_of_ble_eq_true rfl⟩ (fun H locs hP hD hS => ?_)
                    refine W.eq (g2 := F0 m 348 ls [.int (S 9 t), .int (S 9 u)]) rfl ?_
                    refine lv_icmp_eq (tgt := 355) hx hb dL_whole_348 (by decide) (fun c_79 => absurd c_79 (fun c9 => (hG.1.ser2 (show u < 8 by omega) ht c9).elim (fun z => absurd z (by omega)) (fun z => c_78 (c9.symm.trans z)))) (fun c_79 => ?_)
                    refine lv_iconst (v := 1) hx hb dL_whole_351 (by decide) ?_
                    refine lv_goto (tgt := 356) hx hb dL_whole_352 (by decide) ?_
                    refine lv_istore (lv' := [(4, .int 1), (7, .int (nI u)), (5, .int (nI t)), (3, .int (nI w)), (2, .int (nI x)), (0, .ref (ad 0)), (1, .ref q)]) hx hb dL_whole_356 hl (by decide) rfl (fun ls hl => ?_)
                    refine lv_iinc (v := (nI (u + 1))) (lv' := [(7, .int (nI (u + 1))), (4, .int 1), (5, .int (nI t)), (3, .int (nI w)), (2, .int (nI x)), (0, .ref (ad 0)), (1, .ref q)]) hx hb dL_whole_358 hl (k := 1) rfl (nI_1 u) (by decide) rfl (fun ls hl => ?_)
                    refine lv_goto (tgt := 315) hx hb dL_whole_361 (by decide) ?_
                    exact ih2 (u + 1) (by omega) _ _ _ hP hD hS (lv_sub hl [0, 2, 1, 3, 4, 5, 6] rfl)
              exact loopU t 0 (by omega) _ _ _ hP hD hS (lv_sub hl [0, 4, 1, 2, 5, 6, 7] rfl)
            by_cases hr8 : S 8 t = -1
            · refine lv_iload hx hb dL_whole_234 (lv_at hl 1 rfl) ?_
              refine lv_aload_n hx hb dL_whole_236 rfl (lv_at hl 5 rfl) ?_
              refine lv_iload hx hb dL_whole_237 (lv_at hl 2 rfl) ?_
              refine fk_callV (As := [.int (nI t)]) (rest := [.int 0]) ⟨hx, hb, hml, hown, hts⟩ (kc_addressOf l D ad cI cT cJ _ S t ht) (cwV 1 hts gL_whole_X2_addressOf rfl rfl rfl (by decide +kernel) ⟨Nat.le_of_ble_eq_true rfl, Nat.le_of_ble_eq_true rfl⟩) (fk_rvK hK hP) hK hP hD hS hA rfl hl.1 rfl (Nat.le_of_ble_eq_true rfl) dL_whole_239 ⟨Nat.le_of_ble_eq_true rfl, Nat.le_of_ble_eq_true rfl⟩ (fun H locs hP hD hS => ?_)
              refine W.eq (g2 := F0 m 242 ls [.int (S 3 t), .int 0]) rfl ?_
              refine W.eq (g2 := F0 m 242 ls [.int (-1), .int 0]) (by rw [show (S 3 t) = ((-1) : Int32) from e3]) ?_
              refine lv_iconst (v := (-1)) hx hb dL_whole_242 (by decide) ?_
              refine lv_icmp_eq (tgt := 250) hx hb dL_whole_243 (by decide) (fun _ => ?_) (fun c => absurd c (by decide))
              refine lv_iconst (v := 0) hx hb dL_whole_250 (by decide) ?_
              refine lv_icmp_ne (tgt := 309) hx hb dL_whole_251 (by decide) (fun c => absurd c (by decide)) (fun _ => ?_)
              refine lv_aload_n hx hb dL_whole_254 rfl (lv_at hl 5 rfl) ?_
              refine lv_iload hx hb dL_whole_255 (lv_at hl 2 rfl) ?_
              refine fk_callV (As := [.int (nI t)]) (rest := []) ⟨hx, hb, hml, hown, hts⟩ (kc_resultOf l D ad cI cT cJ _ S t ht) (cwV 1 hts gL_whole_X2_resultOf rfl rfl rfl (by decide +kernel) ⟨Nat.le_of_ble_eq_true rfl, Nat.le_of_ble_eq_true rfl⟩) (fk_rvK hK hP) hK hP hD hS hA rfl hl.1 rfl (Nat.le_of_ble_eq_true rfl) dL_whole_257 ⟨Nat.le_of_ble_eq_true rfl, Nat.le_of_ble_eq_true rfl⟩ (fun H locs hP hD hS => ?_)
              refine W.eq (g2 := F0 m 260 ls [.int (S 8 t)]) rfl ?_
              refine W.eq (g2 := F0 m 260 ls [.int (-1)]) (by rw [show (S 8 t) = ((-1) : Int32) from hr8]) ?_
              refine lv_iconst (v := (-1)) hx hb dL_whole_260 (by decide) ?_
              refine lv_icmp_ne (tgt := 268) hx hb dL_whole_261 (by decide) (fun c => absurd c (by decide)) (fun _ => ?_)
              refine lv_iconst (v := 1) hx hb dL_whole_264 (by decide) ?_
              refine lv_goto (tgt := 269) hx hb dL_whole_265 (by decide) ?_
              refine lv_aload_n hx hb dL_whole_269 rfl (lv_at hl 5 rfl) ?_
              refine lv_iload hx hb dL_whole_270 (lv_at hl 2 rfl) ?_
              refine fk_callV (As := [.int (nI t)]) (rest := [.int 1]) ⟨hx, hb, hml, hown, hts⟩ (kc_serialOf l D ad cI cT cJ _ S t ht) (cwV 1 hts gL_whole_X2_serialOf rfl rfl rfl (by decide +kernel) ⟨Nat.le_of_ble_eq_true rfl, Nat.le_of_ble_eq_true rfl⟩) (fk_rvK hK hP) hK hP hD hS hA rfl hl.1 rfl (Nat.le_of_ble_eq_true rfl) dL_whole_272 ⟨Nat.le_of_ble_eq_true rfl, Nat.le_of_ble_eq_true rfl⟩ (fun H locs hP hD hS => ?_)
              refine W.eq (g2 := F0 m 275 ls [.int (S 9 t), .int 1]) rfl ?_
              refine W.eq (g2 := F0 m 275 ls [.int 0, .int 1]) (by rw [show (S 9 t) = (0 : Int32) from ((hG.1.T ht).2.2.mp hr8)]) ?_
              refine lv_if_ne (tgt := 282) hx hb dL_whole_275 (by decide) (fun c => absurd c (by decide)) (fun _ => ?_)
              refine lv_iconst (v := 1) hx hb dL_whole_278 (by decide) ?_
              refine lv_goto (tgt := 283) hx hb dL_whole_279 (by decide) ?_
              refine lv_icmp_ne (tgt := 309) hx hb dL_whole_283 (by decide) (fun c => absurd c (by decide)) (fun _ => ?_)
              refine lv_aload_n hx hb dL_whole_286 rfl (lv_at hl 5 rfl) ?_
              refine lv_iload hx hb dL_whole_287 (lv_at hl 2 rfl) ?_
              refine fk_callV (As := [.int (nI t)]) (rest := []) ⟨hx, hb, hml, hown, hts⟩ (kc_stateOf l D ad cI cT cJ _ S t ht) (cwV 1 hts gL_whole_X2_stateOf rfl rfl rfl (by decide +kernel) ⟨Nat.le_of_ble_eq_true rfl, Nat.le_of_ble_eq_true rfl⟩) (fk_rvK hK hP) hK hP hD hS hA rfl hl.1 rfl (Nat.le_of_ble_eq_true rfl) dL_whole_289 ⟨Nat.le_of_ble_eq_true rfl, Nat.le_of_ble_eq_true rfl⟩ (fun H locs hP hD hS => ?_)
              refine W.eq (g2 := F0 m 292 ls [.int (S 1 t)]) rfl ?_
              refine W.eq (g2 := F0 m 292 ls [.int 3]) (by rw [show (S 1 t) = (3 : Int32) from hs]) ?_
              refine lv_iconst (v := 3) hx hb dL_whole_292 (by decide) ?_
              refine lv_icmp_ne (tgt := 305) hx hb dL_whole_293 (by decide) (fun c => absurd c (by decide)) (fun _ => ?_)
              refine lv_aload_n hx hb dL_whole_296 rfl (lv_at hl 5 rfl) ?_
              refine lv_iload hx hb dL_whole_297 (lv_at hl 2 rfl) ?_
              refine fk_callV (As := [.int (nI t)]) (rest := []) ⟨hx, hb, hml, hown, hts⟩ (kc_locks l D ad cI cT cJ _ S t ht) (cwV 1 hts gL_whole_X2_locks rfl rfl rfl (by decide +kernel) ⟨Nat.le_of_ble_eq_true rfl, Nat.le_of_ble_eq_true rfl⟩) (fk_rvK hK hP) hK hP hD hS hA rfl hl.1 rfl (Nat.le_of_ble_eq_true rfl) dL_whole_299 ⟨Nat.le_of_ble_eq_true rfl, Nat.le_of_ble_eq_true rfl⟩ (fun H locs hP hD hS => ?_)
              refine W.eq (g2 := F0 m 302 ls [.int (S 10 t)]) rfl ?_
              refine W.eq (g2 := F0 m 302 ls [.int 0]) (by rw [show (S 10 t) = (0 : Int32) from (hG.2 t ht hs)]) ?_
              refine lv_if_ne (tgt := 309) hx hb dL_whole_302 (by decide) (fun c => absurd c (by decide)) (fun _ => ?_)
              refine lv_iconst (v := 1) hx hb dL_whole_305 (by decide) ?_
              refine lv_goto (tgt := 310) hx hb dL_whole_306 (by decide) ?_
              exact jn310 1 rfl _ _ _ hP hD hS hl
            · refine lv_iload hx hb dL_whole_234 (lv_at hl 1 rfl) ?_
              refine lv_aload_n hx hb dL_whole_236 rfl (lv_at hl 5 rfl) ?_
              refine lv_iload hx hb dL_whole_237 (lv_at hl 2 rfl) ?_
              refine fk_callV (As := [.int (nI t)]) (rest := [.int 0]) ⟨hx, hb, hml, hown, hts⟩ (kc_addressOf l D ad cI cT cJ _ S t ht) (cwV 1 hts gL_whole_X2_addressOf rfl rfl rfl (by decide +kernel) ⟨Nat.le_of_ble_eq_true rfl, Nat.le_of_ble_eq_true rfl⟩) (fk_rvK hK hP) hK hP hD hS hA rfl hl.1 rfl (Nat.le_of_ble_eq_true rfl) dL_whole_239 ⟨Nat.le_of_ble_eq_true rfl, Nat.le_of_ble_eq_true rfl⟩ (fun H locs hP hD hS => ?_)
              refine W.eq (g2 := F0 m 242 ls [.int (S 3 t), .int 0]) rfl ?_
              refine W.eq (g2 := F0 m 242 ls [.int (-1), .int 0]) (by rw [show (S 3 t) = ((-1) : Int32) from e3]) ?_
              refine lv_iconst (v := (-1)) hx hb dL_whole_242 (by decide) ?_
              refine lv_icmp_eq (tgt := 250) hx hb dL_whole_243 (by decide) (fun _ => ?_) (fun c => absurd c (by decide))
              refine lv_iconst (v := 0) hx hb dL_whole_250 (by decide) ?_
              refine lv_icmp_ne (tgt := 309) hx hb dL_whole_251 (by decide) (fun c => absurd c (by decide)) (fun _ => ?_)
              refine lv_aload_n hx hb dL_whole_254 rfl (lv_at hl 5 rfl) ?_
              refine lv_iload hx hb dL_whole_255 (lv_at hl 2 rfl) ?_
              refine fk_callV (As := [.int (nI t)]) (rest := []) ⟨hx, hb, hml, hown, hts⟩ (kc_resultOf l D ad cI cT cJ _ S t ht) (cwV 1 hts gL_whole_X2_resultOf rfl rfl rfl (by decide +kernel) ⟨Nat.le_of_ble_eq_true rfl, Nat.le_of_ble_eq_true rfl⟩) (fk_rvK hK hP) hK hP hD hS hA rfl hl.1 rfl (Nat.le_of_ble_eq_true rfl) dL_whole_257 ⟨Nat.le_of_ble_eq_true rfl, Nat.le_of_ble_eq_true rfl⟩ (fun H locs hP hD hS => ?_)
              refine W.eq (g2 := F0 m 260 ls [.int (S 8 t)]) rfl ?_
              refine lv_iconst (v := (-1)) hx hb dL_whole_260 (by decide) ?_
              refine lv_icmp_ne (tgt := 268) hx hb dL_whole_261 (by decide) (fun c_89 => ?_) (fun c9 => absurd c9 hr8)
              refine lv_iconst (v := 0) hx hb dL_whole_268 (by decide) ?_
              refine lv_aload_n hx hb dL_whole_269 rfl (lv_at hl 5 rfl) ?_
              refine lv_iload hx hb dL_whole_270 (lv_at hl 2 rfl) ?_
              refine fk_callV (As := [.int (nI t)]) (rest := [.int 0]) ⟨hx, hb, hml, hown, hts⟩ (kc_serialOf l D ad cI cT cJ _ S t ht) (cwV 1 hts gL_whole_X2_serialOf rfl rfl rfl (by decide +kernel) ⟨Nat.le_of_ble_eq_true rfl, Nat.le_of_ble_eq_true rfl⟩) (fk_rvK hK hP) hK hP hD hS hA rfl hl.1 rfl (Nat.le_of_ble_eq_true rfl) dL_whole_272 ⟨Nat.le_of_ble_eq_true rfl, Nat.le_of_ble_eq_true rfl⟩ (fun H locs hP hD hS => ?_)
              refine W.eq (g2 := F0 m 275 ls [.int (S 9 t), .int 0]) rfl ?_
              refine lv_if_ne (tgt := 282) hx hb dL_whole_275 (by decide) (fun c_90 => ?_) (fun c9 => absurd ((hG.1.T ht).2.2.mpr c9) hr8)
              refine lv_iconst (v := 0) hx hb dL_whole_282 (by decide) ?_
              refine lv_icmp_ne (tgt := 309) hx hb dL_whole_283 (by decide) (fun c => absurd c (by decide)) (fun _ => ?_)
              refine lv_aload_n hx hb dL_whole_286 rfl (lv_at hl 5 rfl) ?_
              refine lv_iload hx hb dL_whole_287 (lv_at hl 2 rfl) ?_
              refine fk_callV (As := [.int (nI t)]) (rest := []) ⟨hx, hb, hml, hown, hts⟩ (kc_stateOf l D ad cI cT cJ _ S t ht) (cwV 1 hts gL_whole_X2_stateOf rfl rfl rfl (by decide +kernel) ⟨Nat.le_of_ble_eq_true rfl, Nat.le_of_ble_eq_true rfl⟩) (fk_rvK hK hP) hK hP hD hS hA rfl hl.1 rfl (Nat.le_of_ble_eq_true rfl) dL_whole_289 ⟨Nat.le_of_ble_eq_true rfl, Nat.le_of_ble_eq_true rfl⟩ (fun H locs hP hD hS => ?_)
              refine W.eq (g2 := F0 m 292 ls [.int (S 1 t)]) rfl ?_
              refine W.eq (g2 := F0 m 292 ls [.int 3]) (by rw [show (S 1 t) = (3 : Int32) from hs]) ?_
              refine lv_iconst (v := 3) hx hb dL_whole_292 (by decide) ?_
              refine lv_icmp_ne (tgt := 305) hx hb dL_whole_293 (by decide) (fun c => absurd c (by decide)) (fun _ => ?_)
              refine lv_aload_n hx hb dL_whole_296 rfl (lv_at hl 5 rfl) ?_
              refine lv_iload hx hb dL_whole_297 (lv_at hl 2 rfl) ?_
              refine fk_callV (As := [.int (nI t)]) (rest := []) ⟨hx, hb, hml, hown, hts⟩ (kc_locks l D ad cI cT cJ _ S t ht) (cwV 1 hts gL_whole_X2_locks rfl rfl rfl (by decide +kernel) ⟨Nat.le_of_ble_eq_true rfl, Nat.le_of_ble_eq_true rfl⟩) (fk_rvK hK hP) hK hP hD hS hA rfl hl.1 rfl (Nat.le_of_ble_eq_true rfl) dL_whole_299 ⟨Nat.le_of_ble_eq_true rfl, Nat.le_of_ble_eq_true rfl⟩ (fun H locs hP hD hS => ?_)
              refine W.eq (g2 := F0 m 302 ls [.int (S 10 t)]) rfl ?_
              refine W.eq (g2 := F0 m 302 ls [.int 0]) (by rw [show (S 10 t) = (0 : Int32) from (hG.2 t ht hs)]) ?_
              refine lv_if_ne (tgt := 309) hx hb dL_whole_302 (by decide) (fun c => absurd c (by decide)) (fun _ => ?_)
              refine lv_iconst (v := 1) hx hb dL_whole_305 (by decide) ?_
              refine lv_goto (tgt := 310) hx hb dL_whole_306 (by decide) ?_
              exact jn310 1 rfl _ _ _ hP hD hS hl
      exact loopC 8 0 0 rfl rfl _ _ _ hP hD hS (lv_sub hl [0, 1, 2, 3, 4, 5] rfl)
    | succ n1 ih1 =>
      intro b x hb9 hx9 H locs ls hP hD hS hl
      refine lv_iload hx hb dL_whole_10 (lv_at hl 0 rfl) ?_
      refine lv_iconst (v := 4) hx hb dL_whole_12 (by decide) ?_
      refine lv_icmp_ge (tgt := 179) hx hb dL_whole_13 (by decide) (fun c_94 => absurd c_94 (nI_ge (a := b) (b := 4) (by omega) (by omega))) (fun c_94 => ?_)
      refine lv_iload hx hb dL_whole_16 (lv_at hl 1 rfl) ?_
      refine lv_if_eq (tgt := 179) hx hb dL_whole_18 (by decide) (fun c => absurd c (by decide)) (fun _ => ?_)
      refine lv_iconst (v := 0) hx hb dL_whole_21 (by decide) ?_
      refine lv_istore (lv' := [(6, .int 0), (5, .int (nI b)), (4, .int 1), (3, .int 0), (2, .int (nI x)), (0, .ref (ad 0)), (1, .ref q)]) hx hb dL_whole_22 hl (by decide) rfl (fun ls hl => ?_)
      have loopB : ∀ (n2 : Nat) (k : Nat), k + n2 = (kq_B S b).length → ∀ (H : Heap) (locs : List Loc) (ls : Array Slot), va_P D vwCl (fk_kW ad cI cT S ++ (q, fk_pr cI P) :: X) H → va_D A (fk_kW ad cI cT S ++ (q, fk_pr cI P) :: X) → va_S A s.heap H locs → lv_has ls 11 [(6, .int (nI k)), (5, .int (nI b)), (4, .int 1), (3, .int 0), (2, .int (nI (x + k))), (0, .ref (ad 0)), (1, .ref q)] → W p l e rmL_whole s m ([.ref (ad 0), .ref q] : List Value).toArray below meth c H locs 0 0 (fk_Q below D (fk_ty cI cT cJ) [.ref (ad 0), .ref q] s A (fk_kW ad cI cT S ++ (q, fk_pr cI P) :: X) (some (.int 1))) (F0 m 24 ls []) := by
        intro n2
        induction n2 with
        | zero =>
          intro k hk H locs ls hP hD hS hl
          have h8 := kq_B8 S b
          have hke : k = (kq_B S b).length := by omega
          have hl : lv_has ls 11 [(6, .int (nI ((kq_B S b).length))), (5, .int (nI b)), (4, .int 1), (3, .int 0), (2, .int (nI (x + (kq_B S b).length))), (0, .ref (ad 0)), (1, .ref q)] := by rw [hke] at hl; exact hl
          refine lv_aload_n hx hb dL_whole_24 rfl (lv_at hl 5 rfl) ?_
          refine lv_iload hx hb dL_whole_25 (lv_at hl 1 rfl) ?_
          refine lv_iload hx hb dL_whole_27 (lv_at hl 0 rfl) ?_
          refine fk_callV (As := [.int (nI b), .int (nI ((kq_B S b).length))]) (rest := []) ⟨hx, hb, hml, hown, hts⟩ (kc_queueAt l D ad cI cT cJ _ S b (by omega) (nI ((kq_B S b).length)) (nI_pos' (by omega))) (cwV 2 hts gL_whole_X2_queueAt rfl rfl rfl (by decide +kernel) ⟨Nat.le_of_ble_eq_true rfl, Nat.le_of_ble_eq_true rfl⟩) (fk_rvK hK hP) hK hP hD hS hA rfl hl.1 rfl (Nat.le_of_ble_eq_true rfl) dL_whole_29 ⟨Nat.le_of_ble_eq_true rfl, Nat.le_of_ble_eq_true rfl⟩ (fun H locs hP hD hS => ?_)
          refine W.eq (g2 := F0 m 32 ls [.int (fk_oI (kk_qAt S (nI b) (nI ((kq_B S b).length))))]) rfl ?_
          refine W.eq (g2 := F0 m 32 ls [.int (-1)]) (by rw [show (fk_oI (kk_qAt S (nI b) (nI ((kq_B S b).length)))) = ((-1) : Int32) from (by rw [kq_qAt hG.1.J b (by omega), List.getElem?_eq_none (Nat.le_refl _)]; rfl)]) ?_
          refine lv_iconst (v := (-1)) hx hb dL_whole_32 (by decide) ?_
          refine lv_icmp_eq (tgt := 173) hx hb dL_whole_33 (by decide) (fun _ => ?_) (fun c => absurd c (by decide))
          refine lv_iinc (v := (nI (b + 1))) (lv' := [(5, .int (nI (b + 1))), (6, .int (nI ((kq_B S b).length))), (4, .int 1), (3, .int 0), (2, .int (nI (x + (kq_B S b).length))), (0, .ref (ad 0)), (1, .ref q)]) hx hb dL_whole_173 hl (k := 1) rfl (nI_1 b) (by decide) rfl (fun ls hl => ?_)
          refine lv_goto (tgt := 10) hx hb dL_whole_176 (by decide) ?_
          exact ih1 (b + 1) (x + (kq_B S b).length) (by omega) (by rw [hx9]; rfl) _ _ _ hP hD hS (lv_sub hl [0, 2, 3, 4, 5, 6] rfl)
        | succ n2 ih2 =>
          intro k hk H locs ls hP hD hS hl
          have h8 := kq_B8 S b
          obtain ⟨t, hgt, -⟩ := kq_step hk
          obtain ⟨ht, htq, htb⟩ := kq_B_at hG.1 hgt
          refine lv_aload_n hx hb dL_whole_24 rfl (lv_at hl 5 rfl) ?_
          refine lv_iload hx hb dL_whole_25 (lv_at hl 1 rfl) ?_
          refine lv_iload hx hb dL_whole_27 (lv_at hl 0 rfl) ?_
          refine fk_callV (As := [.int (nI b), .int (nI k)]) (rest := []) ⟨hx, hb, hml, hown, hts⟩ (kc_queueAt l D ad cI cT cJ _ S b (by omega) (nI k) (nI_pos' (by omega))) (cwV 2 hts gL_whole_X2_queueAt rfl rfl rfl (by decide +kernel) ⟨Nat.le_of_ble_eq_true rfl, Nat.le_of_ble_eq_true rfl⟩) (fk_rvK hK hP) hK hP hD hS hA rfl hl.1 rfl (Nat.le_of_ble_eq_true rfl) dL_whole_29 ⟨Nat.le_of_ble_eq_true rfl, Nat.le_of_ble_eq_true rfl⟩ (fun H locs hP hD hS => ?_)
          refine W.eq (g2 := F0 m 32 ls [.int (fk_oI (kk_qAt S (nI b) (nI k)))]) rfl ?_
          refine W.eq (g2 := F0 m 32 ls [.int (nI t)]) (by rw [show (fk_oI (kk_qAt S (nI b) (nI k))) = (nI t) from (by rw [kq_qAt hG.1.J b (by omega), hgt]; rfl)]) ?_
          refine lv_iconst (v := (-1)) hx hb dL_whole_32 (by decide) ?_
          refine lv_icmp_eq (tgt := 173) hx hb dL_whole_33 (by decide) (fun c => absurd c (fk_nI_m1 (by omega))) (fun _ => ?_)
          refine lv_iload hx hb dL_whole_36 (lv_at hl 2 rfl) ?_
          refine lv_if_eq (tgt := 173) hx hb dL_whole_38 (by decide) (fun c => absurd c (by decide)) (fun _ => ?_)
          refine lv_aload_n hx hb dL_whole_41 rfl (lv_at hl 5 rfl) ?_
          refine lv_iload hx hb dL_whole_42 (lv_at hl 1 rfl) ?_
          refine lv_iload hx hb dL_whole_44 (lv_at hl 0 rfl) ?_
          refine fk_callV (As := [.int (nI b), .int (nI k)]) (rest := []) ⟨hx, hb, hml, hown, hts⟩ (kc_queueAt l D ad cI cT cJ _ S b (by omega) (nI k) (nI_pos' (by omega))) (cwV 2 hts gL_whole_X2_queueAt rfl rfl rfl (by decide +kernel) ⟨Nat.le_of_ble_eq_true rfl, Nat.le_of_ble_eq_true rfl⟩) (fk_rvK hK hP) hK hP hD hS hA rfl hl.1 rfl (Nat.le_of_ble_eq_true rfl) dL_whole_46 ⟨Nat.le_of_ble_eq_true rfl, Nat.le_of_ble_eq_true rfl⟩ (fun H locs hP hD hS => ?_)
          refine W.eq (g2 := F0 m 49 ls [.int (fk_oI (kk_qAt S (nI b) (nI k)))]) rfl ?_
          refine W.eq (g2 := F0 m 49 ls [.int (nI t)]) (by rw [show (fk_oI (kk_qAt S (nI b) (nI k))) = (nI t) from (by rw [kq_qAt hG.1.J b (by omega), hgt]; rfl)]) ?_
          refine lv_istore (lv' := [(7, .int (nI t)), (6, .int (nI k)), (5, .int (nI b)), (4, .int 1), (3, .int 0), (2, .int (nI (x + k))), (0, .ref (ad 0)), (1, .ref q)]) hx hb dL_whole_49 hl (by decide) rfl (fun ls hl => ?_)
          refine lv_iinc (v := (nI (x + k + 1))) (lv' := [(2, .int (nI (x + k + 1))), (7, .int (nI t)), (6, .int (nI k)), (5, .int (nI b)), (4, .int 1), (3, .int 0), (0, .ref (ad 0)), (1, .ref q)]) hx hb dL_whole_51 hl (k := 5) rfl (nI_1 (x + k)) (by decide) rfl (fun ls hl => ?_)
          have jn124 : ∀ (z9 : Int32), z9 = 1 → ∀ (H : Heap) (locs : List Loc) (ls : Array Slot), va_P D vwCl (fk_kW ad cI cT S ++ (q, fk_pr cI P) :: X) H → va_D A (fk_kW ad cI cT S ++ (q, fk_pr cI P) :: X) → va_S A s.heap H locs → lv_has ls 11 [(2, .int (nI (x + k + 1))), (7, .int (nI t)), (6, .int (nI k)), (5, .int (nI b)), (4, .int 1), (3, .int 0), (0, .ref (ad 0)), (1, .ref q)] → W p l e rmL_whole s m ([.ref (ad 0), .ref q] : List Value).toArray below meth c H locs 0 0 (fk_Q below D (fk_ty cI cT cJ) [.ref (ad 0), .ref q] s A (fk_kW ad cI cT S ++ (q, fk_pr cI P) :: X) (some (.int 1))) (F0 m 124 ls [.int z9]) := by
            intro z9 h_z9 H locs ls hP hD hS hl
            refine lv_istore (lv' := [(4, .int z9), (2, .int (nI (x + k + 1))), (7, .int (nI t)), (6, .int (nI k)), (5, .int (nI b)), (3, .int 0), (0, .ref (ad 0)), (1, .ref q)]) hx hb dL_whole_124 hl (by decide) rfl (fun ls hl => ?_)
            have hl : lv_has ls 11 [(4, .int 1), (2, .int (nI (x + k + 1))), (7, .int (nI t)), (6, .int (nI k)), (5, .int (nI b)), (3, .int 0), (0, .ref (ad 0)), (1, .ref q)] := by rw [h_z9] at hl; exact hl
            refine lv_iconst (v := 0) hx hb dL_whole_126 (by decide) ?_
            refine lv_istore (lv' := [(8, .int 0), (4, .int 1), (2, .int (nI (x + k + 1))), (7, .int (nI t)), (6, .int (nI k)), (5, .int (nI b)), (3, .int 0), (0, .ref (ad 0)), (1, .ref q)]) hx hb dL_whole_127 hl (by decide) rfl (fun ls hl => ?_)
            have loopI : ∀ (n3 : Nat) (i : Nat), i + n3 = k → ∀ (H : Heap) (locs : List Loc) (ls : Array Slot), va_P D vwCl (fk_kW ad cI cT S ++ (q, fk_pr cI P) :: X) H → va_D A (fk_kW ad cI cT S ++ (q, fk_pr cI P) :: X) → va_S A s.heap H locs → lv_has ls 11 [(8, .int (nI i)), (7, .int (nI t)), (6, .int (nI k)), (5, .int (nI b)), (4, .int 1), (3, .int 0), (2, .int (nI (x + (k + 1)))), (0, .ref (ad 0)), (1, .ref q)] → W p l e rmL_whole s m ([.ref (ad 0), .ref q] : List Value).toArray below meth c H locs 0 0 (fk_Q below D (fk_ty cI cT cJ) [.ref (ad 0), .ref q] s A (fk_kW ad cI cT S ++ (q, fk_pr cI P) :: X) (some (.int 1))) (F0 m 129 ls []) := by
              intro n3
              induction n3 with
              | zero =>
                intro i hi H locs ls hP hD hS hl
                refine lv_iload hx hb dL_whole_129 (lv_at hl 0 rfl) ?_
                refine lv_iload hx hb dL_whole_131 (lv_at hl 2 rfl) ?_
                refine lv_icmp_ge (tgt := 167) hx hb dL_whole_133 (by decide) (fun c_98 => ?_) (fun c_98 => absurd (nI_le (a := k) (b := i) (by omega) (by omega)) c_98)
                refine lv_iinc (v := (nI (k + 1))) (lv' := [(6, .int (nI (k + 1))), (8, .int (nI i)), (7, .int (nI t)), (5, .int (nI b)), (4, .int 1), (3, .int 0), (2, .int (nI (x + (k + 1)))), (0, .ref (ad 0)), (1, .ref q)]) hx hb dL_whole_167 hl (k := 2) rfl (nI_1 k) (by decide) rfl (fun ls hl => ?_)
                refine lv_goto (tgt := 24) hx hb dL_whole_170 (by decide) ?_
                exact ih2 (k + 1) (by omega) _ _ _ hP hD hS (lv_sub hl [0, 3, 4, 5, 6, 7, 8] rfl)
              | succ n3 ih3 =>
                intro i hi H locs ls hP hD hS hl
                obtain ⟨v, hgv, -⟩ := kq_step (L := kq_B S b) (k := i) (n := (kq_B S b).length - (i + 1)) (by omega)
                have hv := kq_B_lt hgv
                have hvt : ¬ nI v = nI t := fun e9 => kq_nd_ne (kq_nd _ _) hgv hgt (by omega) ((nI_eq (by omega) (by omega)).mp e9)
                refine lv_iload hx hb dL_whole_129 (lv_at hl 0 rfl) ?_
                refine lv_iload hx hb dL_whole_131 (lv_at hl 2 rfl) ?_
                refine lv_icmp_ge (tgt := 167) hx hb dL_whole_133 (by decide) (fun c_99 => absurd c_99 (nI_ge (a := i) (b := k) (by omega) (by omega))) (fun c_99 => ?_)
                refine lv_iload hx hb dL_whole_136 (lv_at hl 4 rfl) ?_
                refine lv_if_eq (tgt := 167) hx hb dL_whole_138 (by decide) (fun c => absurd c (by decide)) (fun _ => ?_)
                refine lv_aload_n hx hb dL_whole_141 rfl (lv_at hl 7 rfl) ?_
                refine lv_iload hx hb dL_whole_142 (lv_at hl 3 rfl) ?_
                refine lv_iload hx hb dL_whole_144 (lv_at hl 0 rfl) ?_
                refine fk_callV (As := [.int (nI b), .int (nI i)]) (rest := []) ⟨hx, hb, hml, hown, hts⟩ (kc_queueAt l D ad cI cT cJ _ S b (by omega) (nI i) (nI_pos' (by omega))) (cwV 2 hts gL_whole_X2_queueAt rfl rfl rfl (by decide +kernel) ⟨Nat.le_of_ble_eq_true rfl, Nat.le_of_ble_eq_true rfl⟩) (fk_rvK hK hP) hK hP hD hS hA rfl hl.1 rfl (Nat.le_of_ble_eq_true rfl) dL_whole_146 ⟨Nat.le_of_ble_eq_true rfl, Nat.le_of_ble_eq_true rfl⟩ (fun H locs hP hD hS => ?_)
                refine W.eq (g2 := F0 m 149 ls [.int (fk_oI (kk_qAt S (nI b) (nI i)))]) rfl ?_
                refine W.eq (g2 := F0 m 149 ls [.int (nI v)]) (by rw [show (fk_oI (kk_qAt S (nI b) (nI i))) = (nI v) from (by rw [kq_qAt hG.1.J b (by omega), hgv]; rfl)]) ?_
                refine lv_iload hx hb dL_whole_149 (lv_at hl 1 rfl) ?_
                refine lv_icmp_eq (tgt := 158) hx hb dL_whole_151 (by decide) (fun c_101 => absurd c_101 hvt) (fun c_101 => ?_)
                refine lv_iconst (v := 1) hx hb dL_whole_154 (by decide) ?_
                refine lv_goto (tgt := 159) hx hb dL_whole_155 (by decide) ?_
                refine lv_istore (lv' := [(4, .int 1), (8, .int (nI i)), (7, .int (nI t)), (6, .int (nI k)), (5, .int (nI b)), (3, .int 0), (2, .int (nI (x + (k + 1)))), (0, .ref (ad 0)), (1, .ref q)]) hx hb dL_whole_159 hl (by decide) rfl (fun ls hl => ?_)
                refine lv_iinc (v := (nI (i + 1))) (lv' := [(8, .int (nI (i + 1))), (4, .int 1), (7, .int (nI t)), (6, .int (nI k)), (5, .int (nI b)), (3, .int 0), (2, .int (nI (x + (k + 1)))), (0, .ref (ad 0)), (1, .ref q)]) hx hb dL_whole_161 hl (k := 1) rfl (nI_1 i) (by decide) rfl (fun ls hl => ?_)
                refine lv_goto (tgt := 129) hx hb dL_whole_164 (by decide) ?_
                exact ih3 (i + 1) (by omega) _ _ _ hP hD hS (lv_sub hl [0, 2, 3, 4, 1, 5, 6, 7, 8] rfl)
            exact loopI k 0 (by omega) _ _ _ hP hD hS (lv_sub hl [0, 3, 4, 5, 1, 6, 2, 7, 8] rfl)
          rcases (hG.1.T ht).isq.mp htq with hs | hs
          · refine lv_iload hx hb dL_whole_54 (lv_at hl 2 rfl) ?_
            refine lv_bipush (v := 8) hx hb dL_whole_56 (by decide) ?_
            refine lv_icmp_ge (tgt := 123) hx hb dL_whole_58 (by decide) (fun c_102 => absurd c_102 (nI_ge (a := k) (b := 8) (by omega) (by omega))) (fun c_102 => ?_)
            refine lv_aload_n hx hb dL_whole_61 rfl (lv_at hl 6 rfl) ?_
            refine lv_iload hx hb dL_whole_62 (lv_at hl 1 rfl) ?_
            refine fk_callV (As := [.int (nI t)]) (rest := []) ⟨hx, hb, hml, hown, hts⟩ (kc_stateOf l D ad cI cT cJ _ S t ht) (cwV 1 hts gL_whole_X2_stateOf rfl rfl rfl (by decide +kernel) ⟨Nat.le_of_ble_eq_true rfl, Nat.le_of_ble_eq_true rfl⟩) (fk_rvK hK hP) hK hP hD hS hA rfl hl.1 rfl (Nat.le_of_ble_eq_true rfl) dL_whole_64 ⟨Nat.le_of_ble_eq_true rfl, Nat.le_of_ble_eq_true rfl⟩ (fun H locs hP hD hS => ?_)
            refine W.eq (g2 := F0 m 67 ls [.int (S 1 t)]) rfl ?_
            refine W.eq (g2 := F0 m 67 ls [.int 1]) (by rw [show (S 1 t) = (1 : Int32) from hs]) ?_
            refine lv_iconst (v := 1) hx hb dL_whole_67 (by decide) ?_
            refine lv_icmp_eq (tgt := 81) hx hb dL_whole_68 (by decide) (fun _ => ?_) (fun c => absurd c (by decide))
            refine lv_aload_n hx hb dL_whole_81 rfl (lv_at hl 6 rfl) ?_
            refine lv_iload hx hb dL_whole_82 (lv_at hl 1 rfl) ?_
            refine fk_callV (As := [.int (nI t)]) (rest := []) ⟨hx, hb, hml, hown, hts⟩ (kc_addressOf l D ad cI cT cJ _ S t ht) (cwV 1 hts gL_whole_X2_addressOf rfl rfl rfl (by decide +kernel) ⟨Nat.le_of_ble_eq_true rfl, Nat.le_of_ble_eq_true rfl⟩) (fk_rvK hK hP) hK hP hD hS hA rfl hl.1 rfl (Nat.le_of_ble_eq_true rfl) dL_whole_84 ⟨Nat.le_of_ble_eq_true rfl, Nat.le_of_ble_eq_true rfl⟩ (fun H locs hP hD hS => ?_)
            refine W.eq (g2 := F0 m 87 ls [.int (S 3 t)]) rfl ?_
            refine fk_callS (As := [.int (S 3 t)]) (rest := []) ⟨hx, hb, hml, hown, hts⟩ (kl_bucket l D ad cI cT cJ _ S (S 3 t)) (va_cwS 1 hts gL_whole_L_bucket rfl rfl rfl (by decide +kernel) ⟨Nat.le_of_ble_eq_true rfl, Nat.le_of_ble_eq_true rfl⟩) hK hP hD hS hA rfl hl.1 rfl (Nat.le_of_ble_eq_true rfl) dL_whole_87 ⟨Nat.le_of_ble_eq_true rfl, Nat.le_of_ble_eq_true rfl⟩ (fun H locs hP hD hS => ?_)
            refine W.eq (g2 := F0 m 90 ls [.int (fk_bkt (S 3 t))]) rfl ?_
            refine W.eq (g2 := F0 m 90 ls [.int (nI b)]) (by rw [show (fk_bkt (S 3 t)) = (nI b) from htb]) ?_
            refine lv_iload hx hb dL_whole_90 (lv_at hl 3 rfl) ?_
            refine lv_icmp_ne (tgt := 123) hx hb dL_whole_92 (by decide) (fun c => absurd rfl c) (fun _ => ?_)
            refine lv_iload hx hb dL_whole_95 (lv_at hl 2 rfl) ?_
            refine lv_if_eq (tgt := 119) hx hb dL_whole_97 (by decide) (fun c_104 => ?_) (fun c_104 => ?_)
            · refine lv_iconst (v := 1) hx hb dL_whole_119 (by decide) ?_
              refine lv_goto (tgt := 124) hx hb dL_whole_120 (by decide) ?_
              exact jn124 1 rfl _ _ _ hP hD hS hl
            · have hk0 : 1 ≤ k := Nat.pos_of_ne_zero (fun z => c_104 (by rw [z]; rfl))
              obtain ⟨t2, hgt2, -⟩ := kq_step (L := kq_B S b) (k := k - 1) (n := n2 + 1) (by omega)
              obtain ⟨ht2, -, -⟩ := kq_B_at hG.1 hgt2
              refine lv_aload_n hx hb dL_whole_100 rfl (lv_at hl 7 rfl) ?_
              refine lv_aload_n hx hb dL_whole_101 rfl (lv_at hl 6 rfl) ?_
              refine lv_iload hx hb dL_whole_102 (lv_at hl 3 rfl) ?_
              refine lv_iload hx hb dL_whole_104 (lv_at hl 2 rfl) ?_
              refine lv_iconst (v := 1) hx hb dL_whole_106 (by decide) ?_
              refine lv_isub hx hb dL_whole_107 ?_
              refine W.eq (g2 := F0 m 108 ls [.int (nI (k - 1)), .int (nI b), .ref (ad 0), .ref q]) (by rw [show (1 : Int32) = nI 1 from rfl, pk_sub hk0]) ?_
              refine fk_callV (As := [.int (nI b), .int (nI (k - 1))]) (rest := [.ref q]) ⟨hx, hb, hml, hown, hts⟩ (kc_queueAt l D ad cI cT cJ _ S b (by omega) (nI (k - 1)) (nI_pos' (by omega))) (cwV 2 hts gL_whole_X2_queueAt rfl rfl rfl (by decide +kernel) ⟨Nat.le_of_ble_eq_true rfl, Nat.le_of_ble_eq_true rfl⟩) (fk_rvK hK hP) hK hP hD hS hA rfl hl.1 rfl (Nat.le_of_ble_eq_true rfl) dL_whole_108 ⟨Nat.le_of_ble_eq_true rfl, Nat.le_of_ble_eq_true rfl⟩ (fun H locs hP hD hS => ?_)
              refine W.eq (g2 := F0 m 111 ls [.int (fk_oI (kk_qAt S (nI b) (nI (k - 1)))), .ref q]) rfl ?_
              refine W.eq (g2 := F0 m 111 ls [.int (nI t2), .ref q]) (by rw [show (fk_oI (kk_qAt S (nI b) (nI (k - 1)))) = (nI t2) from (by rw [kq_qAt hG.1.J b (by omega), hgt2]; rfl)]) ?_
              refine va_iald hx hb hK hP 27 0 fk_at27 rfl (vp_in_nI (show t2 < 16 from (by omega)) (by decide)) dL_whole_111 ?_
              refine W.eq (g2 := F0 m 112 ls [.int (P t2)]) (by rw [nI_clamp (by omega)]) ?_
              refine W.eq (g2 := F0 m 112 ls [.int (S 2 t2)]) (by rw [show (P t2) = (S 2 t2) from (hG.1.pr t2 ht2)]) ?_
              refine lv_aload_n hx hb dL_whole_112 rfl (lv_at hl 7 rfl) ?_
              refine lv_iload hx hb dL_whole_113 (lv_at hl 1 rfl) ?_
              refine va_iald hx hb hK hP 27 0 fk_at27 rfl (vp_in_nI (show t < 16 from (by omega)) (by decide)) dL_whole_115 ?_
              refine W.eq (g2 := F0 m 116 ls [.int (P t), .int (S 2 t2)]) (by rw [nI_clamp (by omega)]) ?_
              refine W.eq (g2 := F0 m 116 ls [.int (S 2 t), .int (S 2 t2)]) (by rw [show (P t) = (S 2 t) from (hG.1.pr t ht)]) ?_
              refine lv_icmp_lt (tgt := 123) hx hb dL_whole_116 (by decide) (fun c_105 => absurd c_105 (Int32.not_lt.mpr (kq_B_ord hG.1 hgt2 hgt (by omega)))) (fun c_105 => ?_)
              refine lv_iconst (v := 1) hx hb dL_whole_119 (by decide) ?_
              refine lv_goto (tgt := 124) hx hb dL_whole_120 (by decide) ?_
              exact jn124 1 rfl _ _ _ hP hD hS hl
          · refine lv_iload hx hb dL_whole_54 (lv_at hl 2 rfl) ?_
            refine lv_bipush (v := 8) hx hb dL_whole_56 (by decide) ?_
            refine lv_icmp_ge (tgt := 123) hx hb dL_whole_58 (by decide) (fun c_106 => absurd c_106 (nI_ge (a := k) (b := 8) (by omega) (by omega))) (fun c_106 => ?_)
            refine lv_aload_n hx hb dL_whole_61 rfl (lv_at hl 6 rfl) ?_
            refine lv_iload hx hb dL_whole_62 (lv_at hl 1 rfl) ?_
            refine fk_callV (As := [.int (nI t)]) (rest := []) ⟨hx, hb, hml, hown, hts⟩ (kc_stateOf l D ad cI cT cJ _ S t ht) (cwV 1 hts gL_whole_X2_stateOf rfl rfl rfl (by decide +kernel) ⟨Nat.le_of_ble_eq_true rfl, Nat.le_of_ble_eq_true rfl⟩) (fk_rvK hK hP) hK hP hD hS hA rfl hl.1 rfl (Nat.le_of_ble_eq_true rfl) dL_whole_64 ⟨Nat.le_of_ble_eq_true rfl, Nat.le_of_ble_eq_true rfl⟩ (fun H locs hP hD hS => ?_)
            refine W.eq (g2 := F0 m 67 ls [.int (S 1 t)]) rfl ?_
            refine W.eq (g2 := F0 m 67 ls [.int 2]) (by rw [show (S 1 t) = (2 : Int32) from hs]) ?_
            refine lv_iconst (v := 1) hx hb dL_whole_67 (by decide) ?_
            refine lv_icmp_eq (tgt := 81) hx hb dL_whole_68 (by decide) (fun c => absurd c (by decide)) (fun _ => ?_)
            refine lv_aload_n hx hb dL_whole_71 rfl (lv_at hl 6 rfl) ?_
            refine lv_iload hx hb dL_whole_72 (lv_at hl 1 rfl) ?_
            refine fk_callV (As := [.int (nI t)]) (rest := []) ⟨hx, hb, hml, hown, hts⟩ (kc_stateOf l D ad cI cT cJ _ S t ht) (cwV 1 hts gL_whole_X2_stateOf rfl rfl rfl (by decide +kernel) ⟨Nat.le_of_ble_eq_true rfl, Nat.le_of_ble_eq_true rfl⟩) (fk_rvK hK hP) hK hP hD hS hA rfl hl.1 rfl (Nat.le_of_ble_eq_true rfl) dL_whole_74 ⟨Nat.le_of_ble_eq_true rfl, Nat.le_of_ble_eq_true rfl⟩ (fun H locs hP hD hS => ?_)
            refine W.eq (g2 := F0 m 77 ls [.int (S 1 t)]) rfl ?_
            refine W.eq (g2 := F0 m 77 ls [.int 2]) (by rw [show (S 1 t) = (2 : Int32) from hs]) ?_
            refine lv_iconst (v := 2) hx hb dL_whole_77 (by decide) ?_
            refine lv_icmp_ne (tgt := 123) hx hb dL_whole_78 (by decide) (fun c => absurd c (by decide)) (fun _ => ?_)
            refine lv_aload_n hx hb dL_whole_81 rfl (lv_at hl 6 rfl) ?_
            refine lv_iload hx hb dL_whole_82 (lv_at hl 1 rfl) ?_
            refine fk_callV (As := [.int (nI t)]) (rest := []) ⟨hx, hb, hml, hown, hts⟩ (kc_addressOf l D ad cI cT cJ _ S t ht) (cwV 1 hts gL_whole_X2_addressOf rfl rfl rfl (by decide +kernel) ⟨Nat.le_of_ble_eq_true rfl, Nat.le_of_ble_eq_true rfl⟩) (fk_rvK hK hP) hK hP hD hS hA rfl hl.1 rfl (Nat.le_of_ble_eq_true rfl) dL_whole_84 ⟨Nat.le_of_ble_eq_true rfl, Nat.le_of_ble_eq_true rfl⟩ (fun H locs hP hD hS => ?_)
            refine W.eq (g2 := F0 m 87 ls [.int (S 3 t)]) rfl ?_
            refine fk_callS (As := [.int (S 3 t)]) (rest := []) ⟨hx, hb, hml, hown, hts⟩ (kl_bucket l D ad cI cT cJ _ S (S 3 t)) (va_cwS 1 hts gL_whole_L_bucket rfl rfl rfl (by decide +kernel) ⟨Nat.le_of_ble_eq_true rfl, Nat.le_of_ble_eq_true rfl⟩) hK hP hD hS hA rfl hl.1 rfl (Nat.le_of_ble_eq_true rfl) dL_whole_87 ⟨Nat.le_of_ble_eq_true rfl, Nat.le_of_ble_eq_true rfl⟩ (fun H locs hP hD hS => ?_)
            refine W.eq (g2 := F0 m 90 ls [.int (fk_bkt (S 3 t))]) rfl ?_
            refine W.eq (g2 := F0 m 90 ls [.int (nI b)]) (by rw [show (fk_bkt (S 3 t)) = (nI b) from htb]) ?_
            refine lv_iload hx hb dL_whole_90 (lv_at hl 3 rfl) ?_
            refine lv_icmp_ne (tgt := 123) hx hb dL_whole_92 (by decide) (fun c => absurd rfl c) (fun _ => ?_)
            refine lv_iload hx hb dL_whole_95 (lv_at hl 2 rfl) ?_
            refine lv_if_eq (tgt := 119) hx hb dL_whole_97 (by decide) (fun c_109 => ?_) (fun c_109 => ?_)
            · refine lv_iconst (v := 1) hx hb dL_whole_119 (by decide) ?_
              refine lv_goto (tgt := 124) hx hb dL_whole_120 (by decide) ?_
              exact jn124 1 rfl _ _ _ hP hD hS hl
            · have hk0 : 1 ≤ k := Nat.pos_of_ne_zero (fun z => c_109 (by rw [z]; rfl))
              obtain ⟨t2, hgt2, -⟩ := kq_step (L := kq_B S b) (k := k - 1) (n := n2 + 1) (by omega)
              obtain ⟨ht2, -, -⟩ := kq_B_at hG.1 hgt2
              refine lv_aload_n hx hb dL_whole_100 rfl (lv_at hl 7 rfl) ?_
              refine lv_aload_n hx hb dL_whole_101 rfl (lv_at hl 6 rfl) ?_
              refine lv_iload hx hb dL_whole_102 (lv_at hl 3 rfl) ?_
              refine lv_iload hx hb dL_whole_104 (lv_at hl 2 rfl) ?_
              refine lv_iconst (v := 1) hx hb dL_whole_106 (by decide) ?_
              refine lv_isub hx hb dL_whole_107 ?_
              refine W.eq (g2 := F0 m 108 ls [.int (nI (k - 1)), .int (nI b), .ref (ad 0), .ref q]) (by rw [show (1 : Int32) = nI 1 from rfl, pk_sub hk0]) ?_
              refine fk_callV (As := [.int (nI b), .int (nI (k - 1))]) (rest := [.ref q]) ⟨hx, hb, hml, hown, hts⟩ (kc_queueAt l D ad cI cT cJ _ S b (by omega) (nI (k - 1)) (nI_pos' (by omega))) (cwV 2 hts gL_whole_X2_queueAt rfl rfl rfl (by decide +kernel) ⟨Nat.le_of_ble_eq_true rfl, Nat.le_of_ble_eq_true rfl⟩) (fk_rvK hK hP) hK hP hD hS hA rfl hl.1 rfl (Nat.le_of_ble_eq_true rfl) dL_whole_108 ⟨Nat.le_of_ble_eq_true rfl, Nat.le_of_ble_eq_true rfl⟩ (fun H locs hP hD hS => ?_)
              refine W.eq (g2 := F0 m 111 ls [.int (fk_oI (kk_qAt S (nI b) (nI (k - 1)))), .ref q]) rfl ?_
              refine W.eq (g2 := F0 m 111 ls [.int (nI t2), .ref q]) (by rw [show (fk_oI (kk_qAt S (nI b) (nI (k - 1)))) = (nI t2) from (by rw [kq_qAt hG.1.J b (by omega), hgt2]; rfl)]) ?_
              refine va_iald hx hb hK hP 27 0 fk_at27 rfl (vp_in_nI (show t2 < 16 from (by omega)) (by decide)) dL_whole_111 ?_
              refine W.eq (g2 := F0 m 112 ls [.int (P t2)]) (by rw [nI_clamp (by omega)]) ?_
              refine W.eq (g2 := F0 m 112 ls [.int (S 2 t2)]) (by rw [show (P t2) = (S 2 t2) from (hG.1.pr t2 ht2)]) ?_
              refine lv_aload_n hx hb dL_whole_112 rfl (lv_at hl 7 rfl) ?_
              refine lv_iload hx hb dL_whole_113 (lv_at hl 1 rfl) ?_
              refine va_iald hx hb hK hP 27 0 fk_at27 rfl (vp_in_nI (show t < 16 from (by omega)) (by decide)) dL_whole_115 ?_
              refine W.eq (g2 := F0 m 116 ls [.int (P t), .int (S 2 t2)]) (by rw [nI_clamp (by omega)]) ?_
              refine W.eq (g2 := F0 m 116 ls [.int (S 2 t), .int (S 2 t2)]) (by rw [show (P t) = (S 2 t) from (hG.1.pr t ht)]) ?_
              refine lv_icmp_lt (tgt := 123) hx hb dL_whole_116 (by decide) (fun c_110 => absurd c_110 (Int32.not_lt.mpr (kq_B_ord hG.1 hgt2 hgt (by omega)))) (fun c_110 => ?_)
              refine lv_iconst (v := 1) hx hb dL_whole_119 (by decide) ?_
              refine lv_goto (tgt := 124) hx hb dL_whole_120 (by decide) ?_
              exact jn124 1 rfl _ _ _ hP hD hS hl
      exact loopB (kq_B S b).length 0 (by omega) _ _ _ hP hD hS (lv_sub hl [0, 1, 2, 3, 4, 5, 6] rfl)
  exact loopA 4 0 0 rfl rfl _ _ _ hP hD hS (lv_sub hl [0, 1, 2, 3, 4, 5] rfl)
