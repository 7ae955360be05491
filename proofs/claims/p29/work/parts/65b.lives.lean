theorem fk_tA {th : Int32} (h : th < 0) : (1 : Int32) = fk_b (!fk_isT th) := by
  have : fk_isT th = false := by
    unfold fk_isT
    rw [decide_eq_false (Int32.not_le.mpr h)]
    rfl
  rw [this]
  rfl
theorem fk_tB {th : Int32} (h : ¬ th ≤ 7) : (1 : Int32) = fk_b (!fk_isT th) := by
  have : fk_isT th = false := by
    unfold fk_isT
    rw [decide_eq_false (p := th < 8) (fun h9 => h (by
      rw [Int32.lt_iff_toInt_lt] at h9
      rw [Int32.le_iff_toInt_le]
      have e1 : (7 : Int32).toInt = 7 := rfl
      have e2 : (8 : Int32).toInt = 8 := rfl
      omega))]
    exact Bool.and_false _
  rw [this]
  rfl
theorem fk_tE {th : Int32} (h1 : ¬ th < 0) (h2 : th ≤ 7) : (0 : Int32) = fk_b (!fk_isT th) := by
  rw [fk_isT_iff h1 (Int32.not_lt.mpr h2)]
  rfl
theorem kk_q_no {n : Nat} {S : fk_S} {P : Nat → Int32} {t : Nat} (h : kq_I n S P) (ht : t < 8) (hs : S 1 t = 0 ∨ S 1 t = 3) : kk_q S t = false := by
  rw [← Bool.not_eq_true, (h.T ht).isq]
  rcases hs with e | e <;> rw [e] <;> decide
theorem kk_q_yes {n : Nat} {S : fk_S} {P : Nat → Int32} {t : Nat} (h : kq_I n S P) (ht : t < 8) (hs : S 1 t = 1 ∨ S 1 t = 2) : kk_q S t = true := (h.T ht).isq.mpr hs
/-- how many of the threads up to t a tick has ended -/
def pl_cn (S : fk_S) (x : Int32) : Nat → Nat → Nat → Nat
  | 0, _, k => k
  | n + 1, t, k => pl_cn S x n (t + 1) (k + if x < S 9 t ∧ S 8 t = 1 then 1 else 0)
theorem pl_cn_eq (S : fk_S) (x : Int32) : ∀ (n t k : Nat), pl_cn S x n t k = k + ((List.range' t n).filter (fun u => decide (x < S 9 u) && decide (S 8 u = 1))).length := by
  intro n
  induction n with
  | zero => intro t k; rfl
  | succ n ih =>
    intro t k
    rw [List.range'_succ]
    by_cases c : x < S 9 t ∧ S 8 t = 1
    · simp only [pl_cn]
      rw [if_pos c, ih, List.filter_cons_of_pos (by simp [c.1, c.2]), List.length_cons]
      omega
    · simp only [pl_cn]
      rw [if_neg c, ih, List.filter_cons_of_neg (by simpa using c)]
      rfl
theorem kq_out {S : fk_S} {a k u t : Nat} (h : (kq_A S a)[k]? = some u) (h3 : S 3 t = -1) (ha : a < 16) (ht : t < 8) : ¬ nI u = nI t := by
  intro e
  have hm := kq_mem.mp (List.mem_of_getElem? h)
  have e2 : u = t := (nI_eq (by omega) (by omega)).mp e
  have h9 := hm.2
  unfold kq_PA at h9
  rw [e2, h3, decide_eq_true_eq] at h9
  exact fk_nI_m1 (by omega) h9.symm
theorem fk_wlo {v lo hi : Int32} (h : fk_btw v lo hi = true) : lo ≤ v := by
  unfold fk_btw at h
  simp only [Bool.and_eq_true, decide_eq_true_eq] at h
  exact h.1
theorem fk_whi {v lo hi : Int32} (h : fk_btw v lo hi = true) : v ≤ hi := by
  unfold fk_btw at h
  simp only [Bool.and_eq_true, decide_eq_true_eq] at h
  exact h.2

set_option maxHeartbeats 8000000 in
set_option maxRecDepth 100000 in
theorem el_lives (l : Launch) (D : va_G) (ad : Nat → Nat) (cI cT cJ : ClassId) (X : va_W) (S : fk_S) (q : Nat) (P : Nat → Int32) (n : Nat) (hst : l.stackTraces = false) (hG : kq_G n S P) (hn : n < 2 ^ 16) (od y : Int32)  : fk_E l D (fk_ty cI cT cJ) yL_lives wsL_lives rm_E [.ref (ad 0), .ref q, .int y, .int od] (fk_kW ad cI cT S ++ (q, fk_pr cI P) :: X) (kq_Phi ad cI cT q X (n + 20)) := by
  refine fk_E_of (cc := cL_lives) (maxL := 20) (ret := (some .boolean)) (own := RL) (by decide) rfl rfl (Nat.le_of_ble_eq_true rfl) ?_
  intro p e s m below meth c A ls hx hb hr hlocks hml hts hown hA hP hK hD hZ hN hl
  have hS : va_S A s.heap s.heap [] := va_S.rf
  have hl : lv_has ls 20 [(0, .ref (ad 0)), (1, .ref q), (2, .int y), (3, .int od)] := hl
  refine lv_iload_n hx hb dL_lives_0 rfl (lv_at hl 2 rfl) ?_
  refine lv_bipush (v := 12) hx hb dL_lives_1 (by decide) ?_
  refine fk_callS (As := [.int y, .int 12]) (rest := []) ⟨hx, hb, hml, hown, hts⟩ (kl_some l D ad cI cT cJ _ S y 12 (by decide)) (va_cwS 2 hts gL_lives_L_some rfl rfl rfl (by decide +kernel) ⟨Nat.le_of_ble_eq_true rfl, Nat.le_of_ble_eq_true rfl⟩) hK hP hD hS hA rfl hl.1 rfl (Nat.le_of_ble_eq_true rfl) dL_lives_3 ⟨Nat.le_of_ble_eq_true rfl, Nat.le_of_ble_eq_true rfl⟩ (fun H locs hP hD hS => ?_)
  refine W.eq (g2 := F0 m 6 ls [.int (pl_some y 12)]) rfl ?_
  refine lv_istore (lv' := [(4, .int (pl_some y 12)), (0, .ref (ad 0)), (1, .ref q), (2, .int y), (3, .int od)]) hx hb dL_lives_6 hl (by decide) rfl (fun ls hl => ?_)
  have jn33 : ∀ (th : Int32), ∀ (H : Heap) (locs : List Loc) (ls : Array Slot), va_P D vwCl (fk_kW ad cI cT S ++ (q, fk_pr cI P) :: X) H → va_D A (fk_kW ad cI cT S ++ (q, fk_pr cI P) :: X) → va_S A s.heap H locs → lv_has ls 20 [(4, .int (pl_some y 12)), (0, .ref (ad 0)), (1, .ref q), (2, .int y), (3, .int od)] → W p l e rm_E s m ([.ref (ad 0), .ref q, .int y, .int od] : List Value).toArray below meth c H locs 0 0 (MQ below (fk_QE D (fk_ty cI cT cJ) A (kq_Phi ad cI cT q X (n + 20))) ([.ref (ad 0), .ref q, .int y, .int od] : List Value).toArray s 2 12 A) (F0 m 33 ls [.int th]) := by
    intro th H locs ls hP hD hS hl
    refine lv_istore (lv' := [(5, .int th), (4, .int (pl_some y 12)), (0, .ref (ad 0)), (1, .ref q), (2, .int y), (3, .int od)]) hx hb dL_lives_33 hl (by decide) rfl (fun ls hl => ?_)
    have jn52 : ∀ (ov : Int32), ov = fk_b (!fk_isT th) → ∀ (H : Heap) (locs : List Loc) (ls : Array Slot), va_P D vwCl (fk_kW ad cI cT S ++ (q, fk_pr cI P) :: X) H → va_D A (fk_kW ad cI cT S ++ (q, fk_pr cI P) :: X) → va_S A s.heap H locs → lv_has ls 20 [(5, .int th), (4, .int (pl_some y 12)), (0, .ref (ad 0)), (1, .ref q), (2, .int y), (3, .int od)] → W p l e rm_E s m ([.ref (ad 0), .ref q, .int y, .int od] : List Value).toArray below meth c H locs 0 0 (MQ below (fk_QE D (fk_ty cI cT cJ) A (kq_Phi ad cI cT q X (n + 20))) ([.ref (ad 0), .ref q, .int y, .int od] : List Value).toArray s 2 12 A) (F0 m 52 ls [.int ov]) := by
      intro ov h_ov H locs ls hP hD hS hl
      refine lv_istore (lv' := [(6, .int ov), (5, .int th), (4, .int (pl_some y 12)), (0, .ref (ad 0)), (1, .ref q), (2, .int y), (3, .int od)]) hx hb dL_lives_52 hl (by decide) rfl (fun ls hl => ?_)
      by_cases hout : fk_isT th = true
      · have hov : ov = 0 := by rw [h_ov, hout]; rfl
        obtain ⟨t, ht, eth⟩ := fk_isT_of hout
        have hl : lv_has ls 20 [(6, .int 0), (5, .int (nI t)), (4, .int (pl_some y 12)), (0, .ref (ad 0)), (1, .ref q), (2, .int y), (3, .int od)] := by rw [hov, eth] at hl; exact hl
        refine lv_iload hx hb dL_lives_54 (lv_at hl 0 rfl) ?_
        refine lv_if_eq (tgt := 63) hx hb dL_lives_56 (by decide) (fun _ => ?_) (fun c => absurd c (by decide))
        refine lv_aload_n hx hb dL_lives_63 rfl (lv_at hl 3 rfl) ?_
        refine lv_iload hx hb dL_lives_64 (lv_at hl 1 rfl) ?_
        refine fk_callV (As := [.int (nI t)]) (rest := []) ⟨hx, hb, hml, hown, hts⟩ (kc_stateOf l D ad cI cT cJ _ S t ht) (cwV 1 hts gL_lives_X2_stateOf rfl rfl rfl (by decide +kernel) ⟨Nat.le_of_ble_eq_true rfl, Nat.le_of_ble_eq_true rfl⟩) (fk_rvK hK hP) hK hP hD hS hA rfl hl.1 rfl (Nat.le_of_ble_eq_true rfl) dL_lives_66 ⟨Nat.le_of_ble_eq_true rfl, Nat.le_of_ble_eq_true rfl⟩ (fun H locs hP hD hS => ?_)
        refine W.eq (g2 := F0 m 69 ls [.int (S 1 t)]) rfl ?_
        refine lv_istore (lv' := [(7, .int (S 1 t)), (6, .int 0), (5, .int (nI t)), (4, .int (pl_some y 12)), (0, .ref (ad 0)), (1, .ref q), (2, .int y), (3, .int od)]) hx hb dL_lives_69 hl (by decide) rfl (fun ls hl => ?_)
        refine lv_iload hx hb dL_lives_71 (lv_at hl 1 rfl) ?_
        refine lv_if_eq (tgt := 80) hx hb dL_lives_73 (by decide) (fun _ => ?_) (fun c => absurd c (by decide))
        refine lv_aload_n hx hb dL_lives_80 rfl (lv_at hl 4 rfl) ?_
        refine lv_iload hx hb dL_lives_81 (lv_at hl 2 rfl) ?_
        refine fk_callV (As := [.int (nI t)]) (rest := []) ⟨hx, hb, hml, hown, hts⟩ (kc_addressOf l D ad cI cT cJ _ S t ht) (cwV 1 hts gL_lives_X2_addressOf rfl rfl rfl (by decide +kernel) ⟨Nat.le_of_ble_eq_true rfl, Nat.le_of_ble_eq_true rfl⟩) (fk_rvK hK hP) hK hP hD hS hA rfl hl.1 rfl (Nat.le_of_ble_eq_true rfl) dL_lives_83 ⟨Nat.le_of_ble_eq_true rfl, Nat.le_of_ble_eq_true rfl⟩ (fun H locs hP hD hS => ?_)
        refine W.eq (g2 := F0 m 86 ls [.int (S 3 t)]) rfl ?_
        refine lv_istore (lv' := [(8, .int (S 3 t)), (7, .int (S 1 t)), (6, .int 0), (5, .int (nI t)), (4, .int (pl_some y 12)), (0, .ref (ad 0)), (1, .ref q), (2, .int y), (3, .int od)]) hx hb dL_lives_86 hl (by decide) rfl (fun ls hl => ?_)
        refine lv_aload_n hx hb dL_lives_88 rfl (lv_at hl 5 rfl) ?_
        refine fk_callS (As := [.ref (ad 0)]) (rest := []) ⟨hx, hb, hml, hown, hts⟩ (kl_last l D ad cI cT cJ _ S) (va_cwS 1 hts gL_lives_L_last rfl rfl rfl (by decide +kernel) ⟨Nat.le_of_ble_eq_true rfl, Nat.le_of_ble_eq_true rfl⟩) hK hP hD hS hA rfl hl.1 rfl (Nat.le_of_ble_eq_true rfl) dL_lives_89 ⟨Nat.le_of_ble_eq_true rfl, Nat.le_of_ble_eq_true rfl⟩ (fun H locs hP hD hS => ?_)
        refine W.eq (g2 := F0 m 92 ls [.int (pl_last S)]) rfl ?_
        refine lv_istore (lv' := [(9, .int (pl_last S)), (8, .int (S 3 t)), (7, .int (S 1 t)), (6, .int 0), (5, .int (nI t)), (4, .int (pl_some y 12)), (0, .ref (ad 0)), (1, .ref q), (2, .int y), (3, .int od)]) hx hb dL_lives_92 hl (by decide) rfl (fun ls hl => ?_)
        refine lv_aload_n hx hb dL_lives_94 rfl (lv_at hl 6 rfl) ?_
        refine lv_iconst (v := (-1)) hx hb dL_lives_95 (by decide) ?_
        refine fk_callS (As := [.ref (ad 0), .int (-1)]) (rest := []) ⟨hx, hb, hml, hown, hts⟩ (kl_threads l D ad cI cT cJ _ S hG.1.sz hG.1.J (-1)) (va_cwS 2 hts gL_lives_L_threads rfl rfl rfl (by decide +kernel) ⟨Nat.le_of_ble_eq_true rfl, Nat.le_of_ble_eq_true rfl⟩) hK hP hD hS hA rfl hl.1 rfl (Nat.le_of_ble_eq_true rfl) dL_lives_96 ⟨Nat.le_of_ble_eq_true rfl, Nat.le_of_ble_eq_true rfl⟩ (fun H locs hP hD hS => ?_)
        refine W.eq (g2 := F0 m 99 ls [.long (pl_thr S (-1))]) rfl ?_
        refine lv_lstore (lv' := [(10, .long (pl_thr S (-1))), (9, .int (pl_last S)), (8, .int (S 3 t)), (7, .int (S 1 t)), (6, .int 0), (5, .int (nI t)), (4, .int (pl_some y 12)), (0, .ref (ad 0)), (1, .ref q), (2, .int y), (3, .int od)]) hx hb dL_lives_99 hl (by decide) rfl (fun ls hl => ?_)
        refine lv_aload_n hx hb dL_lives_101 rfl (lv_at hl 7 rfl) ?_
        refine lv_iload hx hb dL_lives_102 (lv_at hl 4 rfl) ?_
        refine lv_if_eq (tgt := 111) hx hb dL_lives_104 (by decide) (fun _ => ?_) (fun c => absurd c (by decide))
        refine lv_iload hx hb dL_lives_111 (lv_at hl 5 rfl) ?_
        refine fk_callS (As := [.ref (ad 0), .int (nI t)]) (rest := []) ⟨hx, hb, hml, hown, hts⟩ (kl_threads l D ad cI cT cJ _ S hG.1.sz hG.1.J (nI t)) (va_cwS 2 hts gL_lives_L_threads rfl rfl rfl (by decide +kernel) ⟨Nat.le_of_ble_eq_true rfl, Nat.le_of_ble_eq_true rfl⟩) hK hP hD hS hA rfl hl.1 rfl (Nat.le_of_ble_eq_true rfl) dL_lives_113 ⟨Nat.le_of_ble_eq_true rfl, Nat.le_of_ble_eq_true rfl⟩ (fun H locs hP hD hS => ?_)
        refine W.eq (g2 := F0 m 116 ls [.long (pl_thr S (nI t))]) rfl ?_
        refine lv_lstore (lv' := [(12, .long (pl_thr S (nI t))), (10, .long (pl_thr S (-1))), (9, .int (pl_last S)), (8, .int (S 3 t)), (7, .int (S 1 t)), (6, .int 0), (5, .int (nI t)), (4, .int (pl_some y 12)), (0, .ref (ad 0)), (1, .ref q), (2, .int y), (3, .int od)]) hx hb dL_lives_116 hl (by decide) rfl (fun ls hl => ?_)
        refine lv_iload hx hb dL_lives_118 (lv_at hl 7 rfl) ?_
        refine lv_iconst (v := 3) hx hb dL_lives_120 (by decide) ?_
        refine lv_icmp_ge (tgt := 264) hx hb dL_lives_121 (by decide) (fun c_4 => ?_) (fun c_4 => ?_)
        · refine lv_iload hx hb dL_lives_264 (lv_at hl 7 rfl) ?_
          refine lv_iconst (v := 5) hx hb dL_lives_266 (by decide) ?_
          refine lv_icmp_ge (tgt := 462) hx hb dL_lives_267 (by decide) (fun c_5 => ?_) (fun c_5 => ?_)
          · refine lv_iload hx hb dL_lives_462 (lv_at hl 7 rfl) ?_
            refine lv_bipush (v := 8) hx hb dL_lives_464 (by decide) ?_
            refine lv_icmp_ge (tgt := 683) hx hb dL_lives_466 (by decide) (fun c_6 => ?_) (fun c_6 => ?_)
            · refine lv_iload hx hb dL_lives_683 (lv_at hl 7 rfl) ?_
              refine lv_bipush (v := 10) hx hb dL_lives_685 (by decide) ?_
              refine lv_icmp_ge (tgt := 804) hx hb dL_lives_687 (by decide) (fun c_7 => ?_) (fun c_7 => ?_)
              · refine lv_aload_n hx hb dL_lives_804 rfl (lv_at hl 8 rfl) ?_
                refine fk_callV (As := []) (rest := []) ⟨hx, hb, hml, hown, hts⟩ (kc_nextTimeout l D ad cI cT cJ _ S) (cwV 0 hts gL_lives_X2_nextTimeout rfl rfl rfl (by decide +kernel) ⟨Nat.le_of_ble_eq_true rfl, Nat.le_of_ble_eq_true rfl⟩) (fk_rvK hK hP) hK hP hD hS hA rfl hl.1 rfl (Nat.le_of_ble_eq_true rfl) dL_lives_805 ⟨Nat.le_of_ble_eq_true rfl, Nat.le_of_ble_eq_true rfl⟩ (fun H locs hP hD hS => ?_)
                refine W.eq (g2 := F0 m 808 ls [.int (kk_nextR S)]) rfl ?_
                refine lv_istore (lv' := [(14, .int (kk_nextR S)), (12, .long (pl_thr S (nI t))), (10, .long (pl_thr S (-1))), (9, .int (pl_last S)), (8, .int (S 3 t)), (7, .int (S 1 t)), (6, .int 0), (5, .int (nI t)), (4, .int (pl_some y 12)), (0, .ref (ad 0)), (1, .ref q), (2, .int y), (3, .int od)]) hx hb dL_lives_808 hl (by decide) rfl (fun ls hl => ?_)
                refine lv_aload_n hx hb dL_lives_810 rfl (lv_at hl 9 rfl) ?_
                refine fk_callV (As := []) (rest := []) ⟨hx, hb, hml, hown, hts⟩ (kc_now l D ad cI cT cJ _ S) (cwV 0 hts gL_lives_X2_now rfl rfl rfl (by decide +kernel) ⟨Nat.le_of_ble_eq_true rfl, Nat.le_of_ble_eq_true rfl⟩) (fk_rvK hK hP) hK hP hD hS hA rfl hl.1 rfl (Nat.le_of_ble_eq_true rfl) dL_lives_811 ⟨Nat.le_of_ble_eq_true rfl, Nat.le_of_ble_eq_true rfl⟩ (fun H locs hP hD hS => ?_)
                refine W.eq (g2 := F0 m 814 ls [.int (S 12 0)]) rfl ?_
                refine lv_istore (lv' := [(15, .int (S 12 0)), (14, .int (kk_nextR S)), (12, .long (pl_thr S (nI t))), (10, .long (pl_thr S (-1))), (9, .int (pl_last S)), (8, .int (S 3 t)), (7, .int (S 1 t)), (6, .int 0), (5, .int (nI t)), (4, .int (pl_some y 12)), (0, .ref (ad 0)), (1, .ref q), (2, .int y), (3, .int od)]) hx hb dL_lives_814 hl (by decide) rfl (fun ls hl => ?_)
                refine lv_iload_n hx hb dL_lives_816 rfl (lv_at hl 13 rfl) ?_
                refine lv_if_eq (tgt := 841) hx hb dL_lives_817 (by decide) (fun c_8 => ?_) (fun c_8 => ?_)
                · refine lv_iconst (v := 1) hx hb dL_lives_841 (by decide) ?_
                  refine lv_iload_n hx hb dL_lives_842 rfl (lv_at hl 12 rfl) ?_
                  refine lv_bipush (v := 6) hx hb dL_lives_843 (by decide) ?_
                  refine lv_ishr hx hb dL_lives_845 ?_
                  refine lv_iconst (v := 3) hx hb dL_lives_846 (by decide) ?_
                  refine fk_callS (As := [.int (y >>> (6 &&& 31)), .int 3]) (rest := [.int 1]) ⟨hx, hb, hml, hown, hts⟩ (kl_some l D ad cI cT cJ _ S (y >>> (6 &&& 31)) 3 (by decide)) (va_cwS 2 hts gL_lives_L_some rfl rfl rfl (by decide +kernel) ⟨Nat.le_of_ble_eq_true rfl, Nat.le_of_ble_eq_true rfl⟩) hK hP hD hS hA rfl hl.1 rfl (Nat.le_of_ble_eq_true rfl) dL_lives_847 ⟨Nat.le_of_ble_eq_true rfl, Nat.le_of_ble_eq_true rfl⟩ (fun H locs hP hD hS => ?_)
                  refine W.eq (g2 := F0 m 850 ls [.int (pl_some (y >>> (6 &&& 31)) 3), .int 1]) rfl ?_
                  refine lv_iadd hx hb dL_lives_850 ?_
                  obtain ⟨j9, hj9, ej9⟩ := pl_some_N (y >>> (6 &&& 31)) (k := 3) (by decide) (by decide)
                  have hd1 : 1 ≤ 1 + j9 := by omega
                  have hd2 : 1 + j9 ≤ 1000 := by omega
                  have ed9 : (1 : Int32) + pl_some (y >>> (6 &&& 31)) 3 = nI (1 + j9) := by rw [show (3 : Int32) = nI 3 from rfl, ej9, show (1 : Int32) = nI 1 from rfl, nI_add]
                  obtain ⟨d9, ed8⟩ : ∃ d9, d9 = 1 + j9 := ⟨_, rfl⟩
                  rw [← ed8] at hd1 hd2 ed9
                  have hdb : fk_btw (nI d9) 1 1000 = true := fk_wF (lo := 1) (hi := 1000) (Int32.not_lt.mpr (nI_le (a := 1) hd1 (by omega))) (nI_le (b := 1000) hd2 (by omega))
                  refine W.eq (g2 := F0 m 851 ls [.int (nI d9)]) (by rw [ed9]) ?_
                  refine lv_istore (lv' := [(16, .int (nI d9)), (15, .int (S 12 0)), (14, .int (kk_nextR S)), (12, .long (pl_thr S (nI t))), (10, .long (pl_thr S (-1))), (9, .int (pl_last S)), (8, .int (S 3 t)), (7, .int (S 1 t)), (6, .int 0), (5, .int (nI t)), (4, .int (pl_some y 12)), (0, .ref (ad 0)), (1, .ref q), (2, .int y), (3, .int od)]) hx hb dL_lives_851 hl (by decide) rfl (fun ls hl => ?_)
                  refine lv_aload_n hx hb dL_lives_853 rfl (lv_at hl 11 rfl) ?_
                  refine lv_iconst (v := 5) hx hb dL_lives_854 (by decide) ?_
                  refine lv_iload hx hb dL_lives_855 (lv_at hl 0 rfl) ?_
                  refine lv_iconst (v := 0) hx hb dL_lives_857 (by decide) ?_
                  refine lv_iconst (v := 0) hx hb dL_lives_858 (by decide) ?_
                  refine lv_iconst (v := 0) hx hb dL_lives_859 (by decide) ?_
                  obtain ⟨hG1, hT1, m9, hm9, em, hcnt, hiff, hnx⟩ := kq_tick hG (by omega) hd1 hd2
                  refine fk_lcallS (As := [.ref (ad 0), .int 5, .int (nI d9), .int 0, .int 0, .int 0]) (rest := []) ⟨hx, hb, hml, hown, hts⟩ (Lc_tick l D ad cI cT cJ _ S _ _ _ _ (kk_tick S (nI d9)) (nI m9) (fun X => by rw [← em]; exact kc_tick l D ad cI cT cJ X S (nI d9) hdb)) (vx_cwSW 6 hts gL_lives_L_acts rfl rfl rfl (by decide +kernel) ⟨Nat.le_of_ble_eq_true rfl, Nat.le_of_ble_eq_true rfl⟩) hK hP hD hS hA hZ hN rfl hl.1 rfl (Nat.le_of_ble_eq_true rfl) dL_lives_860 ⟨Nat.le_of_ble_eq_true rfl, Nat.le_of_ble_eq_true rfl⟩ (fun H locs hP hD hS => ?_)
                  refine W.eq (g2 := F0 m 863 ls [.int (nI m9)]) rfl ?_
                  refine lv_istore (lv' := [(17, .int (nI m9)), (16, .int (nI d9)), (15, .int (S 12 0)), (14, .int (kk_nextR S)), (12, .long (pl_thr S (nI t))), (10, .long (pl_thr S (-1))), (9, .int (pl_last S)), (8, .int (S 3 t)), (7, .int (S 1 t)), (6, .int 0), (5, .int (nI t)), (4, .int (pl_some y 12)), (0, .ref (ad 0)), (1, .ref q), (2, .int y), (3, .int od)]) hx hb dL_lives_863 hl (by decide) rfl (fun ls hl => ?_)
                  refine lv_iload_n hx hb dL_lives_865 rfl (lv_at hl 15 rfl) ?_
                  refine lv_if_eq (tgt := 893) hx hb dL_lives_866 (by decide) (fun c_9 => ?_) (fun c9 => absurd c_8 c9)
                  refine lv_iconst (v := 0) hx hb dL_lives_893 (by decide) ?_
                  refine lv_istore (lv' := [(18, .int 0), (17, .int (nI m9)), (16, .int (nI d9)), (15, .int (S 12 0)), (14, .int (kk_nextR S)), (12, .long (pl_thr S (nI t))), (10, .long (pl_thr S (-1))), (9, .int (pl_last S)), (8, .int (S 3 t)), (7, .int (S 1 t)), (6, .int 0), (5, .int (nI t)), (4, .int (pl_some y 12)), (0, .ref (ad 0)), (1, .ref q), (2, .int y), (3, .int od)]) hx hb dL_lives_894 hl (by decide) rfl (fun ls hl => ?_)
                  refine lv_iconst (v := 0) hx hb dL_lives_896 (by decide) ?_
                  refine lv_istore (lv' := [(19, .int 0), (18, .int 0), (17, .int (nI m9)), (16, .int (nI d9)), (15, .int (S 12 0)), (14, .int (kk_nextR S)), (12, .long (pl_thr S (nI t))), (10, .long (pl_thr S (-1))), (9, .int (pl_last S)), (8, .int (S 3 t)), (7, .int (S 1 t)), (6, .int 0), (5, .int (nI t)), (4, .int (pl_some y 12)), (0, .ref (ad 0)), (1, .ref q), (2, .int y), (3, .int od)]) hx hb dL_lives_897 hl (by decide) rfl (fun ls hl => ?_)
                  have loop1 : ∀ (n1 : Nat) (u k : Nat), u + n1 = 8 → pl_cn (kk_tick S (nI d9)) (pl_last S) n1 u k = m9 → ∀ (H : Heap) (locs : List Loc) (ls : Array Slot), va_P D vwCl (fk_kW ad cI cT (kk_tick S (nI d9)) ++ (q, fk_pr cI P) :: X) H → va_D A (fk_kW ad cI cT (kk_tick S (nI d9)) ++ (q, fk_pr cI P) :: X) → va_S A s.heap H locs → lv_has ls 20 [(19, .int (nI u)), (18, .int (nI k)), (17, .int (nI m9)), (16, .int (nI d9)), (15, .int (S 12 0)), (14, .int (kk_nextR S)), (9, .int (pl_last S)), (0, .ref (ad 0))] → W p l e rm_E s m ([.ref (ad 0), .ref q, .int y, .int od] : List Value).toArray below meth c H locs (0 + 1) (0 + 6) (MQ below (fk_QE D (fk_ty cI cT cJ) A (kq_Phi ad cI cT q X (n + 20))) ([.ref (ad 0), .ref q, .int y, .int od] : List Value).toArray s 2 12 A) (F0 m 899 ls []) := by
                    intro n1
                    induction n1 with
                    | zero =>
                      intro u k hu9 hc H locs ls hP hD hS hl
                      have hc9 : k = m9 := hc
                      have hl : lv_has ls 20 [(19, .int (nI u)), (18, .int (nI m9)), (17, .int (nI m9)), (16, .int (nI d9)), (15, .int (S 12 0)), (14, .int (kk_nextR S)), (9, .int (pl_last S)), (0, .ref (ad 0))] := by rw [hc9] at hl; exact hl
                      refine lv_iload hx hb dL_lives_899 (lv_at hl 0 rfl) ?_
                      refine lv_bipush (v := 8) hx hb dL_lives_901 (by decide) ?_
                      refine lv_icmp_ge (tgt := 943) hx hb dL_lives_903 (by decide) (fun c_10 => ?_) (fun c_10 => absurd (nI_le (a := 8) (b := u) (by omega) (by omega)) c_10)
                      refine lv_aload_n hx hb dL_lives_943 rfl (lv_at hl 7 rfl) ?_
                      refine fk_callV (As := []) (rest := []) ⟨hx, hb, hml, hown, hts⟩ (kc_now l D ad cI cT cJ _ (kk_tick S (nI d9))) (cwV 0 hts gL_lives_X2_now rfl rfl rfl (by decide +kernel) ⟨Nat.le_of_ble_eq_true rfl, Nat.le_of_ble_eq_true rfl⟩) (fk_rvK hK hP) hK hP hD hS hA rfl hl.1 rfl (Nat.le_of_ble_eq_true rfl) dL_lives_944 ⟨Nat.le_of_ble_eq_true rfl, Nat.le_of_ble_eq_true rfl⟩ (fun H locs hP hD hS => ?_)
                      refine W.eq (g2 := F0 m 947 ls [.int ((kk_tick S (nI d9)) 12 0)]) rfl ?_
                      refine W.eq (g2 := F0 m 947 ls [.int ((S 12 0) + (nI d9))]) (by rw [show ((kk_tick S (nI d9)) 12 0) = ((S 12 0) + (nI d9)) from hT1]) ?_
                      refine lv_iload hx hb dL_lives_947 (lv_at hl 4 rfl) ?_
                      refine lv_iload hx hb dL_lives_949 (lv_at hl 3 rfl) ?_
                      refine lv_iadd hx hb dL_lives_951 ?_
                      refine lv_icmp_ne (tgt := 1024) hx hb dL_lives_952 (by decide) (fun c => absurd rfl c) (fun _ => ?_)
                      refine lv_iload hx hb dL_lives_955 (lv_at hl 2 rfl) ?_
                      refine lv_iload hx hb dL_lives_957 (lv_at hl 1 rfl) ?_
                      refine lv_icmp_ne (tgt := 1024) hx hb dL_lives_959 (by decide) (fun c => absurd rfl c) (fun _ => ?_)
                      refine lv_iload hx hb dL_lives_962 (lv_at hl 5 rfl) ?_
                      refine lv_iconst (v := (-1)) hx hb dL_lives_964 (by decide) ?_
                      refine lv_icmp_eq (tgt := 975) hx hb dL_lives_965 (by decide) (fun c_11 => ?_) (fun c_11 => ?_)
                      · refine lv_iconst (v := 1) hx hb dL_lives_975 (by decide) ?_
                        refine lv_goto (tgt := 980) hx hb dL_lives_976 (by decide) ?_
                        refine lv_iload hx hb dL_lives_980 (lv_at hl 2 rfl) ?_
                        refine lv_if_ne (tgt := 989) hx hb dL_lives_982 (by decide) (fun c_12 => absurd c_12 (fun h9 => h9 (by rw [hiff.mp (Or.inl c_11)]; rfl))) (fun c_12 => ?_)
                        refine lv_iconst (v := 1) hx hb dL_lives_985 (by decide) ?_
                        refine lv_goto (tgt := 990) hx hb dL_lives_986 (by decide) ?_
                        refine lv_icmp_ne (tgt := 1024) hx hb dL_lives_990 (by decide) (fun c => absurd c (by decide)) (fun _ => ?_)
                        have hm0 : m9 = 0 := hiff.mp (Or.inl c_11)
                        have hl : lv_has ls 20 [(19, .int (nI u)), (18, .int 0), (17, .int 0), (16, .int (nI d9)), (15, .int (S 12 0)), (14, .int (kk_nextR S)), (9, .int (pl_last S)), (0, .ref (ad 0))] := by rw [hm0] at hl; exact hl
                        refine lv_iload hx hb dL_lives_993 (lv_at hl 2 rfl) ?_
                        refine lv_if_gt (tgt := 1020) hx hb dL_lives_995 (by decide) (fun c => absurd c (by decide)) (fun _ => ?_)
                        refine lv_aload_n hx hb dL_lives_998 rfl (lv_at hl 7 rfl) ?_
                        refine fk_callV (As := []) (rest := []) ⟨hx, hb, hml, hown, hts⟩ (kc_nextTimeout l D ad cI cT cJ _ (kk_tick S (nI d9))) (cwV 0 hts gL_lives_X2_nextTimeout rfl rfl rfl (by decide +kernel) ⟨Nat.le_of_ble_eq_true rfl, Nat.le_of_ble_eq_true rfl⟩) (fk_rvK hK hP) hK hP hD hS hA rfl hl.1 rfl (Nat.le_of_ble_eq_true rfl) dL_lives_999 ⟨Nat.le_of_ble_eq_true rfl, Nat.le_of_ble_eq_true rfl⟩ (fun H locs hP hD hS => ?_)
                        refine W.eq (g2 := F0 m 1002 ls [.int (kk_nextR (kk_tick S (nI d9)))]) rfl ?_
                        refine W.eq (g2 := F0 m 1002 ls [.int (-1)]) (by rw [show (kk_nextR (kk_tick S (nI d9))) = ((-1) : Int32) from (by rw [hnx hm0, if_pos c_11])]) ?_
                        refine lv_iload hx hb dL_lives_1002 (lv_at hl 5 rfl) ?_
                        refine lv_iconst (v := (-1)) hx hb dL_lives_1004 (by decide) ?_
                        refine lv_icmp_ne (tgt := 1012) hx hb dL_lives_1005 (by decide) (fun c_15 => absurd c_15 (fun h9 => h9 c_11)) (fun c_15 => ?_)
                        refine lv_iconst (v := (-1)) hx hb dL_lives_1008 (by decide) ?_
                        refine lv_goto (tgt := 1017) hx hb dL_lives_1009 (by decide) ?_
                        refine lv_icmp_ne (tgt := 1024) hx hb dL_lives_1017 (by decide) (fun c => absurd c (by decide)) (fun _ => ?_)
                        refine lv_iconst (v := 1) hx hb dL_lives_1020 (by decide) ?_
                        refine lv_goto (tgt := 1025) hx hb dL_lives_1021 (by decide) ?_
                        exact fk_zretE (Nat.le_of_ble_eq_true rfl) (Nat.le_of_ble_eq_true rfl) hx hb hr hlocks hP hK hD hS rfl ⟨rfl, _, _, rfl, (hG1).wk (by omega)⟩ dL_lives_1025
                      · refine lv_iload hx hb dL_lives_968 (lv_at hl 5 rfl) ?_
                        refine lv_iload hx hb dL_lives_970 (lv_at hl 3 rfl) ?_
                        refine lv_icmp_le (tgt := 979) hx hb dL_lives_972 (by decide) (fun c_17 => ?_) (fun c_17 => ?_)
                        · refine lv_iconst (v := 0) hx hb dL_lives_979 (by decide) ?_
                          refine lv_iload hx hb dL_lives_980 (lv_at hl 2 rfl) ?_
                          refine lv_if_ne (tgt := 989) hx hb dL_lives_982 (by decide) (fun c_18 => ?_) (fun c9 => (hiff.mpr ((nI_eq (a := m9) (b := 0) (by omega) (by omega)).mp c9)).elim (fun w => absurd w c_11) (fun w => absurd w (Int32.not_lt.mpr c_17)))
                          refine lv_iconst (v := 0) hx hb dL_lives_989 (by decide) ?_
                          refine lv_icmp_ne (tgt := 1024) hx hb dL_lives_990 (by decide) (fun c => absurd c (by decide)) (fun _ => ?_)
                          have hm1 : 0 < m9 := Nat.pos_of_ne_zero (fun z => c_18 (by rw [z]; rfl))
                          refine lv_iload hx hb dL_lives_993 (lv_at hl 2 rfl) ?_
                          refine lv_if_gt (tgt := 1020) hx hb dL_lives_995 (by decide) (fun c_20 => ?_) (fun c9 => absurd (nI_lt (a := 0) (b := m9) hm1 (by omega)) c9)
                          refine lv_iconst (v := 1) hx hb dL_lives_1020 (by decide) ?_
                          refine lv_goto (tgt := 1025) hx hb dL_lives_1021 (by decide) ?_
                          exact fk_zretE (Nat.le_of_ble_eq_true rfl) (Nat.le_of_ble_eq_true rfl) hx hb hr hlocks hP hK hD hS rfl ⟨rfl, _, _, rfl, (hG1).wk (by omega)⟩ dL_lives_1025
                        · refine lv_iconst (v := 1) hx hb dL_lives_975 (by decide) ?_
                          refine lv_goto (tgt := 980) hx hb dL_lives_976 (by decide) ?_
                          refine lv_iload hx hb dL_lives_980 (lv_at hl 2 rfl) ?_
                          refine lv_if_ne (tgt := 989) hx hb dL_lives_982 (by decide) (fun c_21 => absurd c_21 (fun h9 => h9 (by rw [hiff.mp (Or.inr (Int32.not_le.mp c_17))]; rfl))) (fun c_21 => ?_)
                          refine lv_iconst (v := 1) hx hb dL_lives_985 (by decide) ?_
                          refine lv_goto (tgt := 990) hx hb dL_lives_986 (by decide) ?_
                          refine lv_icmp_ne (tgt := 1024) hx hb dL_lives_990 (by decide) (fun c => absurd c (by decide)) (fun _ => ?_)
                          have hm0 : m9 = 0 := hiff.mp (Or.inr (Int32.not_le.mp c_17))
                          have hl : lv_has ls 20 [(19, .int (nI u)), (18, .int 0), (17, .int 0), (16, .int (nI d9)), (15, .int (S 12 0)), (14, .int (kk_nextR S)), (9, .int (pl_last S)), (0, .ref (ad 0))] := by rw [hm0] at hl; exact hl
                          refine lv_iload hx hb dL_lives_993 (lv_at hl 2 rfl) ?_
                          refine lv_if_gt (tgt := 1020) hx hb dL_lives_995 (by decide) (fun c => absurd c (by decide)) (fun _ => ?_)
                          refine lv_aload_n hx hb dL_lives_998 rfl (lv_at hl 7 rfl) ?_
                          refine fk_callV (As := []) (rest := []) ⟨hx, hb, hml, hown, hts⟩ (kc_nextTimeout l D ad cI cT cJ _ (kk_tick S (nI d9))) (cwV 0 hts gL_lives_X2_nextTimeout rfl rfl rfl (by decide +kernel) ⟨Nat.le_of_ble_eq_true rfl, Nat.le_of_ble_eq_true rfl⟩) (fk_rvK hK hP) hK hP hD hS hA rfl hl.1 rfl (Nat.le_of_ble_eq_true rfl) dL_lives_999 ⟨Nat.le_of_ble_eq_true rfl, Nat.le_of_ble_eq_true rfl⟩ (fun H locs hP hD hS => ?_)
                          refine W.eq (g2 := F0 m 1002 ls [.int (kk_nextR (kk_tick S (nI d9)))]) rfl ?_
                          refine W.eq (g2 := F0 m 1002 ls [.int ((kk_nextR S) - (nI d9))]) (by rw [show (kk_nextR (kk_tick S (nI d9))) = ((kk_nextR S) - (nI d9)) from (by rw [hnx hm0, if_neg c_11])]) ?_
                          refine lv_iload hx hb dL_lives_1002 (lv_at hl 5 rfl) ?_
                          refine lv_iconst (v := (-1)) hx hb dL_lives_1004 (by decide) ?_
                          refine lv_icmp_ne (tgt := 1012) hx hb dL_lives_1005 (by decide) (fun c_24 => ?_) (fun c9 => absurd c9 c_11)
                          refine lv_iload hx hb dL_lives_1012 (lv_at hl 5 rfl) ?_
                          refine lv_iload hx hb dL_lives_1014 (lv_at hl 3 rfl) ?_
                          refine lv_isub hx hb dL_lives_1016 ?_
                          refine lv_icmp_ne (tgt := 1024) hx hb dL_lives_1017 (by decide) (fun c => absurd rfl c) (fun _ => ?_)
                          refine lv_iconst (v := 1) hx hb dL_lives_1020 (by decide) ?_
                          refine lv_goto (tgt := 1025) hx hb dL_lives_1021 (by decide) ?_
                          exact fk_zretE (Nat.le_of_ble_eq_true rfl) (Nat.le_of_ble_eq_true rfl) hx hb hr hlocks hP hK hD hS rfl ⟨rfl, _, _, rfl, (hG1).wk (by omega)⟩ dL_lives_1025
                    | succ n1 ih1 =>
                      intro u k hu9 hc H locs ls hP hD hS hl
                      refine lv_iload hx hb dL_lives_899 (lv_at hl 0 rfl) ?_
                      refine lv_bipush (v := 8) hx hb dL_lives_901 (by decide) ?_
                      refine lv_icmp_ge (tgt := 943) hx hb dL_lives_903 (by decide) (fun c_25 => absurd c_25 (nI_ge (a := u) (b := 8) (by omega) (by omega))) (fun c_25 => ?_)
                      refine lv_iload hx hb dL_lives_906 (lv_at hl 1 rfl) ?_
                      refine lv_aload_n hx hb dL_lives_908 rfl (lv_at hl 7 rfl) ?_
                      refine lv_iload hx hb dL_lives_909 (lv_at hl 0 rfl) ?_
                      refine fk_callV (As := [.int (nI u)]) (rest := [.int (nI k)]) ⟨hx, hb, hml, hown, hts⟩ (kc_serialOf l D ad cI cT cJ _ (kk_tick S (nI d9)) u (by omega)) (cwV 1 hts gL_lives_X2_serialOf rfl rfl rfl (by decide +kernel) ⟨Nat.le_of_ble_eq_true rfl, Nat.le_of_ble_eq_true rfl⟩) (fk_rvK hK hP) hK hP hD hS hA rfl hl.1 rfl (Nat.le_of_ble_eq_true rfl) dL_lives_911 ⟨Nat.le_of_ble_eq_true rfl, Nat.le_of_ble_eq_true rfl⟩ (fun H locs hP hD hS => ?_)
                      refine W.eq (g2 := F0 m 914 ls [.int ((kk_tick S (nI d9)) 9 u), .int (nI k)]) rfl ?_
                      refine lv_iload hx hb dL_lives_914 (lv_at hl 6 rfl) ?_
                      refine lv_icmp_le (tgt := 933) hx hb dL_lives_916 (by decide) (fun c_26 => ?_) (fun c_26 => ?_)
                      · refine lv_iconst (v := 0) hx hb dL_lives_933 (by decide) ?_
                        refine lv_iadd hx hb dL_lives_934 ?_
                        refine W.eq (g2 := F0 m 935 ls [.int (nI k)]) (by rw [show (0 : Int32) = nI 0 from rfl, nI_add]; rfl) ?_
                        refine lv_istore (lv' := [(18, .int (nI k)), (19, .int (nI u)), (17, .int (nI m9)), (16, .int (nI d9)), (15, .int (S 12 0)), (14, .int (kk_nextR S)), (9, .int (pl_last S)), (0, .ref (ad 0))]) hx hb dL_lives_935 hl (by decide) rfl (fun ls hl => ?_)
                        refine lv_iinc (v := (nI (u + 1))) (lv' := [(19, .int (nI (u + 1))), (18, .int (nI k)), (17, .int (nI m9)), (16, .int (nI d9)), (15, .int (S 12 0)), (14, .int (kk_nextR S)), (9, .int (pl_last S)), (0, .ref (ad 0))]) hx hb dL_lives_937 hl (k := 1) rfl (nI_1 u) (by decide) rfl (fun ls hl => ?_)
                        refine lv_goto (tgt := 899) hx hb dL_lives_940 (by decide) ?_
                        exact ih1 (u + 1) k (by omega) (by simp only [pl_cn] at hc; first | (rw [if_pos ⟨Int32.not_le.mp c_26, c_26⟩] at hc; exact hc) | (rw [if_neg (fun z => absurd z.1 (Int32.not_lt.mpr c_26))] at hc; exact hc) | (rw [if_neg (fun z => absurd z.2 c_26)] at hc; exact hc)) _ _ _ hP hD hS (lv_sub hl [0, 1, 2, 3, 4, 5, 6, 7] rfl)
                      · refine lv_aload_n hx hb dL_lives_919 rfl (lv_at hl 7 rfl) ?_
                        refine lv_iload hx hb dL_lives_920 (lv_at hl 0 rfl) ?_
                        refine fk_callV (As := [.int (nI u)]) (rest := [.int (nI k)]) ⟨hx, hb, hml, hown, hts⟩ (kc_resultOf l D ad cI cT cJ _ (kk_tick S (nI d9)) u (by omega)) (cwV 1 hts gL_lives_X2_resultOf rfl rfl rfl (by decide +kernel) ⟨Nat.le_of_ble_eq_true rfl, Nat.le_of_ble_eq_true rfl⟩) (fk_rvK hK hP) hK hP hD hS hA rfl hl.1 rfl (Nat.le_of_ble_eq_true rfl) dL_lives_922 ⟨Nat.le_of_ble_eq_true rfl, Nat.le_of_ble_eq_true rfl⟩ (fun H locs hP hD hS => ?_)
                        refine W.eq (g2 := F0 m 925 ls [.int ((kk_tick S (nI d9)) 8 u), .int (nI k)]) rfl ?_
                        refine lv_iconst (v := 1) hx hb dL_lives_925 (by decide) ?_
                        refine lv_icmp_ne (tgt := 933) hx hb dL_lives_926 (by decide) (fun c_27 => ?_) (fun c_27 => ?_)
                        · refine lv_iconst (v := 0) hx hb dL_lives_933 (by decide) ?_
                          refine lv_iadd hx hb dL_lives_934 ?_
                          refine W.eq (g2 := F0 m 935 ls [.int (nI k)]) (by rw [show (0 : Int32) = nI 0 from rfl, nI_add]; rfl) ?_
                          refine lv_istore (lv' := [(18, .int (nI k)), (19, .int (nI u)), (17, .int (nI m9)), (16, .int (nI d9)), (15, .int (S 12 0)), (14, .int (kk_nextR S)), (9, .int (pl_last S)), (0, .ref (ad 0))]) hx hb dL_lives_935 hl (by decide) rfl (fun ls hl => ?_)
                          refine lv_iinc (v := (nI (u + 1))) (lv' := [(19, .int (nI (u + 1))), (18, .int (nI k)), (17, .int (nI m9)), (16, .int (nI d9)), (15, .int (S 12 0)), (14, .int (kk_nextR S)), (9, .int (pl_last S)), (0, .ref (ad 0))]) hx hb dL_lives_937 hl (k := 1) rfl (nI_1 u) (by decide) rfl (fun ls hl => ?_)
                          refine lv_goto (tgt := 899) hx hb dL_lives_940 (by decide) ?_
                          exact ih1 (u + 1) k (by omega) (by simp only [pl_cn] at hc; first | (rw [if_pos ⟨Int32.not_le.mp c_26, c_27⟩] at hc; exact hc) | (rw [if_neg (fun z => absurd z.1 (Int32.not_lt.mpr c_26))] at hc; exact hc) | (rw [if_neg (fun z => absurd z.2 c_27)] at hc; exact hc)) _ _ _ hP hD hS (lv_sub hl [0, 1, 2, 3, 4, 5, 6, 7] rfl)
                        · refine lv_iconst (v := 1) hx hb dL_lives_929 (by decide) ?_
                          refine lv_goto (tgt := 934) hx hb dL_lives_930 (by decide) ?_
                          refine lv_iadd hx hb dL_lives_934 ?_
                          refine W.eq (g2 := F0 m 935 ls [.int (nI (k + 1))]) (by rw [nI_1]) ?_
                          refine lv_istore (lv' := [(18, .int (nI (k + 1))), (19, .int (nI u)), (17, .int (nI m9)), (16, .int (nI d9)), (15, .int (S 12 0)), (14, .int (kk_nextR S)), (9, .int (pl_last S)), (0, .ref (ad 0))]) hx hb dL_lives_935 hl (by decide) rfl (fun ls hl => ?_)
                          refine lv_iinc (v := (nI (u + 1))) (lv' := [(19, .int (nI (u + 1))), (18, .int (nI (k + 1))), (17, .int (nI m9)), (16, .int (nI d9)), (15, .int (S 12 0)), (14, .int (kk_nextR S)), (9, .int (pl_last S)), (0, .ref (ad 0))]) hx hb dL_lives_937 hl (k := 1) rfl (nI_1 u) (by decide) rfl (fun ls hl => ?_)
                          refine lv_goto (tgt := 899) hx hb dL_lives_940 (by decide) ?_
                          exact ih1 (u + 1) (k + 1) (by omega) (by simp only [pl_cn] at hc; first | (rw [if_pos ⟨Int32.not_le.mp c_26, c_27⟩] at hc; exact hc) | (rw [if_neg (fun z => absurd z.1 (Int32.not_lt.mpr c_26))] at hc; exact hc) | (rw [if_neg (fun z => absurd z.2 c_27)] at hc; exact hc)) _ _ _ hP hD hS (lv_sub hl [0, 1, 2, 3, 4, 5, 6, 7] rfl)
                  exact loop1 8 0 0 rfl (by rw [pl_cn_eq, Nat.zero_add, ← hcnt, List.range_eq_range']) _ _ _ hP hD hS (lv_sub hl [0, 1, 2, 3, 4, 5, 8, 14] rfl)
                · refine lv_iload_n hx hb dL_lives_820 rfl (lv_at hl 12 rfl) ?_
                  refine lv_bipush (v := 6) hx hb dL_lives_821 (by decide) ?_
                  refine lv_ishr hx hb dL_lives_823 ?_
                  refine lv_iconst (v := 2) hx hb dL_lives_824 (by decide) ?_
                  refine fk_callS (As := [.int (y >>> (6 &&& 31)), .int 2]) (rest := []) ⟨hx, hb, hml, hown, hts⟩ (kl_some l D ad cI cT cJ _ S (y >>> (6 &&& 31)) 2 (by decide)) (va_cwS 2 hts gL_lives_L_some rfl rfl rfl (by decide +kernel) ⟨Nat.le_of_ble_eq_true rfl, Nat.le_of_ble_eq_true rfl⟩) hK hP hD hS hA rfl hl.1 rfl (Nat.le_of_ble_eq_true rfl) dL_lives_825 ⟨Nat.le_of_ble_eq_true rfl, Nat.le_of_ble_eq_true rfl⟩ (fun H locs hP hD hS => ?_)
                  refine W.eq (g2 := F0 m 828 ls [.int (pl_some (y >>> (6 &&& 31)) 2)]) rfl ?_
                  refine lv_if_ne (tgt := 837) hx hb dL_lives_828 (by decide) (fun c_28 => ?_) (fun c_28 => ?_)
                  · refine lv_iconst (v := 0) hx hb dL_lives_837 (by decide) ?_
                    refine lv_goto (tgt := 851) hx hb dL_lives_838 (by decide) ?_
                    refine lv_istore (lv' := [(16, .int 0), (15, .int (S 12 0)), (14, .int (kk_nextR S)), (12, .long (pl_thr S (nI t))), (10, .long (pl_thr S (-1))), (9, .int (pl_last S)), (8, .int (S 3 t)), (7, .int (S 1 t)), (6, .int 0), (5, .int (nI t)), (4, .int (pl_some y 12)), (0, .ref (ad 0)), (1, .ref q), (2, .int y), (3, .int od)]) hx hb dL_lives_851 hl (by decide) rfl (fun ls hl => ?_)
                    refine lv_aload_n hx hb dL_lives_853 rfl (lv_at hl 11 rfl) ?_
                    refine lv_iconst (v := 5) hx hb dL_lives_854 (by decide) ?_
                    refine lv_iload hx hb dL_lives_855 (lv_at hl 0 rfl) ?_
                    refine lv_iconst (v := 0) hx hb dL_lives_857 (by decide) ?_
                    refine lv_iconst (v := 0) hx hb dL_lives_858 (by decide) ?_
                    refine lv_iconst (v := 0) hx hb dL_lives_859 (by decide) ?_
                    refine fk_lcallS (As := [.ref (ad 0), .int 5, .int 0, .int 0, .int 0, .int 0]) (rest := []) ⟨hx, hb, hml, hown, hts⟩ (Lx_tick_IA l D ad cI cT cJ _ S _ _ _ _ (fun X => kx_tick_1 l D ad cI cT cJ X S hst _ (by decide))) (vx_cwSW 6 hts gL_lives_L_acts rfl rfl rfl (by decide +kernel) ⟨Nat.le_of_ble_eq_true rfl, Nat.le_of_ble_eq_true rfl⟩) hK hP hD hS hA hZ hN rfl hl.1 rfl (Nat.le_of_ble_eq_true rfl) dL_lives_860 ⟨Nat.le_of_ble_eq_true rfl, Nat.le_of_ble_eq_true rfl⟩ (fun H locs hP hD hS => ?_)
                    refine W.eq (g2 := F0 m 863 ls [.int (-2147483202)]) rfl ?_
                    refine lv_istore (lv' := [(17, .int (-2147483202)), (16, .int 0), (15, .int (S 12 0)), (14, .int (kk_nextR S)), (12, .long (pl_thr S (nI t))), (10, .long (pl_thr S (-1))), (9, .int (pl_last S)), (8, .int (S 3 t)), (7, .int (S 1 t)), (6, .int 0), (5, .int (nI t)), (4, .int (pl_some y 12)), (0, .ref (ad 0)), (1, .ref q), (2, .int y), (3, .int od)]) hx hb dL_lives_863 hl (by decide) rfl (fun ls hl => ?_)
                    refine lv_iload_n hx hb dL_lives_865 rfl (lv_at hl 15 rfl) ?_
                    refine lv_if_eq (tgt := 893) hx hb dL_lives_866 (by decide) (fun c_29 => absurd c_29 c_8) (fun c_29 => ?_)
                    refine lv_iload hx hb dL_lives_869 (lv_at hl 0 rfl) ?_
                    refine lv_ldc (own := RL) (v := (-2147483202)) hx hb hown (hts (.constant RL 20 (-2147483202)) (List.mem_of_getElem? (i := 3) rfl)) dL_lives_871 ?_
                    refine lv_icmp_ne (tgt := 891) hx hb dL_lives_873 (by decide) (fun c => absurd c (by decide)) (fun _ => ?_)
                    refine lv_aload_n hx hb dL_lives_876 rfl (lv_at hl 12 rfl) ?_
                    refine lv_iconst (v := (-1)) hx hb dL_lives_877 (by decide) ?_
                    refine fk_callS (As := [.ref (ad 0), .int (-1)]) (rest := []) ⟨hx, hb, hml, hown, hts⟩ (kl_threads l D ad cI cT cJ _ S hG.1.sz hG.1.J (-1)) (va_cwS 2 hts gL_lives_L_threads rfl rfl rfl (by decide +kernel) ⟨Nat.le_of_ble_eq_true rfl, Nat.le_of_ble_eq_true rfl⟩) hK hP hD hS hA rfl hl.1 rfl (Nat.le_of_ble_eq_true rfl) dL_lives_878 ⟨Nat.le_of_ble_eq_true rfl, Nat.le_of_ble_eq_true rfl⟩ (fun H locs hP hD hS => ?_)
                    refine W.eq (g2 := F0 m 881 ls [.long (pl_thr S (-1))]) rfl ?_
                    refine lv_lload hx hb dL_lives_881 (lv_at hl 5 rfl) ?_
                    refine W.lcmp hx hb dL_lives_883 ?_
                    refine W.eq (g2 := F0 m 884 ls [.int 0]) (by rw [fk_cmp_self]) ?_
                    refine lv_if_ne (tgt := 891) hx hb dL_lives_884 (by decide) (fun c => absurd c (by decide)) (fun _ => ?_)
                    refine lv_iconst (v := 1) hx hb dL_lives_887 (by decide) ?_
                    refine lv_goto (tgt := 892) hx hb dL_lives_888 (by decide) ?_
                    exact fk_zretE (Nat.le_of_ble_eq_true rfl) (Nat.le_of_ble_eq_true rfl) hx hb hr hlocks hP hK hD hS rfl ⟨rfl, _, _, rfl, (hG).wk (by omega)⟩ dL_lives_892
                  · refine lv_sipush (v := 1001) hx hb dL_lives_831 (by decide) ?_
                    refine lv_goto (tgt := 851) hx hb dL_lives_834 (by decide) ?_
                    refine lv_istore (lv' := [(16, .int 1001), (15, .int (S 12 0)), (14, .int (kk_nextR S)), (12, .long (pl_thr S (nI t))), (10, .long (pl_thr S (-1))), (9, .int (pl_last S)), (8, .int (S 3 t)), (7, .int (S 1 t)), (6, .int 0), (5, .int (nI t)), (4, .int (pl_some y 12)), (0, .ref (ad 0)), (1, .ref q), (2, .int y), (3, .int od)]) hx hb dL_lives_851 hl (by decide) rfl (fun ls hl => ?_)
                    refine lv_aload_n hx hb dL_lives_853 rfl (lv_at hl 11 rfl) ?_
                    refine lv_iconst (v := 5) hx hb dL_lives_854 (by decide) ?_
                    refine lv_iload hx hb dL_lives_855 (lv_at hl 0 rfl) ?_
                    refine lv_iconst (v := 0) hx hb dL_lives_857 (by decide) ?_
                    refine lv_iconst (v := 0) hx hb dL_lives_858 (by decide) ?_
                    refine lv_iconst (v := 0) hx hb dL_lives_859 (by decide) ?_
                    refine fk_lcallS (As := [.ref (ad 0), .int 5, .int 1001, .int 0, .int 0, .int 0]) (rest := []) ⟨hx, hb, hml, hown, hts⟩ (Lx_tick_IA l D ad cI cT cJ _ S _ _ _ _ (fun X => kx_tick_1 l D ad cI cT cJ X S hst _ (by decide))) (vx_cwSW 6 hts gL_lives_L_acts rfl rfl rfl (by decide +kernel) ⟨Nat.le_of_ble_eq_true rfl, Nat.le_of_ble_eq_true rfl⟩) hK hP hD hS hA hZ hN rfl hl.1 rfl (Nat.le_of_ble_eq_true rfl) dL_lives_860 ⟨Nat.le_of_ble_eq_true rfl, Nat.le_of_ble_eq_true rfl⟩ (fun H locs hP hD hS => ?_)
                    refine W.eq (g2 := F0 m 863 ls [.int (-2147483202)]) rfl ?_
                    refine lv_istore (lv' := [(17, .int (-2147483202)), (16, .int 1001), (15, .int (S 12 0)), (14, .int (kk_nextR S)), (12, .long (pl_thr S (nI t))), (10, .long (pl_thr S (-1))), (9, .int (pl_last S)), (8, .int (S 3 t)), (7, .int (S 1 t)), (6, .int 0), (5, .int (nI t)), (4, .int (pl_some y 12)), (0, .ref (ad 0)), (1, .ref q), (2, .int y), (3, .int od)]) hx hb dL_lives_863 hl (by decide) rfl (fun ls hl => ?_)
                    refine lv_iload_n hx hb dL_lives_865 rfl (lv_at hl 15 rfl) ?_
                    refine lv_if_eq (tgt := 893) hx hb dL_lives_866 (by decide) (fun c_32 => absurd c_32 c_8) (fun c_32 => ?_)
                    refine lv_iload hx hb dL_lives_869 (lv_at hl 0 rfl) ?_
                    refine lv_ldc (own := RL) (v := (-2147483202)) hx hb hown (hts (.constant RL 20 (-2147483202)) (List.mem_of_getElem? (i := 3) rfl)) dL_lives_871 ?_
                    refine lv_icmp_ne (tgt := 891) hx hb dL_lives_873 (by decide) (fun c => absurd c (by decide)) (fun _ => ?_)
                    refine lv_aload_n hx hb dL_lives_876 rfl (lv_at hl 12 rfl) ?_
                    refine lv_iconst (v := (-1)) hx hb dL_lives_877 (by decide) ?_
                    refine fk_callS (As := [.ref (ad 0), .int (-1)]) (rest := []) ⟨hx, hb, hml, hown, hts⟩ (kl_threads l D ad cI cT cJ _ S hG.1.sz hG.1.J (-1)) (va_cwS 2 hts gL_lives_L_threads rfl rfl rfl (by decide +kernel) ⟨Nat.le_of_ble_eq_true rfl, Nat.le_of_ble_eq_true rfl⟩) hK hP hD hS hA rfl hl.1 rfl (Nat.le_of_ble_eq_true rfl) dL_lives_878 ⟨Nat.le_of_ble_eq_true rfl, Nat.le_of_ble_eq_true rfl⟩ (fun H locs hP hD hS => ?_)
                    refine W.eq (g2 := F0 m 881 ls [.long (pl_thr S (-1))]) rfl ?_
                    refine lv_lload hx hb dL_lives_881 (lv_at hl 5 rfl) ?_
                    refine W.lcmp hx hb dL_lives_883 ?_
                    refine W.eq (g2 := F0 m 884 ls [.int 0]) (by rw [fk_cmp_self]) ?_
                    refine lv_if_ne (tgt := 891) hx hb dL_lives_884 (by decide) (fun c => absurd c (by decide)) (fun _ => ?_)
                    refine lv_iconst (v := 1) hx hb dL_lives_887 (by decide) ?_
                    refine lv_goto (tgt := 892) hx hb dL_lives_888 (by decide) ?_
                    exact fk_zretE (Nat.le_of_ble_eq_true rfl) (Nat.le_of_ble_eq_true rfl) hx hb hr hlocks hP hK hD hS rfl ⟨rfl, _, _, rfl, (hG).wk (by omega)⟩ dL_lives_892
              · by_cases hs : S 1 t = 3
                · have hl : lv_has ls 20 [(12, .long (pl_thr S (nI t))), (10, .long (pl_thr S (-1))), (9, .int (pl_last S)), (8, .int (S 3 t)), (7, .int 3), (6, .int 0), (5, .int (nI t)), (4, .int (pl_some y 12)), (0, .ref (ad 0)), (1, .ref q), (2, .int y), (3, .int od)] := by rw [hs] at hl; exact hl
                  refine lv_aload_n hx hb dL_lives_690 rfl (lv_at hl 8 rfl) ?_
                  refine lv_bipush (v := 7) hx hb dL_lives_691 (by decide) ?_
                  refine lv_iload hx hb dL_lives_693 (lv_at hl 6 rfl) ?_
                  refine lv_iconst (v := 0) hx hb dL_lives_695 (by decide) ?_
                  refine lv_iconst (v := 0) hx hb dL_lives_696 (by decide) ?_
                  refine lv_iconst (v := 0) hx hb dL_lives_697 (by decide) ?_
                  have hG1 := hG.start ht hs
                  refine fk_lcallS (As := [.ref (ad 0), .int 7, .int (nI t), .int 0, .int 0, .int 0]) (rest := []) ⟨hx, hb, hml, hown, hts⟩ (Lc_start l D ad cI cT cJ _ S _ _ _ _ (kk_start S t) (fun X => kl_starts7 l D ad cI cT cJ X S _ (kk_start S t) (fun X => kc_start l D ad cI cT cJ X S t ht hs))) (vx_cwSW 6 hts gL_lives_L_acts rfl rfl rfl (by decide +kernel) ⟨Nat.le_of_ble_eq_true rfl, Nat.le_of_ble_eq_true rfl⟩) hK hP hD hS hA hZ hN rfl hl.1 rfl (Nat.le_of_ble_eq_true rfl) dL_lives_698 ⟨Nat.le_of_ble_eq_true rfl, Nat.le_of_ble_eq_true rfl⟩ (fun H locs hP hD hS => ?_)
                  refine W.eq (g2 := F0 m 701 ls [.int 0]) rfl ?_
                  refine lv_istore (lv' := [(14, .int 0), (12, .long (pl_thr S (nI t))), (10, .long (pl_thr S (-1))), (9, .int (pl_last S)), (8, .int (S 3 t)), (7, .int 3), (6, .int 0), (5, .int (nI t)), (4, .int (pl_some y 12)), (0, .ref (ad 0)), (1, .ref q), (2, .int y), (3, .int od)]) hx hb dL_lives_701 hl (by decide) rfl (fun ls hl => ?_)
                  refine lv_iload hx hb dL_lives_703 (lv_at hl 6 rfl) ?_
                  refine lv_if_ne (tgt := 714) hx hb dL_lives_705 (by decide) (fun c => absurd c (by decide)) (fun _ => ?_)
                  refine lv_iload hx hb dL_lives_708 (lv_at hl 5 rfl) ?_
                  refine lv_iconst (v := 3) hx hb dL_lives_710 (by decide) ?_
                  refine lv_icmp_eq (tgt := 748) hx hb dL_lives_711 (by decide) (fun _ => ?_) (fun c => absurd c (by decide))
                  refine lv_aload_n hx hb dL_lives_748 rfl (lv_at hl 10 rfl) ?_
                  refine lv_iload hx hb dL_lives_749 (lv_at hl 7 rfl) ?_
                  refine lv_iconst (v := 0) hx hb dL_lives_751 (by decide) ?_
                  refine va_iast hx hb hK hP hD hS 27 0 fk_at27 rfl (vp_in_nI (show t < 16 from (by omega)) (by decide)) dL_lives_752 (fun H locs hP hD hS => ?_)
                  have hP : va_P D vwCl (fk_kW ad cI cT (kk_start S t) ++ (q, fk_pr cI (upd P t 0)) :: X) H := by rw [fk_set27, nI_clamp (by omega)] at hP; exact hP
                  have hD : va_D A (fk_kW ad cI cT (kk_start S t) ++ (q, fk_pr cI (upd P t 0)) :: X) := by rw [fk_set27, nI_clamp (by omega)] at hD; exact hD
                  refine W.eq (g2 := F0 m 753 ls []) rfl ?_
                  refine lv_iload hx hb dL_lives_753 (lv_at hl 0 rfl) ?_
                  refine lv_if_ne (tgt := 802) hx hb dL_lives_755 (by decide) (fun c => absurd c (by decide)) (fun _ => ?_)
                  refine lv_aload_n hx hb dL_lives_758 rfl (lv_at hl 9 rfl) ?_
                  refine lv_iload hx hb dL_lives_759 (lv_at hl 7 rfl) ?_
                  refine fk_callV (As := [.int (nI t)]) (rest := []) ⟨hx, hb, hml, hown, hts⟩ (kc_stateOf l D ad cI cT cJ _ (kk_start S t) t ht) (cwV 1 hts gL_lives_X2_stateOf rfl rfl rfl (by decide +kernel) ⟨Nat.le_of_ble_eq_true rfl, Nat.le_of_ble_eq_true rfl⟩) (fk_rvK hK hP) hK hP hD hS hA rfl hl.1 rfl (Nat.le_of_ble_eq_true rfl) dL_lives_761 ⟨Nat.le_of_ble_eq_true rfl, Nat.le_of_ble_eq_true rfl⟩ (fun H locs hP hD hS => ?_)
                  refine W.eq (g2 := F0 m 764 ls [.int ((kk_start S t) 1 t)]) rfl ?_
                  refine W.eq (g2 := F0 m 764 ls [.int 0]) (by rw [show ((kk_start S t) 1 t) = (0 : Int32) from kk_start_1]) ?_
                  refine lv_if_ne (tgt := 802) hx hb dL_lives_764 (by decide) (fun c => absurd c (by decide)) (fun _ => ?_)
                  refine lv_aload_n hx hb dL_lives_767 rfl (lv_at hl 9 rfl) ?_
                  refine lv_iload hx hb dL_lives_768 (lv_at hl 7 rfl) ?_
                  refine fk_callV (As := [.int (nI t)]) (rest := []) ⟨hx, hb, hml, hown, hts⟩ (kc_resultOf l D ad cI cT cJ _ (kk_start S t) t ht) (cwV 1 hts gL_lives_X2_resultOf rfl rfl rfl (by decide +kernel) ⟨Nat.le_of_ble_eq_true rfl, Nat.le_of_ble_eq_true rfl⟩) (fk_rvK hK hP) hK hP hD hS hA rfl hl.1 rfl (Nat.le_of_ble_eq_true rfl) dL_lives_770 ⟨Nat.le_of_ble_eq_true rfl, Nat.le_of_ble_eq_true rfl⟩ (fun H locs hP hD hS => ?_)
                  refine W.eq (g2 := F0 m 773 ls [.int ((kk_start S t) 8 t)]) rfl ?_
                  refine W.eq (g2 := F0 m 773 ls [.int (-1)]) (by rw [show ((kk_start S t) 8 t) = ((-1) : Int32) from kk_start_8]) ?_
                  refine lv_iconst (v := (-1)) hx hb dL_lives_773 (by decide) ?_
                  refine lv_icmp_ne (tgt := 802) hx hb dL_lives_774 (by decide) (fun c => absurd c (by decide)) (fun _ => ?_)
                  refine lv_aload_n hx hb dL_lives_777 rfl (lv_at hl 9 rfl) ?_
                  refine lv_iload hx hb dL_lives_778 (lv_at hl 7 rfl) ?_
                  refine fk_callV (As := [.int (nI t)]) (rest := []) ⟨hx, hb, hml, hown, hts⟩ (kc_serialOf l D ad cI cT cJ _ (kk_start S t) t ht) (cwV 1 hts gL_lives_X2_serialOf rfl rfl rfl (by decide +kernel) ⟨Nat.le_of_ble_eq_true rfl, Nat.le_of_ble_eq_true rfl⟩) (fk_rvK hK hP) hK hP hD hS hA rfl hl.1 rfl (Nat.le_of_ble_eq_true rfl) dL_lives_780 ⟨Nat.le_of_ble_eq_true rfl, Nat.le_of_ble_eq_true rfl⟩ (fun H locs hP hD hS => ?_)
                  refine W.eq (g2 := F0 m 783 ls [.int ((kk_start S t) 9 t)]) rfl ?_
                  refine W.eq (g2 := F0 m 783 ls [.int 0]) (by rw [show ((kk_start S t) 9 t) = (0 : Int32) from kk_start_9]) ?_
                  refine lv_if_ne (tgt := 802) hx hb dL_lives_783 (by decide) (fun c => absurd c (by decide)) (fun _ => ?_)
                  refine lv_aload_n hx hb dL_lives_786 rfl (lv_at hl 9 rfl) ?_
                  refine lv_iload hx hb dL_lives_787 (lv_at hl 7 rfl) ?_
                  refine fk_callS (As := [.ref (ad 0), .int (nI t)]) (rest := []) ⟨hx, hb, hml, hown, hts⟩ (kl_threads l D ad cI cT cJ _ (kk_start S t) hG1.1.sz hG1.1.J (nI t)) (va_cwS 2 hts gL_lives_L_threads rfl rfl rfl (by decide +kernel) ⟨Nat.le_of_ble_eq_true rfl, Nat.le_of_ble_eq_true rfl⟩) hK hP hD hS hA rfl hl.1 rfl (Nat.le_of_ble_eq_true rfl) dL_lives_789 ⟨Nat.le_of_ble_eq_true rfl, Nat.le_of_ble_eq_true rfl⟩ (fun H locs hP hD hS => ?_)
                  refine W.eq (g2 := F0 m 792 ls [.long (pl_thr (kk_start S t) (nI t))]) rfl ?_
                  refine W.eq (g2 := F0 m 792 ls [.long (pl_thr S (nI t))]) (by rw [show (pl_thr (kk_start S t) (nI t)) = (pl_thr S (nI t)) from (hG.1.thr hG1.1 kk_start_Off)]) ?_
                  refine lv_lload hx hb dL_lives_792 (lv_at hl 1 rfl) ?_
                  refine W.lcmp hx hb dL_lives_794 ?_
                  refine W.eq (g2 := F0 m 795 ls [.int 0]) (by rw [fk_cmp_self]) ?_
                  refine lv_if_ne (tgt := 802) hx hb dL_lives_795 (by decide) (fun c => absurd c (by decide)) (fun _ => ?_)
                  refine lv_iconst (v := 1) hx hb dL_lives_798 (by decide) ?_
                  refine lv_goto (tgt := 803) hx hb dL_lives_799 (by decide) ?_
                  exact fk_zretE (Nat.le_of_ble_eq_true rfl) (Nat.le_of_ble_eq_true rfl) hx hb hr hlocks hP hK hD hS rfl ⟨rfl, _, _, rfl, (hG1).wk (by omega)⟩ dL_lives_803
                · refine lv_aload_n hx hb dL_lives_690 rfl (lv_at hl 8 rfl) ?_
                  refine lv_bipush (v := 7) hx hb dL_lives_691 (by decide) ?_
                  refine lv_iload hx hb dL_lives_693 (lv_at hl 6 rfl) ?_
                  refine lv_iconst (v := 0) hx hb dL_lives_695 (by decide) ?_
                  refine lv_iconst (v := 0) hx hb dL_lives_696 (by decide) ?_
                  refine lv_iconst (v := 0) hx hb dL_lives_697 (by decide) ?_
                  refine fk_lcallS (As := [.ref (ad 0), .int 7, .int (nI t), .int 0, .int 0, .int 0]) (rest := []) ⟨hx, hb, hml, hown, hts⟩ (Lx_start_IS l D ad cI cT cJ _ S _ _ _ _ (fun X => kx_starts7 l D ad cI cT cJ X S _ (fun X => kx_start_2 l D ad cI cT cJ X S hst t ht hs))) (vx_cwSW 6 hts gL_lives_L_acts rfl rfl rfl (by decide +kernel) ⟨Nat.le_of_ble_eq_true rfl, Nat.le_of_ble_eq_true rfl⟩) hK hP hD hS hA hZ hN rfl hl.1 rfl (Nat.le_of_ble_eq_true rfl) dL_lives_698 ⟨Nat.le_of_ble_eq_true rfl, Nat.le_of_ble_eq_true rfl⟩ (fun H locs hP hD hS => ?_)
                  refine W.eq (g2 := F0 m 701 ls [.int (-2147483203)]) rfl ?_
                  refine lv_istore (lv' := [(14, .int (-2147483203)), (12, .long (pl_thr S (nI t))), (10, .long (pl_thr S (-1))), (9, .int (pl_last S)), (8, .int (S 3 t)), (7, .int (S 1 t)), (6, .int 0), (5, .int (nI t)), (4, .int (pl_some y 12)), (0, .ref (ad 0)), (1, .ref q), (2, .int y), (3, .int od)]) hx hb dL_lives_701 hl (by decide) rfl (fun ls hl => ?_)
                  refine lv_iload hx hb dL_lives_703 (lv_at hl 6 rfl) ?_
                  refine lv_if_ne (tgt := 714) hx hb dL_lives_705 (by decide) (fun c => absurd c (by decide)) (fun _ => ?_)
                  refine lv_iload hx hb dL_lives_708 (lv_at hl 5 rfl) ?_
                  refine lv_iconst (v := 3) hx hb dL_lives_710 (by decide) ?_
                  refine lv_icmp_eq (tgt := 748) hx hb dL_lives_711 (by decide) (fun c_43 => absurd c_43 hs) (fun c_43 => ?_)
                  refine lv_iload hx hb dL_lives_714 (lv_at hl 0 rfl) ?_
                  refine lv_iload hx hb dL_lives_716 (lv_at hl 6 rfl) ?_
                  refine lv_if_eq (tgt := 726) hx hb dL_lives_718 (by decide) (fun _ => ?_) (fun c => absurd c (by decide))
                  refine lv_ldc (own := RL) (v := (-2147483203)) hx hb hown (hts (.constant RL 23 (-2147483203)) (List.mem_of_getElem? (i := 2) rfl)) dL_lives_726 ?_
                  refine lv_icmp_ne (tgt := 746) hx hb dL_lives_728 (by decide) (fun c => absurd c (by decide)) (fun _ => ?_)
                  refine lv_aload_n hx hb dL_lives_731 rfl (lv_at hl 9 rfl) ?_
                  refine lv_iconst (v := (-1)) hx hb dL_lives_732 (by decide) ?_
                  refine fk_callS (As := [.ref (ad 0), .int (-1)]) (rest := []) ⟨hx, hb, hml, hown, hts⟩ (kl_threads l D ad cI cT cJ _ S hG.1.sz hG.1.J (-1)) (va_cwS 2 hts gL_lives_L_threads rfl rfl rfl (by decide +kernel) ⟨Nat.le_of_ble_eq_true rfl, Nat.le_of_ble_eq_true rfl⟩) hK hP hD hS hA rfl hl.1 rfl (Nat.le_of_ble_eq_true rfl) dL_lives_733 ⟨Nat.le_of_ble_eq_true rfl, Nat.le_of_ble_eq_true rfl⟩ (fun H locs hP hD hS => ?_)
                  refine W.eq (g2 := F0 m 736 ls [.long (pl_thr S (-1))]) rfl ?_
                  refine lv_lload hx hb dL_lives_736 (lv_at hl 2 rfl) ?_
                  refine W.lcmp hx hb dL_lives_738 ?_
                  refine W.eq (g2 := F0 m 739 ls [.int 0]) (by rw [fk_cmp_self]) ?_
                  refine lv_if_ne (tgt := 746) hx hb dL_lives_739 (by decide) (fun c => absurd c (by decide)) (fun _ => ?_)
                  refine lv_iconst (v := 1) hx hb dL_lives_742 (by decide) ?_
                  refine lv_goto (tgt := 747) hx hb dL_lives_743 (by decide) ?_
                  exact fk_zretE (Nat.le_of_ble_eq_true rfl) (Nat.le_of_ble_eq_true rfl) hx hb hr hlocks hP hK hD hS rfl ⟨rfl, _, _, rfl, (hG).wk (by omega)⟩ dL_lives_747
            · have jn495 : ∀ (pv : Int32), ∀ (H : Heap) (locs : List Loc) (ls : Array Slot), va_P D vwCl (fk_kW ad cI cT S ++ (q, fk_pr cI P) :: X) H → va_D A (fk_kW ad cI cT S ++ (q, fk_pr cI P) :: X) → va_S A s.heap H locs → lv_has ls 20 [(12, .long (pl_thr S (nI t))), (10, .long (pl_thr S (-1))), (9, .int (pl_last S)), (8, .int (S 3 t)), (7, .int (S 1 t)), (6, .int 0), (5, .int (nI t)), (4, .int (pl_some y 12)), (0, .ref (ad 0)), (1, .ref q), (2, .int y), (3, .int od)] → W p l e rm_E s m ([.ref (ad 0), .ref q, .int y, .int od] : List Value).toArray below meth c H locs 0 0 (MQ below (fk_QE D (fk_ty cI cT cJ) A (kq_Phi ad cI cT q X (n + 20))) ([.ref (ad 0), .ref q, .int y, .int od] : List Value).toArray s 2 12 A) (F0 m 495 ls [.int pv]) := by
                intro pv H locs ls hP hD hS hl
                refine lv_istore (lv' := [(14, .int pv), (12, .long (pl_thr S (nI t))), (10, .long (pl_thr S (-1))), (9, .int (pl_last S)), (8, .int (S 3 t)), (7, .int (S 1 t)), (6, .int 0), (5, .int (nI t)), (4, .int (pl_some y 12)), (0, .ref (ad 0)), (1, .ref q), (2, .int y), (3, .int od)]) hx hb dL_lives_495 hl (by decide) rfl (fun ls hl => ?_)
                by_cases hpb : fk_btw pv 0 9 = true
                · by_cases hs : S 1 t = 3
                  · have hl : lv_has ls 20 [(14, .int pv), (12, .long (pl_thr S (nI t))), (10, .long (pl_thr S (-1))), (9, .int (pl_last S)), (8, .int (S 3 t)), (7, .int 3), (6, .int 0), (5, .int (nI t)), (4, .int (pl_some y 12)), (0, .ref (ad 0)), (1, .ref q), (2, .int y), (3, .int od)] := by rw [hs] at hl; exact hl
                    refine lv_aload_n hx hb dL_lives_497 rfl (lv_at hl 9 rfl) ?_
                    refine lv_iconst (v := 4) hx hb dL_lives_498 (by decide) ?_
                    refine lv_iload hx hb dL_lives_499 (lv_at hl 7 rfl) ?_
                    refine lv_iload hx hb dL_lives_501 (lv_at hl 0 rfl) ?_
                    refine lv_iconst (v := 0) hx hb dL_lives_503 (by decide) ?_
                    refine lv_iconst (v := 0) hx hb dL_lives_504 (by decide) ?_
                    refine fk_lcallS (As := [.ref (ad 0), .int 4, .int (nI t), .int pv, .int 0, .int 0]) (rest := []) ⟨hx, hb, hml, hown, hts⟩ (Lx_setPriority_IS l D ad cI cT cJ _ S _ _ _ _ (fun X => kx_setPriority_3 l D ad cI cT cJ X S hst t ht _ hpb hs)) (vx_cwSW 6 hts gL_lives_L_acts rfl rfl rfl (by decide +kernel) ⟨Nat.le_of_ble_eq_true rfl, Nat.le_of_ble_eq_true rfl⟩) hK hP hD hS hA hZ hN rfl hl.1 rfl (Nat.le_of_ble_eq_true rfl) dL_lives_505 ⟨Nat.le_of_ble_eq_true rfl, Nat.le_of_ble_eq_true rfl⟩ (fun H locs hP hD hS => ?_)
                    refine W.eq (g2 := F0 m 508 ls [.int (-2147483203)]) rfl ?_
                    refine lv_istore (lv' := [(15, .int (-2147483203)), (14, .int pv), (12, .long (pl_thr S (nI t))), (10, .long (pl_thr S (-1))), (9, .int (pl_last S)), (8, .int (S 3 t)), (7, .int 3), (6, .int 0), (5, .int (nI t)), (4, .int (pl_some y 12)), (0, .ref (ad 0)), (1, .ref q), (2, .int y), (3, .int od)]) hx hb dL_lives_508 hl (by decide) rfl (fun ls hl => ?_)
                    refine lv_iload hx hb dL_lives_510 (lv_at hl 7 rfl) ?_
                    refine lv_if_ne (tgt := 533) hx hb dL_lives_512 (by decide) (fun c => absurd c (by decide)) (fun _ => ?_)
                    refine lv_iload hx hb dL_lives_515 (lv_at hl 1 rfl) ?_
                    refine lv_if_lt (tgt := 533) hx hb dL_lives_517 (by decide) (fun c_48 => absurd c_48 (Int32.not_lt.mpr (fk_wlo hpb))) (fun c_48 => ?_)
                    refine lv_iload hx hb dL_lives_520 (lv_at hl 1 rfl) ?_
                    refine lv_bipush (v := 9) hx hb dL_lives_522 (by decide) ?_
                    refine lv_icmp_gt (tgt := 533) hx hb dL_lives_524 (by decide) (fun c_49 => absurd c_49 (Int32.not_lt.mpr (fk_whi hpb))) (fun c_49 => ?_)
                    refine lv_iload hx hb dL_lives_527 (lv_at hl 6 rfl) ?_
                    refine lv_iconst (v := 3) hx hb dL_lives_529 (by decide) ?_
                    refine lv_icmp_ne (tgt := 584) hx hb dL_lives_530 (by decide) (fun c => absurd c (by decide)) (fun _ => ?_)
                    refine lv_iload hx hb dL_lives_533 (lv_at hl 0 rfl) ?_
                    refine lv_iload hx hb dL_lives_535 (lv_at hl 7 rfl) ?_
                    refine lv_if_eq (tgt := 545) hx hb dL_lives_537 (by decide) (fun _ => ?_) (fun c => absurd c (by decide))
                    refine lv_iload hx hb dL_lives_545 (lv_at hl 1 rfl) ?_
                    refine lv_if_lt (tgt := 557) hx hb dL_lives_547 (by decide) (fun c_52 => absurd c_52 (Int32.not_lt.mpr (fk_wlo hpb))) (fun c_52 => ?_)
                    refine lv_iload hx hb dL_lives_550 (lv_at hl 1 rfl) ?_
                    refine lv_bipush (v := 9) hx hb dL_lives_552 (by decide) ?_
                    refine lv_icmp_le (tgt := 562) hx hb dL_lives_554 (by decide) (fun c_53 => ?_) (fun c9 => absurd (fk_whi hpb) c9)
                    refine lv_ldc (own := RL) (v := (-2147483203)) hx hb hown (hts (.constant RL 23 (-2147483203)) (List.mem_of_getElem? (i := 2) rfl)) dL_lives_562 ?_
                    refine lv_icmp_ne (tgt := 582) hx hb dL_lives_564 (by decide) (fun c => absurd c (by decide)) (fun _ => ?_)
                    refine lv_aload_n hx hb dL_lives_567 rfl (lv_at hl 10 rfl) ?_
                    refine lv_iconst (v := (-1)) hx hb dL_lives_568 (by decide) ?_
                    refine fk_callS (As := [.ref (ad 0), .int (-1)]) (rest := []) ⟨hx, hb, hml, hown, hts⟩ (kl_threads l D ad cI cT cJ _ S hG.1.sz hG.1.J (-1)) (va_cwS 2 hts gL_lives_L_threads rfl rfl rfl (by decide +kernel) ⟨Nat.le_of_ble_eq_true rfl, Nat.le_of_ble_eq_true rfl⟩) hK hP hD hS hA rfl hl.1 rfl (Nat.le_of_ble_eq_true rfl) dL_lives_569 ⟨Nat.le_of_ble_eq_true rfl, Nat.le_of_ble_eq_true rfl⟩ (fun H locs hP hD hS => ?_)
                    refine W.eq (g2 := F0 m 572 ls [.long (pl_thr S (-1))]) rfl ?_
                    refine lv_lload hx hb dL_lives_572 (lv_at hl 3 rfl) ?_
                    refine W.lcmp hx hb dL_lives_574 ?_
                    refine W.eq (g2 := F0 m 575 ls [.int 0]) (by rw [fk_cmp_self]) ?_
                    refine lv_if_ne (tgt := 582) hx hb dL_lives_575 (by decide) (fun c => absurd c (by decide)) (fun _ => ?_)
                    refine lv_iconst (v := 1) hx hb dL_lives_578 (by decide) ?_
                    refine lv_goto (tgt := 583) hx hb dL_lives_579 (by decide) ?_
                    exact fk_zretE (Nat.le_of_ble_eq_true rfl) (Nat.le_of_ble_eq_true rfl) hx hb hr hlocks hP hK hD hS rfl ⟨rfl, _, _, rfl, (hG).wk (by omega)⟩ dL_lives_583
                  · refine lv_aload_n hx hb dL_lives_497 rfl (lv_at hl 9 rfl) ?_
                    refine lv_iconst (v := 4) hx hb dL_lives_498 (by decide) ?_
                    refine lv_iload hx hb dL_lives_499 (lv_at hl 7 rfl) ?_
                    refine lv_iload hx hb dL_lives_501 (lv_at hl 0 rfl) ?_
                    refine lv_iconst (v := 0) hx hb dL_lives_503 (by decide) ?_
                    refine lv_iconst (v := 0) hx hb dL_lives_504 (by decide) ?_
                    have hG1 := hG.prio ht (by omega) pv
                    refine fk_lcallS (As := [.ref (ad 0), .int 4, .int (nI t), .int pv, .int 0, .int 0]) (rest := []) ⟨hx, hb, hml, hown, hts⟩ (Lc_setPriority l D ad cI cT cJ _ S _ _ _ _ (kk_prio S t pv) (S 2 t) (fun X => kc_setPriority l D ad cI cT cJ X S t ht pv hpb hs)) (vx_cwSW 6 hts gL_lives_L_acts rfl rfl rfl (by decide +kernel) ⟨Nat.le_of_ble_eq_true rfl, Nat.le_of_ble_eq_true rfl⟩) hK hP hD hS hA hZ hN rfl hl.1 rfl (Nat.le_of_ble_eq_true rfl) dL_lives_505 ⟨Nat.le_of_ble_eq_true rfl, Nat.le_of_ble_eq_true rfl⟩ (fun H locs hP hD hS => ?_)
                    refine W.eq (g2 := F0 m 508 ls [.int (S 2 t)]) rfl ?_
                    refine lv_istore (lv' := [(15, .int (S 2 t)), (14, .int pv), (12, .long (pl_thr S (nI t))), (10, .long (pl_thr S (-1))), (9, .int (pl_last S)), (8, .int (S 3 t)), (7, .int (S 1 t)), (6, .int 0), (5, .int (nI t)), (4, .int (pl_some y 12)), (0, .ref (ad 0)), (1, .ref q), (2, .int y), (3, .int od)]) hx hb dL_lives_508 hl (by decide) rfl (fun ls hl => ?_)
                    refine lv_iload hx hb dL_lives_510 (lv_at hl 7 rfl) ?_
                    refine lv_if_ne (tgt := 533) hx hb dL_lives_512 (by decide) (fun c => absurd c (by decide)) (fun _ => ?_)
                    refine lv_iload hx hb dL_lives_515 (lv_at hl 1 rfl) ?_
                    refine lv_if_lt (tgt := 533) hx hb dL_lives_517 (by decide) (fun c_57 => absurd c_57 (Int32.not_lt.mpr (fk_wlo hpb))) (fun c_57 => ?_)
                    refine lv_iload hx hb dL_lives_520 (lv_at hl 1 rfl) ?_
                    refine lv_bipush (v := 9) hx hb dL_lives_522 (by decide) ?_
                    refine lv_icmp_gt (tgt := 533) hx hb dL_lives_524 (by decide) (fun c_58 => absurd c_58 (Int32.not_lt.mpr (fk_whi hpb))) (fun c_58 => ?_)
                    refine lv_iload hx hb dL_lives_527 (lv_at hl 6 rfl) ?_
                    refine lv_iconst (v := 3) hx hb dL_lives_529 (by decide) ?_
                    refine lv_icmp_ne (tgt := 584) hx hb dL_lives_530 (by decide) (fun c_59 => ?_) (fun c9 => absurd c9 hs)
                    refine lv_iload hx hb dL_lives_584 (lv_at hl 0 rfl) ?_
                    refine lv_aload_n hx hb dL_lives_586 rfl (lv_at hl 11 rfl) ?_
                    refine lv_iload hx hb dL_lives_587 (lv_at hl 8 rfl) ?_
                    refine va_iald hx hb hK hP 27 0 fk_at27 rfl (vp_in_nI (show t < 16 from (by omega)) (by decide)) dL_lives_589 ?_
                    refine W.eq (g2 := F0 m 590 ls [.int (P t), .int (S 2 t)]) (by rw [nI_clamp (by omega)]) ?_
                    refine W.eq (g2 := F0 m 590 ls [.int (S 2 t), .int (S 2 t)]) (by rw [show (P t) = (S 2 t) from (hG.1.pr t ht)]) ?_
                    refine lv_icmp_ne (tgt := 638) hx hb dL_lives_590 (by decide) (fun c => absurd rfl c) (fun _ => ?_)
                    refine lv_iload hx hb dL_lives_593 (lv_at hl 0 rfl) ?_
                    refine lv_iload hx hb dL_lives_595 (lv_at hl 1 rfl) ?_
                    refine lv_icmp_ne (tgt := 611) hx hb dL_lives_597 (by decide) (fun c_60 => ?_) (fun c_60 => ?_)
                    · refine lv_aload_n hx hb dL_lives_611 rfl (lv_at hl 10 rfl) ?_
                      refine lv_iload hx hb dL_lives_612 (lv_at hl 8 rfl) ?_
                      refine fk_callS (As := [.ref (ad 0), .int (nI t)]) (rest := []) ⟨hx, hb, hml, hown, hts⟩ (kl_threads l D ad cI cT cJ _ (kk_prio S t pv) hG1.1.sz hG1.1.J (nI t)) (va_cwS 2 hts gL_lives_L_threads rfl rfl rfl (by decide +kernel) ⟨Nat.le_of_ble_eq_true rfl, Nat.le_of_ble_eq_true rfl⟩) hK hP hD hS hA rfl hl.1 rfl (Nat.le_of_ble_eq_true rfl) dL_lives_614 ⟨Nat.le_of_ble_eq_true rfl, Nat.le_of_ble_eq_true rfl⟩ (fun H locs hP hD hS => ?_)
                      refine W.eq (g2 := F0 m 617 ls [.long (pl_thr (kk_prio S t pv) (nI t))]) rfl ?_
                      refine W.eq (g2 := F0 m 617 ls [.long (pl_thr S (nI t))]) (by rw [show (pl_thr (kk_prio S t pv) (nI t)) = (pl_thr S (nI t)) from (hG.1.thr hG1.1 (kk_prio_Off pv))]) ?_
                      refine lv_lload hx hb dL_lives_617 (lv_at hl 2 rfl) ?_
                      refine W.lcmp hx hb dL_lives_619 ?_
                      refine W.eq (g2 := F0 m 620 ls [.int 0]) (by rw [fk_cmp_self]) ?_
                      refine lv_if_ne (tgt := 638) hx hb dL_lives_620 (by decide) (fun c => absurd c (by decide)) (fun _ => ?_)
                      refine lv_aload_n hx hb dL_lives_623 rfl (lv_at hl 10 rfl) ?_
                      refine lv_iload hx hb dL_lives_624 (lv_at hl 8 rfl) ?_
                      refine fk_callV (As := [.int (nI t)]) (rest := []) ⟨hx, hb, hml, hown, hts⟩ (kc_stateOf l D ad cI cT cJ _ (kk_prio S t pv) t ht) (cwV 1 hts gL_lives_X2_stateOf rfl rfl rfl (by decide +kernel) ⟨Nat.le_of_ble_eq_true rfl, Nat.le_of_ble_eq_true rfl⟩) (fk_rvK hK hP) hK hP hD hS hA rfl hl.1 rfl (Nat.le_of_ble_eq_true rfl) dL_lives_626 ⟨Nat.le_of_ble_eq_true rfl, Nat.le_of_ble_eq_true rfl⟩ (fun H locs hP hD hS => ?_)
                      refine W.eq (g2 := F0 m 629 ls [.int ((kk_prio S t pv) 1 t)]) rfl ?_
                      refine W.eq (g2 := F0 m 629 ls [.int (S 1 t)]) (by rw [show ((kk_prio S t pv) 1 t) = (S 1 t) from (congrFun (kk_prio_g (by decide) (by decide) (by decide) (by decide)) t)]) ?_
                      refine lv_iload hx hb dL_lives_629 (lv_at hl 6 rfl) ?_
                      refine lv_icmp_ne (tgt := 638) hx hb dL_lives_631 (by decide) (fun c => absurd rfl c) (fun _ => ?_)
                      refine lv_iconst (v := 1) hx hb dL_lives_634 (by decide) ?_
                      refine lv_goto (tgt := 639) hx hb dL_lives_635 (by decide) ?_
                      refine lv_istore (lv' := [(16, .int 1), (15, .int (S 2 t)), (14, .int pv), (12, .long (pl_thr S (nI t))), (10, .long (pl_thr S (-1))), (9, .int (pl_last S)), (8, .int (S 3 t)), (7, .int (S 1 t)), (6, .int 0), (5, .int (nI t)), (4, .int (pl_some y 12)), (0, .ref (ad 0)), (1, .ref q), (2, .int y), (3, .int od)]) hx hb dL_lives_639 hl (by decide) rfl (fun ls hl => ?_)
                      refine lv_aload_n hx hb dL_lives_641 rfl (lv_at hl 12 rfl) ?_
                      refine lv_iload hx hb dL_lives_642 (lv_at hl 9 rfl) ?_
                      refine lv_iload hx hb dL_lives_644 (lv_at hl 2 rfl) ?_
                      refine va_iast hx hb hK hP hD hS 27 0 fk_at27 rfl (vp_in_nI (show t < 16 from (by omega)) (by decide)) dL_lives_646 (fun H locs hP hD hS => ?_)
                      have hP : va_P D vwCl (fk_kW ad cI cT (kk_prio S t pv) ++ (q, fk_pr cI (upd P t pv)) :: X) H := by rw [fk_set27, nI_clamp (by omega)] at hP; exact hP
                      have hD : va_D A (fk_kW ad cI cT (kk_prio S t pv) ++ (q, fk_pr cI (upd P t pv)) :: X) := by rw [fk_set27, nI_clamp (by omega)] at hD; exact hD
                      refine W.eq (g2 := F0 m 647 ls []) rfl ?_
                      refine lv_iload hx hb dL_lives_647 (lv_at hl 0 rfl) ?_
                      refine lv_if_eq (tgt := 681) hx hb dL_lives_649 (by decide) (fun c => absurd c (by decide)) (fun _ => ?_)
                      refine lv_iload hx hb dL_lives_652 (lv_at hl 1 rfl) ?_
                      refine lv_iload hx hb dL_lives_654 (lv_at hl 2 rfl) ?_
                      refine lv_icmp_eq (tgt := 677) hx hb dL_lives_656 (by decide) (fun c_63 => absurd c_63 c_60) (fun c_63 => ?_)
                      by_cases hq9 : kk_q S t = true
                      · obtain ⟨a, ha, e3⟩ := (hG.1.T ht).q ((hG.1.T ht).isq.mp hq9)
                        have hl : lv_has ls 20 [(16, .int 1), (15, .int (S 2 t)), (14, .int pv), (12, .long (pl_thr S (nI t))), (10, .long (pl_thr S (-1))), (9, .int (pl_last S)), (8, .int (nI a)), (7, .int (S 1 t)), (6, .int 0), (5, .int (nI t)), (4, .int (pl_some y 12)), (0, .ref (ad 0)), (1, .ref q), (2, .int y), (3, .int od)] := by rw [e3] at hl; exact hl
                        refine lv_iload hx hb dL_lives_659 (lv_at hl 6 rfl) ?_
                        refine lv_iconst (v := (-1)) hx hb dL_lives_661 (by decide) ?_
                        refine lv_icmp_eq (tgt := 677) hx hb dL_lives_662 (by decide) (fun c => absurd c (fk_nI_m1 (by omega))) (fun _ => ?_)
                        refine lv_aload_n hx hb dL_lives_665 rfl (lv_at hl 11 rfl) ?_
                        refine lv_aload_n hx hb dL_lives_666 rfl (lv_at hl 12 rfl) ?_
                        refine lv_iload hx hb dL_lives_667 (lv_at hl 9 rfl) ?_
                        refine lv_iload hx hb dL_lives_669 (lv_at hl 6 rfl) ?_
                        refine fk_callS (As := [.ref (ad 0), .ref q, .int (nI t), .int (nI a)]) (rest := []) ⟨hx, hb, hml, hown, hts⟩ (kl_joined l D ad cI cT cJ _ (kk_prio S t pv) q (upd P t pv) t a hG1.1.J (kk_prio_Jd hG.1 (by omega) ht ha e3 (fun h9 => c_60 h9.symm)) hG1.1.pr) (va_cwS 4 hts gL_lives_L_joined rfl rfl rfl (by decide +kernel) ⟨Nat.le_of_ble_eq_true rfl, Nat.le_of_ble_eq_true rfl⟩) hK hP hD hS hA rfl hl.1 rfl (Nat.le_of_ble_eq_true rfl) dL_lives_671 ⟨Nat.le_of_ble_eq_true rfl, Nat.le_of_ble_eq_true rfl⟩ (fun H locs hP hD hS => ?_)
                        refine W.eq (g2 := F0 m 674 ls [.int 1]) rfl ?_
                        refine lv_if_eq (tgt := 681) hx hb dL_lives_674 (by decide) (fun c => absurd c (by decide)) (fun _ => ?_)
                        refine lv_iconst (v := 1) hx hb dL_lives_677 (by decide) ?_
                        refine lv_goto (tgt := 682) hx hb dL_lives_678 (by decide) ?_
                        exact fk_zretE (Nat.le_of_ble_eq_true rfl) (Nat.le_of_ble_eq_true rfl) hx hb hr hlocks hP hK hD hS rfl ⟨rfl, _, _, rfl, (hG1).wk (by omega)⟩ dL_lives_682
                      · have e3 : S 3 t = -1 := by unfold kk_q at hq9; simpa using hq9
                        have hl : lv_has ls 20 [(16, .int 1), (15, .int (S 2 t)), (14, .int pv), (12, .long (pl_thr S (nI t))), (10, .long (pl_thr S (-1))), (9, .int (pl_last S)), (8, .int (-1)), (7, .int (S 1 t)), (6, .int 0), (5, .int (nI t)), (4, .int (pl_some y 12)), (0, .ref (ad 0)), (1, .ref q), (2, .int y), (3, .int od)] := by rw [e3] at hl; exact hl
                        refine lv_iload hx hb dL_lives_659 (lv_at hl 6 rfl) ?_
                        refine lv_iconst (v := (-1)) hx hb dL_lives_661 (by decide) ?_
                        refine lv_icmp_eq (tgt := 677) hx hb dL_lives_662 (by decide) (fun _ => ?_) (fun c => absurd c (by decide))
                        refine lv_iconst (v := 1) hx hb dL_lives_677 (by decide) ?_
                        refine lv_goto (tgt := 682) hx hb dL_lives_678 (by decide) ?_
                        exact fk_zretE (Nat.le_of_ble_eq_true rfl) (Nat.le_of_ble_eq_true rfl) hx hb hr hlocks hP hK hD hS rfl ⟨rfl, _, _, rfl, (hG1).wk (by omega)⟩ dL_lives_682
                    · refine lv_aload_n hx hb dL_lives_600 rfl (lv_at hl 10 rfl) ?_
                      refine lv_iconst (v := (-1)) hx hb dL_lives_601 (by decide) ?_
                      refine fk_callS (As := [.ref (ad 0), .int (-1)]) (rest := []) ⟨hx, hb, hml, hown, hts⟩ (kl_threads l D ad cI cT cJ _ (kk_prio S t pv) hG1.1.sz hG1.1.J (-1)) (va_cwS 2 hts gL_lives_L_threads rfl rfl rfl (by decide +kernel) ⟨Nat.le_of_ble_eq_true rfl, Nat.le_of_ble_eq_true rfl⟩) hK hP hD hS hA rfl hl.1 rfl (Nat.le_of_ble_eq_true rfl) dL_lives_602 ⟨Nat.le_of_ble_eq_true rfl, Nat.le_of_ble_eq_true rfl⟩ (fun H locs hP hD hS => ?_)
                      refine W.eq (g2 := F0 m 605 ls [.long (pl_thr (kk_prio S t pv) (-1))]) rfl ?_
                      refine W.eq (g2 := F0 m 605 ls [.long (pl_thr S (-1))]) (by rw [show (pl_thr (kk_prio S t pv) (-1)) = (pl_thr S (-1)) from (by rw [kk_prio_same c_60.symm])]) ?_
                      refine lv_lload hx hb dL_lives_605 (lv_at hl 3 rfl) ?_
                      refine W.lcmp hx hb dL_lives_607 ?_
                      refine W.eq (g2 := F0 m 608 ls [.int 0]) (by rw [fk_cmp_self]) ?_
                      refine lv_if_ne (tgt := 638) hx hb dL_lives_608 (by decide) (fun c => absurd c (by decide)) (fun _ => ?_)
                      refine lv_aload_n hx hb dL_lives_611 rfl (lv_at hl 10 rfl) ?_
                      refine lv_iload hx hb dL_lives_612 (lv_at hl 8 rfl) ?_
                      refine fk_callS (As := [.ref (ad 0), .int (nI t)]) (rest := []) ⟨hx, hb, hml, hown, hts⟩ (kl_threads l D ad cI cT cJ _ (kk_prio S t pv) hG1.1.sz hG1.1.J (nI t)) (va_cwS 2 hts gL_lives_L_threads rfl rfl rfl (by decide +kernel) ⟨Nat.le_of_ble_eq_true rfl, Nat.le_of_ble_eq_true rfl⟩) hK hP hD hS hA rfl hl.1 rfl (Nat.le_of_ble_eq_true rfl) dL_lives_614 ⟨Nat.le_of_ble_eq_true rfl, Nat.le_of_ble_eq_true rfl⟩ (fun H locs hP hD hS => ?_)
                      refine W.eq (g2 := F0 m 617 ls [.long (pl_thr (kk_prio S t pv) (nI t))]) rfl ?_
                      refine W.eq (g2 := F0 m 617 ls [.long (pl_thr S (nI t))]) (by rw [show (pl_thr (kk_prio S t pv) (nI t)) = (pl_thr S (nI t)) from (hG.1.thr hG1.1 (kk_prio_Off pv))]) ?_
                      refine lv_lload hx hb dL_lives_617 (lv_at hl 2 rfl) ?_
                      refine W.lcmp hx hb dL_lives_619 ?_
                      refine W.eq (g2 := F0 m 620 ls [.int 0]) (by rw [fk_cmp_self]) ?_
                      refine lv_if_ne (tgt := 638) hx hb dL_lives_620 (by decide) (fun c => absurd c (by decide)) (fun _ => ?_)
                      refine lv_aload_n hx hb dL_lives_623 rfl (lv_at hl 10 rfl) ?_
                      refine lv_iload hx hb dL_lives_624 (lv_at hl 8 rfl) ?_
                      refine fk_callV (As := [.int (nI t)]) (rest := []) ⟨hx, hb, hml, hown, hts⟩ (kc_stateOf l D ad cI cT cJ _ (kk_prio S t pv) t ht) (cwV 1 hts gL_lives_X2_stateOf rfl rfl rfl (by decide +kernel) ⟨Nat.le_of_ble_eq_true rfl, Nat.le_of_ble_eq_true rfl⟩) (fk_rvK hK hP) hK hP hD hS hA rfl hl.1 rfl (Nat.le_of_ble_eq_true rfl) dL_lives_626 ⟨Nat.le_of_ble_eq_true rfl, Nat.le_of_ble_eq_true rfl⟩ (fun H locs hP hD hS => ?_)
                      refine W.eq (g2 := F0 m 629 ls [.int ((kk_prio S t pv) 1 t)]) rfl ?_
                      refine W.eq (g2 := F0 m 629 ls [.int (S 1 t)]) (by rw [show ((kk_prio S t pv) 1 t) = (S 1 t) from (congrFun (kk_prio_g (by decide) (by decide) (by decide) (by decide)) t)]) ?_
                      refine lv_iload hx hb dL_lives_629 (lv_at hl 6 rfl) ?_
                      refine lv_icmp_ne (tgt := 638) hx hb dL_lives_631 (by decide) (fun c => absurd rfl c) (fun _ => ?_)
                      refine lv_iconst (v := 1) hx hb dL_lives_634 (by decide) ?_
                      refine lv_goto (tgt := 639) hx hb dL_lives_635 (by decide) ?_
                      refine lv_istore (lv' := [(16, .int 1), (15, .int (S 2 t)), (14, .int pv), (12, .long (pl_thr S (nI t))), (10, .long (pl_thr S (-1))), (9, .int (pl_last S)), (8, .int (S 3 t)), (7, .int (S 1 t)), (6, .int 0), (5, .int (nI t)), (4, .int (pl_some y 12)), (0, .ref (ad 0)), (1, .ref q), (2, .int y), (3, .int od)]) hx hb dL_lives_639 hl (by decide) rfl (fun ls hl => ?_)
                      refine lv_aload_n hx hb dL_lives_641 rfl (lv_at hl 12 rfl) ?_
                      refine lv_iload hx hb dL_lives_642 (lv_at hl 9 rfl) ?_
                      refine lv_iload hx hb dL_lives_644 (lv_at hl 2 rfl) ?_
                      refine va_iast hx hb hK hP hD hS 27 0 fk_at27 rfl (vp_in_nI (show t < 16 from (by omega)) (by decide)) dL_lives_646 (fun H locs hP hD hS => ?_)
                      have hP : va_P D vwCl (fk_kW ad cI cT (kk_prio S t pv) ++ (q, fk_pr cI (upd P t pv)) :: X) H := by rw [fk_set27, nI_clamp (by omega)] at hP; exact hP
                      have hD : va_D A (fk_kW ad cI cT (kk_prio S t pv) ++ (q, fk_pr cI (upd P t pv)) :: X) := by rw [fk_set27, nI_clamp (by omega)] at hD; exact hD
                      refine W.eq (g2 := F0 m 647 ls []) rfl ?_
                      refine lv_iload hx hb dL_lives_647 (lv_at hl 0 rfl) ?_
                      refine lv_if_eq (tgt := 681) hx hb dL_lives_649 (by decide) (fun c => absurd c (by decide)) (fun _ => ?_)
                      refine lv_iload hx hb dL_lives_652 (lv_at hl 1 rfl) ?_
                      refine lv_iload hx hb dL_lives_654 (lv_at hl 2 rfl) ?_
                      refine lv_icmp_eq (tgt := 677) hx hb dL_lives_656 (by decide) (fun c_69 => ?_) (fun c9 => absurd c_60 c9)
                      refine lv_iconst (v := 1) hx hb dL_lives_677 (by decide) ?_
                      refine lv_goto (tgt := 682) hx hb dL_lives_678 (by decide) ?_
                      exact fk_zretE (Nat.le_of_ble_eq_true rfl) (Nat.le_of_ble_eq_true rfl) hx hb hr hlocks hP hK hD hS rfl ⟨rfl, _, _, rfl, (hG1).wk (by omega)⟩ dL_lives_682
                · have hpb9 : fk_btw pv 0 9 = false := Bool.eq_false_iff.mpr hpb
                  by_cases hlt : pv < 0
                  · refine lv_aload_n hx hb dL_lives_497 rfl (lv_at hl 9 rfl) ?_
                    refine lv_iconst (v := 4) hx hb dL_lives_498 (by decide) ?_
                    refine lv_iload hx hb dL_lives_499 (lv_at hl 7 rfl) ?_
                    refine lv_iload hx hb dL_lives_501 (lv_at hl 0 rfl) ?_
                    refine lv_iconst (v := 0) hx hb dL_lives_503 (by decide) ?_
                    refine lv_iconst (v := 0) hx hb dL_lives_504 (by decide) ?_
                    refine fk_lcallS (As := [.ref (ad 0), .int 4, .int (nI t), .int pv, .int 0, .int 0]) (rest := []) ⟨hx, hb, hml, hown, hts⟩ (Lx_setPriority_IA l D ad cI cT cJ _ S _ _ _ _ (fun X => kx_setPriority_2 l D ad cI cT cJ X S hst t ht _ hpb9)) (vx_cwSW 6 hts gL_lives_L_acts rfl rfl rfl (by decide +kernel) ⟨Nat.le_of_ble_eq_true rfl, Nat.le_of_ble_eq_true rfl⟩) hK hP hD hS hA hZ hN rfl hl.1 rfl (Nat.le_of_ble_eq_true rfl) dL_lives_505 ⟨Nat.le_of_ble_eq_true rfl, Nat.le_of_ble_eq_true rfl⟩ (fun H locs hP hD hS => ?_)
                    refine W.eq (g2 := F0 m 508 ls [.int (-2147483202)]) rfl ?_
                    refine lv_istore (lv' := [(15, .int (-2147483202)), (14, .int pv), (12, .long (pl_thr S (nI t))), (10, .long (pl_thr S (-1))), (9, .int (pl_last S)), (8, .int (S 3 t)), (7, .int (S 1 t)), (6, .int 0), (5, .int (nI t)), (4, .int (pl_some y 12)), (0, .ref (ad 0)), (1, .ref q), (2, .int y), (3, .int od)]) hx hb dL_lives_508 hl (by decide) rfl (fun ls hl => ?_)
                    refine lv_iload hx hb dL_lives_510 (lv_at hl 7 rfl) ?_
                    refine lv_if_ne (tgt := 533) hx hb dL_lives_512 (by decide) (fun c => absurd c (by decide)) (fun _ => ?_)
                    refine lv_iload hx hb dL_lives_515 (lv_at hl 1 rfl) ?_
                    refine lv_if_lt (tgt := 533) hx hb dL_lives_517 (by decide) (fun c_71 => ?_) (fun c9 => absurd hlt c9)
                    refine lv_iload hx hb dL_lives_533 (lv_at hl 0 rfl) ?_
                    refine lv_iload hx hb dL_lives_535 (lv_at hl 7 rfl) ?_
                    refine lv_if_eq (tgt := 545) hx hb dL_lives_537 (by decide) (fun _ => ?_) (fun c => absurd c (by decide))
                    refine lv_iload hx hb dL_lives_545 (lv_at hl 1 rfl) ?_
                    refine lv_if_lt (tgt := 557) hx hb dL_lives_547 (by decide) (fun c_73 => ?_) (fun c9 => absurd hlt c9)
                    refine lv_ldc (own := RL) (v := (-2147483202)) hx hb hown (hts (.constant RL 20 (-2147483202)) (List.mem_of_getElem? (i := 3) rfl)) dL_lives_557 ?_
                    refine lv_goto (tgt := 564) hx hb dL_lives_559 (by decide) ?_
                    refine lv_icmp_ne (tgt := 582) hx hb dL_lives_564 (by decide) (fun c => absurd c (by decide)) (fun _ => ?_)
                    refine lv_aload_n hx hb dL_lives_567 rfl (lv_at hl 10 rfl) ?_
                    refine lv_iconst (v := (-1)) hx hb dL_lives_568 (by decide) ?_
                    refine fk_callS (As := [.ref (ad 0), .int (-1)]) (rest := []) ⟨hx, hb, hml, hown, hts⟩ (kl_threads l D ad cI cT cJ _ S hG.1.sz hG.1.J (-1)) (va_cwS 2 hts gL_lives_L_threads rfl rfl rfl (by decide +kernel) ⟨Nat.le_of_ble_eq_true rfl, Nat.le_of_ble_eq_true rfl⟩) hK hP hD hS hA rfl hl.1 rfl (Nat.le_of_ble_eq_true rfl) dL_lives_569 ⟨Nat.le_of_ble_eq_true rfl, Nat.le_of_ble_eq_true rfl⟩ (fun H locs hP hD hS => ?_)
                    refine W.eq (g2 := F0 m 572 ls [.long (pl_thr S (-1))]) rfl ?_
                    refine lv_lload hx hb dL_lives_572 (lv_at hl 3 rfl) ?_
                    refine W.lcmp hx hb dL_lives_574 ?_
                    refine W.eq (g2 := F0 m 575 ls [.int 0]) (by rw [fk_cmp_self]) ?_
                    refine lv_if_ne (tgt := 582) hx hb dL_lives_575 (by decide) (fun c => absurd c (by decide)) (fun _ => ?_)
                    refine lv_iconst (v := 1) hx hb dL_lives_578 (by decide) ?_
                    refine lv_goto (tgt := 583) hx hb dL_lives_579 (by decide) ?_
                    exact fk_zretE (Nat.le_of_ble_eq_true rfl) (Nat.le_of_ble_eq_true rfl) hx hb hr hlocks hP hK hD hS rfl ⟨rfl, _, _, rfl, (hG).wk (by omega)⟩ dL_lives_583
                  · have hgt : 9 < pv := Int32.not_le.mp (fun h9 => hpb (fk_wF hlt h9))
                    refine lv_aload_n hx hb dL_lives_497 rfl (lv_at hl 9 rfl) ?_
                    refine lv_iconst (v := 4) hx hb dL_lives_498 (by decide) ?_
                    refine lv_iload hx hb dL_lives_499 (lv_at hl 7 rfl) ?_
                    refine lv_iload hx hb dL_lives_501 (lv_at hl 0 rfl) ?_
                    refine lv_iconst (v := 0) hx hb dL_lives_503 (by decide) ?_
                    refine lv_iconst (v := 0) hx hb dL_lives_504 (by decide) ?_
                    refine fk_lcallS (As := [.ref (ad 0), .int 4, .int (nI t), .int pv, .int 0, .int 0]) (rest := []) ⟨hx, hb, hml, hown, hts⟩ (Lx_setPriority_IA l D ad cI cT cJ _ S _ _ _ _ (fun X => kx_setPriority_2 l D ad cI cT cJ X S hst t ht _ hpb9)) (vx_cwSW 6 hts gL_lives_L_acts rfl rfl rfl (by decide +kernel) ⟨Nat.le_of_ble_eq_true rfl, Nat.le_of_ble_eq_true rfl⟩) hK hP hD hS hA hZ hN rfl hl.1 rfl (Nat.le_of_ble_eq_true rfl) dL_lives_505 ⟨Nat.le_of_ble_eq_true rfl, Nat.le_of_ble_eq_true rfl⟩ (fun H locs hP hD hS => ?_)
                    refine W.eq (g2 := F0 m 508 ls [.int (-2147483202)]) rfl ?_
                    refine lv_istore (lv' := [(15, .int (-2147483202)), (14, .int pv), (12, .long (pl_thr S (nI t))), (10, .long (pl_thr S (-1))), (9, .int (pl_last S)), (8, .int (S 3 t)), (7, .int (S 1 t)), (6, .int 0), (5, .int (nI t)), (4, .int (pl_some y 12)), (0, .ref (ad 0)), (1, .ref q), (2, .int y), (3, .int od)]) hx hb dL_lives_508 hl (by decide) rfl (fun ls hl => ?_)
                    refine lv_iload hx hb dL_lives_510 (lv_at hl 7 rfl) ?_
                    refine lv_if_ne (tgt := 533) hx hb dL_lives_512 (by decide) (fun c => absurd c (by decide)) (fun _ => ?_)
                    refine lv_iload hx hb dL_lives_515 (lv_at hl 1 rfl) ?_
                    refine lv_if_lt (tgt := 533) hx hb dL_lives_517 (by decide) (fun c_77 => absurd c_77 hlt) (fun c_77 => ?_)
                    refine lv_iload hx hb dL_lives_520 (lv_at hl 1 rfl) ?_
                    refine lv_bipush (v := 9) hx hb dL_lives_522 (by decide) ?_
                    refine lv_icmp_gt (tgt := 533) hx hb dL_lives_524 (by decide) (fun c_78 => ?_) (fun c9 => absurd hgt c9)
                    refine lv_iload hx hb dL_lives_533 (lv_at hl 0 rfl) ?_
                    refine lv_iload hx hb dL_lives_535 (lv_at hl 7 rfl) ?_
                    refine lv_if_eq (tgt := 545) hx hb dL_lives_537 (by decide) (fun _ => ?_) (fun c => absurd c (by decide))
                    refine lv_iload hx hb dL_lives_545 (lv_at hl 1 rfl) ?_
                    refine lv_if_lt (tgt := 557) hx hb dL_lives_547 (by decide) (fun c_80 => absurd c_80 hlt) (fun c_80 => ?_)
                    refine lv_iload hx hb dL_lives_550 (lv_at hl 1 rfl) ?_
                    refine lv_bipush (v := 9) hx hb dL_lives_552 (by decide) ?_
                    refine lv_icmp_le (tgt := 562) hx hb dL_lives_554 (by decide) (fun c_81 => absurd c_81 (Int32.not_le.mpr hgt)) (fun c_81 => ?_)
                    refine lv_ldc (own := RL) (v := (-2147483202)) hx hb hown (hts (.constant RL 20 (-2147483202)) (List.mem_of_getElem? (i := 3) rfl)) dL_lives_557 ?_
                    refine lv_goto (tgt := 564) hx hb dL_lives_559 (by decide) ?_
                    refine lv_icmp_ne (tgt := 582) hx hb dL_lives_564 (by decide) (fun c => absurd c (by decide)) (fun _ => ?_)
                    refine lv_aload_n hx hb dL_lives_567 rfl (lv_at hl 10 rfl) ?_
                    refine lv_iconst (v := (-1)) hx hb dL_lives_568 (by decide) ?_
                    refine fk_callS (As := [.ref (ad 0), .int (-1)]) (rest := []) ⟨hx, hb, hml, hown, hts⟩ (kl_threads l D ad cI cT cJ _ S hG.1.sz hG.1.J (-1)) (va_cwS 2 hts gL_lives_L_threads rfl rfl rfl (by decide +kernel) ⟨Nat.le_of_ble_eq_true rfl, Nat.le_of_ble_eq_true rfl⟩) hK hP hD hS hA rfl hl.1 rfl (Nat.le_of_ble_eq_true rfl) dL_lives_569 ⟨Nat.le_of_ble_eq_true rfl, Nat.le_of_ble_eq_true rfl⟩ (fun H locs hP hD hS => ?_)
                    refine W.eq (g2 := F0 m 572 ls [.long (pl_thr S (-1))]) rfl ?_
                    refine lv_lload hx hb dL_lives_572 (lv_at hl 3 rfl) ?_
                    refine W.lcmp hx hb dL_lives_574 ?_
                    refine W.eq (g2 := F0 m 575 ls [.int 0]) (by rw [fk_cmp_self]) ?_
                    refine lv_if_ne (tgt := 582) hx hb dL_lives_575 (by decide) (fun c => absurd c (by decide)) (fun _ => ?_)
                    refine lv_iconst (v := 1) hx hb dL_lives_578 (by decide) ?_
                    refine lv_goto (tgt := 583) hx hb dL_lives_579 (by decide) ?_
                    exact fk_zretE (Nat.le_of_ble_eq_true rfl) (Nat.le_of_ble_eq_true rfl) hx hb hr hlocks hP hK hD hS rfl ⟨rfl, _, _, rfl, (hG).wk (by omega)⟩ dL_lives_583
              refine lv_iload_n hx hb dL_lives_469 rfl (lv_at hl 11 rfl) ?_
              refine lv_if_eq (tgt := 487) hx hb dL_lives_470 (by decide) (fun c_84 => ?_) (fun c_84 => ?_)
              · refine lv_iload_n hx hb dL_lives_487 rfl (lv_at hl 10 rfl) ?_
                refine lv_bipush (v := 6) hx hb dL_lives_488 (by decide) ?_
                refine lv_ishr hx hb dL_lives_490 ?_
                refine lv_iconst (v := 4) hx hb dL_lives_491 (by decide) ?_
                refine fk_callS (As := [.int (y >>> (6 &&& 31)), .int 4]) (rest := []) ⟨hx, hb, hml, hown, hts⟩ (kl_some l D ad cI cT cJ _ S (y >>> (6 &&& 31)) 4 (by decide)) (va_cwS 2 hts gL_lives_L_some rfl rfl rfl (by decide +kernel) ⟨Nat.le_of_ble_eq_true rfl, Nat.le_of_ble_eq_true rfl⟩) hK hP hD hS hA rfl hl.1 rfl (Nat.le_of_ble_eq_true rfl) dL_lives_492 ⟨Nat.le_of_ble_eq_true rfl, Nat.le_of_ble_eq_true rfl⟩ (fun H locs hP hD hS => ?_)
                refine W.eq (g2 := F0 m 495 ls [.int (pl_some (y >>> (6 &&& 31)) 4)]) rfl ?_
                exact jn495 (pl_some (y >>> (6 &&& 31)) 4) _ _ _ hP hD hS hl
              · refine lv_iload_n hx hb dL_lives_473 rfl (lv_at hl 10 rfl) ?_
                refine lv_bipush (v := 6) hx hb dL_lives_474 (by decide) ?_
                refine lv_ishr hx hb dL_lives_476 ?_
                refine lv_bipush (v := 13) hx hb dL_lives_477 (by decide) ?_
                refine fk_callS (As := [.int (y >>> (6 &&& 31)), .int 13]) (rest := []) ⟨hx, hb, hml, hown, hts⟩ (kl_some l D ad cI cT cJ _ S (y >>> (6 &&& 31)) 13 (by decide)) (va_cwS 2 hts gL_lives_L_some rfl rfl rfl (by decide +kernel) ⟨Nat.le_of_ble_eq_true rfl, Nat.le_of_ble_eq_true rfl⟩) hK hP hD hS hA rfl hl.1 rfl (Nat.le_of_ble_eq_true rfl) dL_lives_479 ⟨Nat.le_of_ble_eq_true rfl, Nat.le_of_ble_eq_true rfl⟩ (fun H locs hP hD hS => ?_)
                refine W.eq (g2 := F0 m 482 ls [.int (pl_some (y >>> (6 &&& 31)) 13)]) rfl ?_
                refine lv_iconst (v := 2) hx hb dL_lives_482 (by decide) ?_
                refine lv_isub hx hb dL_lives_483 ?_
                refine lv_goto (tgt := 495) hx hb dL_lives_484 (by decide) ?_
                exact jn495 ((pl_some (y >>> (6 &&& 31)) 13) - 2) _ _ _ hP hD hS hl
          · by_cases hs : S 1 t = 3
            · have hl : lv_has ls 20 [(12, .long (pl_thr S (nI t))), (10, .long (pl_thr S (-1))), (9, .int (pl_last S)), (8, .int (S 3 t)), (7, .int 3), (6, .int 0), (5, .int (nI t)), (4, .int (pl_some y 12)), (0, .ref (ad 0)), (1, .ref q), (2, .int y), (3, .int od)] := by rw [hs] at hl; exact hl
              refine lv_aload_n hx hb dL_lives_270 rfl (lv_at hl 8 rfl) ?_
              refine lv_iconst (v := 3) hx hb dL_lives_271 (by decide) ?_
              refine lv_iload hx hb dL_lives_272 (lv_at hl 6 rfl) ?_
              refine lv_iconst (v := 0) hx hb dL_lives_274 (by decide) ?_
              refine lv_iconst (v := 0) hx hb dL_lives_275 (by decide) ?_
              refine lv_iconst (v := 0) hx hb dL_lives_276 (by decide) ?_
              refine fk_lcallS (As := [.ref (ad 0), .int 3, .int (nI t), .int 0, .int 0, .int 0]) (rest := []) ⟨hx, hb, hml, hown, hts⟩ (Lx_exit_IS l D ad cI cT cJ _ S _ _ _ _ (fun X => kx_exit_2 l D ad cI cT cJ X S hst t ht hs)) (vx_cwSW 6 hts gL_lives_L_acts rfl rfl rfl (by decide +kernel) ⟨Nat.le_of_ble_eq_true rfl, Nat.le_of_ble_eq_true rfl⟩) hK hP hD hS hA hZ hN rfl hl.1 rfl (Nat.le_of_ble_eq_true rfl) dL_lives_277 ⟨Nat.le_of_ble_eq_true rfl, Nat.le_of_ble_eq_true rfl⟩ (fun H locs hP hD hS => ?_)
              refine W.eq (g2 := F0 m 280 ls [.int (-2147483203)]) rfl ?_
              refine lv_istore (lv' := [(14, .int (-2147483203)), (12, .long (pl_thr S (nI t))), (10, .long (pl_thr S (-1))), (9, .int (pl_last S)), (8, .int (S 3 t)), (7, .int 3), (6, .int 0), (5, .int (nI t)), (4, .int (pl_some y 12)), (0, .ref (ad 0)), (1, .ref q), (2, .int y), (3, .int od)]) hx hb dL_lives_280 hl (by decide) rfl (fun ls hl => ?_)
              refine lv_iload hx hb dL_lives_282 (lv_at hl 6 rfl) ?_
              refine lv_if_ne (tgt := 293) hx hb dL_lives_284 (by decide) (fun c => absurd c (by decide)) (fun _ => ?_)
              refine lv_iload hx hb dL_lives_287 (lv_at hl 5 rfl) ?_
              refine lv_iconst (v := 3) hx hb dL_lives_289 (by decide) ?_
              refine lv_icmp_ne (tgt := 327) hx hb dL_lives_290 (by decide) (fun c => absurd c (by decide)) (fun _ => ?_)
              refine lv_iload hx hb dL_lives_293 (lv_at hl 0 rfl) ?_
              refine lv_iload hx hb dL_lives_295 (lv_at hl 6 rfl) ?_
              refine lv_if_eq (tgt := 305) hx hb dL_lives_297 (by decide) (fun _ => ?_) (fun c => absurd c (by decide))
              refine lv_ldc (own := RL) (v := (-2147483203)) hx hb hown (hts (.constant RL 23 (-2147483203)) (List.mem_of_getElem? (i := 2) rfl)) dL_lives_305 ?_
              refine lv_icmp_ne (tgt := 325) hx hb dL_lives_307 (by decide) (fun c => absurd c (by decide)) (fun _ => ?_)
              refine lv_aload_n hx hb dL_lives_310 rfl (lv_at hl 9 rfl) ?_
              refine lv_iconst (v := (-1)) hx hb dL_lives_311 (by decide) ?_
              refine fk_callS (As := [.ref (ad 0), .int (-1)]) (rest := []) ⟨hx, hb, hml, hown, hts⟩ (kl_threads l D ad cI cT cJ _ S hG.1.sz hG.1.J (-1)) (va_cwS 2 hts gL_lives_L_threads rfl rfl rfl (by decide +kernel) ⟨Nat.le_of_ble_eq_true rfl, Nat.le_of_ble_eq_true rfl⟩) hK hP hD hS hA rfl hl.1 rfl (Nat.le_of_ble_eq_true rfl) dL_lives_312 ⟨Nat.le_of_ble_eq_true rfl, Nat.le_of_ble_eq_true rfl⟩ (fun H locs hP hD hS => ?_)
              refine W.eq (g2 := F0 m 315 ls [.long (pl_thr S (-1))]) rfl ?_
              refine lv_lload hx hb dL_lives_315 (lv_at hl 2 rfl) ?_
              refine W.lcmp hx hb dL_lives_317 ?_
              refine W.eq (g2 := F0 m 318 ls [.int 0]) (by rw [fk_cmp_self]) ?_
              refine lv_if_ne (tgt := 325) hx hb dL_lives_318 (by decide) (fun c => absurd c (by decide)) (fun _ => ?_)
              refine lv_iconst (v := 1) hx hb dL_lives_321 (by decide) ?_
              refine lv_goto (tgt := 326) hx hb dL_lives_322 (by decide) ?_
              exact fk_zretE (Nat.le_of_ble_eq_true rfl) (Nat.le_of_ble_eq_true rfl) hx hb hr hlocks hP hK hD hS rfl ⟨rfl, _, _, rfl, (hG).wk (by omega)⟩ dL_lives_326
            · refine lv_aload_n hx hb dL_lives_270 rfl (lv_at hl 8 rfl) ?_
              refine lv_iconst (v := 3) hx hb dL_lives_271 (by decide) ?_
              refine lv_iload hx hb dL_lives_272 (lv_at hl 6 rfl) ?_
              refine lv_iconst (v := 0) hx hb dL_lives_274 (by decide) ?_
              refine lv_iconst (v := 0) hx hb dL_lives_275 (by decide) ?_
              refine lv_iconst (v := 0) hx hb dL_lives_276 (by decide) ?_
              obtain ⟨m9, em, hm9, hG1, f1, f10, f3, fO⟩ := kq_exit hG ht (by omega)
              refine fk_lcallS (As := [.ref (ad 0), .int 3, .int (nI t), .int 0, .int 0, .int 0]) (rest := []) ⟨hx, hb, hml, hown, hts⟩ (Lc_exit l D ad cI cT cJ _ S _ _ _ _ (kk_exit S t) (nI m9) (fun X => by rw [← em]; exact kc_exit l D ad cI cT cJ X S t ht hG.1.sz hs)) (vx_cwSW 6 hts gL_lives_L_acts rfl rfl rfl (by decide +kernel) ⟨Nat.le_of_ble_eq_true rfl, Nat.le_of_ble_eq_true rfl⟩) hK hP hD hS hA hZ hN rfl hl.1 rfl (Nat.le_of_ble_eq_true rfl) dL_lives_277 ⟨Nat.le_of_ble_eq_true rfl, Nat.le_of_ble_eq_true rfl⟩ (fun H locs hP hD hS => ?_)
              refine W.eq (g2 := F0 m 280 ls [.int (nI m9)]) rfl ?_
              refine lv_istore (lv' := [(14, .int (nI m9)), (12, .long (pl_thr S (nI t))), (10, .long (pl_thr S (-1))), (9, .int (pl_last S)), (8, .int (S 3 t)), (7, .int (S 1 t)), (6, .int 0), (5, .int (nI t)), (4, .int (pl_some y 12)), (0, .ref (ad 0)), (1, .ref q), (2, .int y), (3, .int od)]) hx hb dL_lives_280 hl (by decide) rfl (fun ls hl => ?_)
              refine lv_iload hx hb dL_lives_282 (lv_at hl 6 rfl) ?_
              refine lv_if_ne (tgt := 293) hx hb dL_lives_284 (by decide) (fun c => absurd c (by decide)) (fun _ => ?_)
              refine lv_iload hx hb dL_lives_287 (lv_at hl 5 rfl) ?_
              refine lv_iconst (v := 3) hx hb dL_lives_289 (by decide) ?_
              refine lv_icmp_ne (tgt := 327) hx hb dL_lives_290 (by decide) (fun c_91 => ?_) (fun c9 => absurd c9 hs)
              refine lv_iload hx hb dL_lives_327 (lv_at hl 0 rfl) ?_
              refine lv_if_lt (tgt := 365) hx hb dL_lives_329 (by decide) (fun c_92 => absurd c_92 (nI_pos (by omega))) (fun c_92 => ?_)
              refine lv_aload_n hx hb dL_lives_332 rfl (lv_at hl 9 rfl) ?_
              refine lv_iload hx hb dL_lives_333 (lv_at hl 7 rfl) ?_
              refine fk_callV (As := [.int (nI t)]) (rest := []) ⟨hx, hb, hml, hown, hts⟩ (kc_stateOf l D ad cI cT cJ _ (kk_exit S t) t ht) (cwV 1 hts gL_lives_X2_stateOf rfl rfl rfl (by decide +kernel) ⟨Nat.le_of_ble_eq_true rfl, Nat.le_of_ble_eq_true rfl⟩) (fk_rvK hK hP) hK hP hD hS hA rfl hl.1 rfl (Nat.le_of_ble_eq_true rfl) dL_lives_335 ⟨Nat.le_of_ble_eq_true rfl, Nat.le_of_ble_eq_true rfl⟩ (fun H locs hP hD hS => ?_)
              refine W.eq (g2 := F0 m 338 ls [.int ((kk_exit S t) 1 t)]) rfl ?_
              refine W.eq (g2 := F0 m 338 ls [.int 3]) (by rw [show ((kk_exit S t) 1 t) = (3 : Int32) from f1]) ?_
              refine lv_iconst (v := 3) hx hb dL_lives_338 (by decide) ?_
              refine lv_icmp_ne (tgt := 365) hx hb dL_lives_339 (by decide) (fun c => absurd c (by decide)) (fun _ => ?_)
              refine lv_aload_n hx hb dL_lives_342 rfl (lv_at hl 9 rfl) ?_
              refine lv_iload hx hb dL_lives_343 (lv_at hl 7 rfl) ?_
              refine fk_callV (As := [.int (nI t)]) (rest := []) ⟨hx, hb, hml, hown, hts⟩ (kc_locks l D ad cI cT cJ _ (kk_exit S t) t ht) (cwV 1 hts gL_lives_X2_locks rfl rfl rfl (by decide +kernel) ⟨Nat.le_of_ble_eq_true rfl, Nat.le_of_ble_eq_true rfl⟩) (fk_rvK hK hP) hK hP hD hS hA rfl hl.1 rfl (Nat.le_of_ble_eq_true rfl) dL_lives_345 ⟨Nat.le_of_ble_eq_true rfl, Nat.le_of_ble_eq_true rfl⟩ (fun H locs hP hD hS => ?_)
              refine W.eq (g2 := F0 m 348 ls [.int ((kk_exit S t) 10 t)]) rfl ?_
              refine W.eq (g2 := F0 m 348 ls [.int 0]) (by rw [show ((kk_exit S t) 10 t) = (0 : Int32) from f10]) ?_
              refine lv_if_ne (tgt := 365) hx hb dL_lives_348 (by decide) (fun c => absurd c (by decide)) (fun _ => ?_)
              refine lv_aload_n hx hb dL_lives_351 rfl (lv_at hl 9 rfl) ?_
              refine lv_iload hx hb dL_lives_352 (lv_at hl 7 rfl) ?_
              refine fk_callV (As := [.int (nI t)]) (rest := []) ⟨hx, hb, hml, hown, hts⟩ (kc_addressOf l D ad cI cT cJ _ (kk_exit S t) t ht) (cwV 1 hts gL_lives_X2_addressOf rfl rfl rfl (by decide +kernel) ⟨Nat.le_of_ble_eq_true rfl, Nat.le_of_ble_eq_true rfl⟩) (fk_rvK hK hP) hK hP hD hS hA rfl hl.1 rfl (Nat.le_of_ble_eq_true rfl) dL_lives_354 ⟨Nat.le_of_ble_eq_true rfl, Nat.le_of_ble_eq_true rfl⟩ (fun H locs hP hD hS => ?_)
              refine W.eq (g2 := F0 m 357 ls [.int ((kk_exit S t) 3 t)]) rfl ?_
              refine W.eq (g2 := F0 m 357 ls [.int (-1)]) (by rw [show ((kk_exit S t) 3 t) = ((-1) : Int32) from f3]) ?_
              refine lv_iconst (v := (-1)) hx hb dL_lives_357 (by decide) ?_
              refine lv_icmp_ne (tgt := 365) hx hb dL_lives_358 (by decide) (fun c => absurd c (by decide)) (fun _ => ?_)
              refine lv_iconst (v := 1) hx hb dL_lives_361 (by decide) ?_
              refine lv_goto (tgt := 366) hx hb dL_lives_362 (by decide) ?_
              refine lv_istore (lv' := [(15, .int 1), (14, .int (nI m9)), (12, .long (pl_thr S (nI t))), (10, .long (pl_thr S (-1))), (9, .int (pl_last S)), (8, .int (S 3 t)), (7, .int (S 1 t)), (6, .int 0), (5, .int (nI t)), (4, .int (pl_some y 12)), (0, .ref (ad 0)), (1, .ref q), (2, .int y), (3, .int od)]) hx hb dL_lives_366 hl (by decide) rfl (fun ls hl => ?_)
              refine lv_iconst (v := 0) hx hb dL_lives_368 (by decide) ?_
              refine lv_istore (lv' := [(16, .int 0), (15, .int 1), (14, .int (nI m9)), (12, .long (pl_thr S (nI t))), (10, .long (pl_thr S (-1))), (9, .int (pl_last S)), (8, .int (S 3 t)), (7, .int (S 1 t)), (6, .int 0), (5, .int (nI t)), (4, .int (pl_some y 12)), (0, .ref (ad 0)), (1, .ref q), (2, .int y), (3, .int od)]) hx hb dL_lives_369 hl (by decide) rfl (fun ls hl => ?_)
              have loop1 : ∀ (n1 : Nat) (a : Nat), a + n1 = 16 → ∀ (H : Heap) (locs : List Loc) (ls : Array Slot), va_P D vwCl (fk_kW ad cI cT (kk_exit S t) ++ (q, fk_pr cI P) :: X) H → va_D A (fk_kW ad cI cT (kk_exit S t) ++ (q, fk_pr cI P) :: X) → va_S A s.heap H locs → lv_has ls 20 [(16, .int (nI a)), (15, .int 1), (14, .int (nI m9)), (12, .long (pl_thr S (nI t))), (5, .int (nI t)), (0, .ref (ad 0))] → W p l e rm_E s m ([.ref (ad 0), .ref q, .int y, .int od] : List Value).toArray below meth c H locs (0 + 1) (0 + 6) (MQ below (fk_QE D (fk_ty cI cT cJ) A (kq_Phi ad cI cT q X (n + 20))) ([.ref (ad 0), .ref q, .int y, .int od] : List Value).toArray s 2 12 A) (F0 m 371 ls []) := by
                intro n1
                induction n1 with
                | zero =>
                  intro a ha9 H locs ls hP hD hS hl
                  refine lv_iload hx hb dL_lives_371 (lv_at hl 0 rfl) ?_
                  refine lv_bipush (v := 16) hx hb dL_lives_373 (by decide) ?_
                  refine lv_icmp_ge (tgt := 434) hx hb dL_lives_375 (by decide) (fun c_96 => ?_) (fun c_96 => absurd (nI_le (a := 16) (b := a) (by omega) (by omega)) c_96)
                  refine lv_iload hx hb dL_lives_434 (lv_at hl 1 rfl) ?_
                  refine lv_if_eq (tgt := 460) hx hb dL_lives_436 (by decide) (fun c => absurd c (by decide)) (fun _ => ?_)
                  refine lv_iload hx hb dL_lives_439 (lv_at hl 2 rfl) ?_
                  refine lv_if_gt (tgt := 456) hx hb dL_lives_441 (by decide) (fun c_98 => ?_) (fun c_98 => ?_)
                  · refine lv_iconst (v := 1) hx hb dL_lives_456 (by decide) ?_
                    refine lv_goto (tgt := 461) hx hb dL_lives_457 (by decide) ?_
                    exact fk_zretE (Nat.le_of_ble_eq_true rfl) (Nat.le_of_ble_eq_true rfl) hx hb hr hlocks hP hK hD hS rfl ⟨rfl, _, _, rfl, (hG1).wk (by omega)⟩ dL_lives_461
                  · refine lv_aload_n hx hb dL_lives_444 rfl (lv_at hl 5 rfl) ?_
                    refine lv_iload hx hb dL_lives_445 (lv_at hl 4 rfl) ?_
                    refine fk_callS (As := [.ref (ad 0), .int (nI t)]) (rest := []) ⟨hx, hb, hml, hown, hts⟩ (kl_threads l D ad cI cT cJ _ (kk_exit S t) hG1.1.sz hG1.1.J (nI t)) (va_cwS 2 hts gL_lives_L_threads rfl rfl rfl (by decide +kernel) ⟨Nat.le_of_ble_eq_true rfl, Nat.le_of_ble_eq_true rfl⟩) hK hP hD hS hA rfl hl.1 rfl (Nat.le_of_ble_eq_true rfl) dL_lives_447 ⟨Nat.le_of_ble_eq_true rfl, Nat.le_of_ble_eq_true rfl⟩ (fun H locs hP hD hS => ?_)
                    refine W.eq (g2 := F0 m 450 ls [.long (pl_thr (kk_exit S t) (nI t))]) rfl ?_
                    refine W.eq (g2 := F0 m 450 ls [.long (pl_thr S (nI t))]) (by rw [show (pl_thr (kk_exit S t) (nI t)) = (pl_thr S (nI t)) from (fO (Nat.eq_zero_of_not_pos (fun h9 => c_98 (nI_lt (a := 0) h9 (by omega)))))]) ?_
                    refine lv_lload hx hb dL_lives_450 (lv_at hl 3 rfl) ?_
                    refine W.lcmp hx hb dL_lives_452 ?_
                    refine W.eq (g2 := F0 m 453 ls [.int 0]) (by rw [fk_cmp_self]) ?_
                    refine lv_if_ne (tgt := 460) hx hb dL_lives_453 (by decide) (fun c => absurd c (by decide)) (fun _ => ?_)
                    refine lv_iconst (v := 1) hx hb dL_lives_456 (by decide) ?_
                    refine lv_goto (tgt := 461) hx hb dL_lives_457 (by decide) ?_
                    exact fk_zretE (Nat.le_of_ble_eq_true rfl) (Nat.le_of_ble_eq_true rfl) hx hb hr hlocks hP hK hD hS rfl ⟨rfl, _, _, rfl, (hG1).wk (by omega)⟩ dL_lives_461
                | succ n1 ih1 =>
                  intro a ha9 H locs ls hP hD hS hl
                  refine lv_iload hx hb dL_lives_371 (lv_at hl 0 rfl) ?_
                  refine lv_bipush (v := 16) hx hb dL_lives_373 (by decide) ?_
                  refine lv_icmp_ge (tgt := 434) hx hb dL_lives_375 (by decide) (fun c_100 => absurd c_100 (nI_ge (a := a) (b := 16) (by omega) (by omega))) (fun c_100 => ?_)
                  refine lv_iload hx hb dL_lives_378 (lv_at hl 1 rfl) ?_
                  refine lv_if_eq (tgt := 434) hx hb dL_lives_380 (by decide) (fun c => absurd c (by decide)) (fun _ => ?_)
                  refine lv_iconst (v := 0) hx hb dL_lives_383 (by decide) ?_
                  refine lv_istore (lv' := [(17, .int 0), (16, .int (nI a)), (15, .int 1), (14, .int (nI m9)), (12, .long (pl_thr S (nI t))), (5, .int (nI t)), (0, .ref (ad 0))]) hx hb dL_lives_384 hl (by decide) rfl (fun ls hl => ?_)
                  have loop2 : ∀ (n2 : Nat) (k : Nat), k + n2 = (kq_A (kk_exit S t) a).length → ∀ (H : Heap) (locs : List Loc) (ls : Array Slot), va_P D vwCl (fk_kW ad cI cT (kk_exit S t) ++ (q, fk_pr cI P) :: X) H → va_D A (fk_kW ad cI cT (kk_exit S t) ++ (q, fk_pr cI P) :: X) → va_S A s.heap H locs → lv_has ls 20 [(17, .int (nI k)), (16, .int (nI a)), (15, .int 1), (14, .int (nI m9)), (12, .long (pl_thr S (nI t))), (5, .int (nI t)), (0, .ref (ad 0))] → W p l e rm_E s m ([.ref (ad 0), .ref q, .int y, .int od] : List Value).toArray below meth c H locs (0 + 1) (0 + 6) (MQ below (fk_QE D (fk_ty cI cT cJ) A (kq_Phi ad cI cT q X (n + 20))) ([.ref (ad 0), .ref q, .int y, .int od] : List Value).toArray s 2 12 A) (F0 m 386 ls []) := by
                    intro n2
                    induction n2 with
                    | zero =>
                      intro k hk H locs ls hP hD hS hl
                      have h8 := kq_A8 (kk_exit S t) a
                      refine lv_iload hx hb dL_lives_386 (lv_at hl 0 rfl) ?_
                      refine lv_aload_n hx hb dL_lives_388 rfl (lv_at hl 6 rfl) ?_
                      refine lv_iload hx hb dL_lives_389 (lv_at hl 1 rfl) ?_
                      refine fk_callV (As := [.int (nI a)]) (rest := [.int (nI k)]) ⟨hx, hb, hml, hown, hts⟩ (kc_waiters l D ad cI cT cJ _ (kk_exit S t) a (by omega)) (cwV 1 hts gL_lives_X2_waiters rfl rfl rfl (by decide +kernel) ⟨Nat.le_of_ble_eq_true rfl, Nat.le_of_ble_eq_true rfl⟩) (fk_rvK hK hP) hK hP hD hS hA rfl hl.1 rfl (Nat.le_of_ble_eq_true rfl) dL_lives_391 ⟨Nat.le_of_ble_eq_true rfl, Nat.le_of_ble_eq_true rfl⟩ (fun H locs hP hD hS => ?_)
                      refine W.eq (g2 := F0 m 394 ls [.int (kk_waiters (kk_exit S t) (nI a)), .int (nI k)]) rfl ?_
                      refine W.eq (g2 := F0 m 394 ls [.int (nI ((kq_A (kk_exit S t) a).length)), .int (nI k)]) (by rw [show (kk_waiters (kk_exit S t) (nI a)) = (nI ((kq_A (kk_exit S t) a).length)) from (kq_waiters _ _)]) ?_
                      refine lv_icmp_ge (tgt := 428) hx hb dL_lives_394 (by decide) (fun c_102 => ?_) (fun c_102 => absurd (nI_le (a := (kq_A (kk_exit S t) a).length) (b := k) (by omega) (by omega)) c_102)
                      refine lv_iinc (v := (nI (a + 1))) (lv' := [(16, .int (nI (a + 1))), (17, .int (nI k)), (15, .int 1), (14, .int (nI m9)), (12, .long (pl_thr S (nI t))), (5, .int (nI t)), (0, .ref (ad 0))]) hx hb dL_lives_428 hl (k := 1) rfl (nI_1 a) (by decide) rfl (fun ls hl => ?_)
                      refine lv_goto (tgt := 371) hx hb dL_lives_431 (by decide) ?_
                      exact ih1 (a + 1) (by omega) _ _ _ hP hD hS (lv_sub hl [0, 2, 3, 4, 5, 6] rfl)
                    | succ n2 ih2 =>
                      intro k hk H locs ls hP hD hS hl
                      have h8 := kq_A8 (kk_exit S t) a
                      obtain ⟨u, hgu, -⟩ := kq_step hk
                      have hut : ¬ nI u = nI t := kq_out hgu f3 (by omega) ht
                      refine lv_iload hx hb dL_lives_386 (lv_at hl 0 rfl) ?_
                      refine lv_aload_n hx hb dL_lives_388 rfl (lv_at hl 6 rfl) ?_
                      refine lv_iload hx hb dL_lives_389 (lv_at hl 1 rfl) ?_
                      refine fk_callV (As := [.int (nI a)]) (rest := [.int (nI k)]) ⟨hx, hb, hml, hown, hts⟩ (kc_waiters l D ad cI cT cJ _ (kk_exit S t) a (by omega)) (cwV 1 hts gL_lives_X2_waiters rfl rfl rfl (by decide +kernel) ⟨Nat.le_of_ble_eq_true rfl, Nat.le_of_ble_eq_true rfl⟩) (fk_rvK hK hP) hK hP hD hS hA rfl hl.1 rfl (Nat.le_of_ble_eq_true rfl) dL_lives_391 ⟨Nat.le_of_ble_eq_true rfl, Nat.le_of_ble_eq_true rfl⟩ (fun H locs hP hD hS => ?_)
                      refine W.eq (g2 := F0 m 394 ls [.int (kk_waiters (kk_exit S t) (nI a)), .int (nI k)]) rfl ?_
                      refine W.eq (g2 := F0 m 394 ls [.int (nI ((kq_A (kk_exit S t) a).length)), .int (nI k)]) (by rw [show (kk_waiters (kk_exit S t) (nI a)) = (nI ((kq_A (kk_exit S t) a).length)) from (kq_waiters _ _)]) ?_
                      refine lv_icmp_ge (tgt := 428) hx hb dL_lives_394 (by decide) (fun c_103 => absurd c_103 (nI_ge (a := k) (b := (kq_A (kk_exit S t) a).length) (by omega) (by omega))) (fun c_103 => ?_)
                      refine lv_iload hx hb dL_lives_397 (lv_at hl 2 rfl) ?_
                      refine lv_if_eq (tgt := 428) hx hb dL_lives_399 (by decide) (fun c => absurd c (by decide)) (fun _ => ?_)
                      refine lv_aload_n hx hb dL_lives_402 rfl (lv_at hl 6 rfl) ?_
                      refine lv_iload hx hb dL_lives_403 (lv_at hl 1 rfl) ?_
                      refine lv_iload hx hb dL_lives_405 (lv_at hl 0 rfl) ?_
                      refine fk_callV (As := [.int (nI a), .int (nI k)]) (rest := []) ⟨hx, hb, hml, hown, hts⟩ (kc_waiterAt l D ad cI cT cJ _ (kk_exit S t) a (by omega) (nI k) u (by rw [kq_wAt hG1.1.J (by omega) (by omega)]; exact hgu)) (cwV 2 hts gL_lives_X2_waiterAt rfl rfl rfl (by decide +kernel) ⟨Nat.le_of_ble_eq_true rfl, Nat.le_of_ble_eq_true rfl⟩) (fk_rvK hK hP) hK hP hD hS hA rfl hl.1 rfl (Nat.le_of_ble_eq_true rfl) dL_lives_407 ⟨Nat.le_of_ble_eq_true rfl, Nat.le_of_ble_eq_true rfl⟩ (fun H locs hP hD hS => ?_)
                      refine W.eq (g2 := F0 m 410 ls [.int (nI u)]) rfl ?_
                      refine lv_iload hx hb dL_lives_410 (lv_at hl 5 rfl) ?_
                      refine lv_icmp_eq (tgt := 419) hx hb dL_lives_412 (by decide) (fun c_105 => absurd c_105 hut) (fun c_105 => ?_)
                      refine lv_iconst (v := 1) hx hb dL_lives_415 (by decide) ?_
                      refine lv_goto (tgt := 420) hx hb dL_lives_416 (by decide) ?_
                      refine lv_istore (lv' := [(15, .int 1), (17, .int (nI k)), (16, .int (nI a)), (14, .int (nI m9)), (12, .long (pl_thr S (nI t))), (5, .int (nI t)), (0, .ref (ad 0))]) hx hb dL_lives_420 hl (by decide) rfl (fun ls hl => ?_)
                      refine lv_iinc (v := (nI (k + 1))) (lv' := [(17, .int (nI (k + 1))), (15, .int 1), (16, .int (nI a)), (14, .int (nI m9)), (12, .long (pl_thr S (nI t))), (5, .int (nI t)), (0, .ref (ad 0))]) hx hb dL_lives_422 hl (k := 1) rfl (nI_1 k) (by decide) rfl (fun ls hl => ?_)
                      refine lv_goto (tgt := 386) hx hb dL_lives_425 (by decide) ?_
                      exact ih2 (k + 1) (by omega) _ _ _ hP hD hS (lv_sub hl [0, 2, 1, 3, 4, 5, 6] rfl)
                  exact loop2 (kq_A (kk_exit S t) a).length 0 (by omega) _ _ _ hP hD hS (lv_sub hl [0, 1, 2, 3, 4, 5, 6] rfl)
              exact loop1 16 0 rfl _ _ _ hP hD hS (lv_sub hl [0, 1, 2, 3, 9, 11] rfl)
        · rcases (hG.1.T ht).st with hs | hs | hs | hs
          · have hl : lv_has ls 20 [(12, .long (pl_thr S (nI t))), (10, .long (pl_thr S (-1))), (9, .int (pl_last S)), (8, .int (S 3 t)), (7, .int 0), (6, .int 0), (5, .int (nI t)), (4, .int (pl_some y 12)), (0, .ref (ad 0)), (1, .ref q), (2, .int y), (3, .int od)] := by rw [hs] at hl; exact hl
            refine lv_aload_n hx hb dL_lives_124 rfl (lv_at hl 8 rfl) ?_
            refine lv_bipush (v := 8) hx hb dL_lives_125 (by decide) ?_
            refine lv_iload hx hb dL_lives_127 (lv_at hl 6 rfl) ?_
            refine lv_iconst (v := 0) hx hb dL_lives_129 (by decide) ?_
            refine lv_iconst (v := 0) hx hb dL_lives_130 (by decide) ?_
            refine lv_iconst (v := 0) hx hb dL_lives_131 (by decide) ?_
            refine fk_lcallS (As := [.ref (ad 0), .int 8, .int (nI t), .int 0, .int 0, .int 0]) (rest := []) ⟨hx, hb, hml, hown, hts⟩ (Lx_interrupt_IS l D ad cI cT cJ _ S _ _ _ _ (fun X => kx_starts8 l D ad cI cT cJ X S _ (fun X => kx_interrupt_2 l D ad cI cT cJ X S hst t ht (kk_q_no hG.1 ht (Or.inl hs))))) (vx_cwSW 6 hts gL_lives_L_acts rfl rfl rfl (by decide +kernel) ⟨Nat.le_of_ble_eq_true rfl, Nat.le_of_ble_eq_true rfl⟩) hK hP hD hS hA hZ hN rfl hl.1 rfl (Nat.le_of_ble_eq_true rfl) dL_lives_132 ⟨Nat.le_of_ble_eq_true rfl, Nat.le_of_ble_eq_true rfl⟩ (fun H locs hP hD hS => ?_)
            refine W.eq (g2 := F0 m 135 ls [.int (-2147483203)]) rfl ?_
            refine lv_istore (lv' := [(14, .int (-2147483203)), (12, .long (pl_thr S (nI t))), (10, .long (pl_thr S (-1))), (9, .int (pl_last S)), (8, .int (S 3 t)), (7, .int 0), (6, .int 0), (5, .int (nI t)), (4, .int (pl_some y 12)), (0, .ref (ad 0)), (1, .ref q), (2, .int y), (3, .int od)]) hx hb dL_lives_135 hl (by decide) rfl (fun ls hl => ?_)
            refine lv_iload hx hb dL_lives_137 (lv_at hl 6 rfl) ?_
            refine lv_if_ne (tgt := 153) hx hb dL_lives_139 (by decide) (fun c => absurd c (by decide)) (fun _ => ?_)
            refine lv_iload hx hb dL_lives_142 (lv_at hl 5 rfl) ?_
            refine lv_if_eq (tgt := 153) hx hb dL_lives_144 (by decide) (fun _ => ?_) (fun c => absurd c (by decide))
            refine lv_iload hx hb dL_lives_153 (lv_at hl 0 rfl) ?_
            refine lv_iload hx hb dL_lives_155 (lv_at hl 6 rfl) ?_
            refine lv_if_eq (tgt := 165) hx hb dL_lives_157 (by decide) (fun _ => ?_) (fun c => absurd c (by decide))
            refine lv_ldc (own := RL) (v := (-2147483203)) hx hb hown (hts (.constant RL 23 (-2147483203)) (List.mem_of_getElem? (i := 2) rfl)) dL_lives_165 ?_
            refine lv_icmp_ne (tgt := 185) hx hb dL_lives_167 (by decide) (fun c => absurd c (by decide)) (fun _ => ?_)
            refine lv_aload_n hx hb dL_lives_170 rfl (lv_at hl 9 rfl) ?_
            refine lv_iconst (v := (-1)) hx hb dL_lives_171 (by decide) ?_
            refine fk_callS (As := [.ref (ad 0), .int (-1)]) (rest := []) ⟨hx, hb, hml, hown, hts⟩ (kl_threads l D ad cI cT cJ _ S hG.1.sz hG.1.J (-1)) (va_cwS 2 hts gL_lives_L_threads rfl rfl rfl (by decide +kernel) ⟨Nat.le_of_ble_eq_true rfl, Nat.le_of_ble_eq_true rfl⟩) hK hP hD hS hA rfl hl.1 rfl (Nat.le_of_ble_eq_true rfl) dL_lives_172 ⟨Nat.le_of_ble_eq_true rfl, Nat.le_of_ble_eq_true rfl⟩ (fun H locs hP hD hS => ?_)
            refine W.eq (g2 := F0 m 175 ls [.long (pl_thr S (-1))]) rfl ?_
            refine lv_lload hx hb dL_lives_175 (lv_at hl 2 rfl) ?_
            refine W.lcmp hx hb dL_lives_177 ?_
            refine W.eq (g2 := F0 m 178 ls [.int 0]) (by rw [fk_cmp_self]) ?_
            refine lv_if_ne (tgt := 185) hx hb dL_lives_178 (by decide) (fun c => absurd c (by decide)) (fun _ => ?_)
            refine lv_iconst (v := 1) hx hb dL_lives_181 (by decide) ?_
            refine lv_goto (tgt := 186) hx hb dL_lives_182 (by decide) ?_
            exact fk_zretE (Nat.le_of_ble_eq_true rfl) (Nat.le_of_ble_eq_true rfl) hx hb hr hlocks hP hK hD hS rfl ⟨rfl, _, _, rfl, (hG).wk (by omega)⟩ dL_lives_186
          · have hl : lv_has ls 20 [(12, .long (pl_thr S (nI t))), (10, .long (pl_thr S (-1))), (9, .int (pl_last S)), (8, .int (S 3 t)), (7, .int 1), (6, .int 0), (5, .int (nI t)), (4, .int (pl_some y 12)), (0, .ref (ad 0)), (1, .ref q), (2, .int y), (3, .int od)] := by rw [hs] at hl; exact hl
            obtain ⟨a, ha, e3⟩ := (hG.1.T ht).q (Or.inl hs)
            have hl : lv_has ls 20 [(12, .long (pl_thr S (nI t))), (10, .long (pl_thr S (-1))), (9, .int (pl_last S)), (8, .int (nI a)), (7, .int 1), (6, .int 0), (5, .int (nI t)), (4, .int (pl_some y 12)), (0, .ref (ad 0)), (1, .ref q), (2, .int y), (3, .int od)] := by rw [e3] at hl; exact hl
            refine lv_aload_n hx hb dL_lives_124 rfl (lv_at hl 8 rfl) ?_
            refine lv_bipush (v := 8) hx hb dL_lives_125 (by decide) ?_
            refine lv_iload hx hb dL_lives_127 (lv_at hl 6 rfl) ?_
            refine lv_iconst (v := 0) hx hb dL_lives_129 (by decide) ?_
            refine lv_iconst (v := 0) hx hb dL_lives_130 (by decide) ?_
            refine lv_iconst (v := 0) hx hb dL_lives_131 (by decide) ?_
            have hG1 := hG.end (r := 2) ht (by omega) (by decide) (Or.inl hs)
            refine fk_lcallS (As := [.ref (ad 0), .int 8, .int (nI t), .int 0, .int 0, .int 0]) (rest := []) ⟨hx, hb, hml, hown, hts⟩ (Lc_interrupt l D ad cI cT cJ _ S _ _ _ _ (kk_end S t 2) (fun X => kl_starts8 l D ad cI cT cJ X S _ (kk_end S t 2) (fun X => kc_interrupt l D ad cI cT cJ X S t ht (kk_q_yes hG.1 ht (Or.inl hs))))) (vx_cwSW 6 hts gL_lives_L_acts rfl rfl rfl (by decide +kernel) ⟨Nat.le_of_ble_eq_true rfl, Nat.le_of_ble_eq_true rfl⟩) hK hP hD hS hA hZ hN rfl hl.1 rfl (Nat.le_of_ble_eq_true rfl) dL_lives_132 ⟨Nat.le_of_ble_eq_true rfl, Nat.le_of_ble_eq_true rfl⟩ (fun H locs hP hD hS => ?_)
            refine W.eq (g2 := F0 m 135 ls [.int 0]) rfl ?_
            refine lv_istore (lv' := [(14, .int 0), (12, .long (pl_thr S (nI t))), (10, .long (pl_thr S (-1))), (9, .int (pl_last S)), (8, .int (nI a)), (7, .int 1), (6, .int 0), (5, .int (nI t)), (4, .int (pl_some y 12)), (0, .ref (ad 0)), (1, .ref q), (2, .int y), (3, .int od)]) hx hb dL_lives_135 hl (by decide) rfl (fun ls hl => ?_)
            refine lv_iload hx hb dL_lives_137 (lv_at hl 6 rfl) ?_
            refine lv_if_ne (tgt := 153) hx hb dL_lives_139 (by decide) (fun c => absurd c (by decide)) (fun _ => ?_)
            refine lv_iload hx hb dL_lives_142 (lv_at hl 5 rfl) ?_
            refine lv_if_eq (tgt := 153) hx hb dL_lives_144 (by decide) (fun c => absurd c (by decide)) (fun _ => ?_)
            refine lv_iload hx hb dL_lives_147 (lv_at hl 5 rfl) ?_
            refine lv_iconst (v := 3) hx hb dL_lives_149 (by decide) ?_
            refine lv_icmp_ne (tgt := 187) hx hb dL_lives_150 (by decide) (fun _ => ?_) (fun c => absurd c (by decide))
            refine lv_iload hx hb dL_lives_187 (lv_at hl 0 rfl) ?_
            refine lv_if_ne (tgt := 262) hx hb dL_lives_189 (by decide) (fun c => absurd c (by decide)) (fun _ => ?_)
            refine lv_aload_n hx hb dL_lives_192 rfl (lv_at hl 9 rfl) ?_
            refine lv_iload hx hb dL_lives_193 (lv_at hl 7 rfl) ?_
            refine fk_callV (As := [.int (nI t)]) (rest := []) ⟨hx, hb, hml, hown, hts⟩ (kc_stateOf l D ad cI cT cJ _ (kk_end S t 2) t ht) (cwV 1 hts gL_lives_X2_stateOf rfl rfl rfl (by decide +kernel) ⟨Nat.le_of_ble_eq_true rfl, Nat.le_of_ble_eq_true rfl⟩) (fk_rvK hK hP) hK hP hD hS hA rfl hl.1 rfl (Nat.le_of_ble_eq_true rfl) dL_lives_195 ⟨Nat.le_of_ble_eq_true rfl, Nat.le_of_ble_eq_true rfl⟩ (fun H locs hP hD hS => ?_)
            refine W.eq (g2 := F0 m 198 ls [.int ((kk_end S t 2) 1 t)]) rfl ?_
            refine W.eq (g2 := F0 m 198 ls [.int 0]) (by rw [show ((kk_end S t 2) 1 t) = (0 : Int32) from (kk_end_1 2)]) ?_
            refine lv_if_ne (tgt := 262) hx hb dL_lives_198 (by decide) (fun c => absurd c (by decide)) (fun _ => ?_)
            refine lv_aload_n hx hb dL_lives_201 rfl (lv_at hl 9 rfl) ?_
            refine lv_iload hx hb dL_lives_202 (lv_at hl 7 rfl) ?_
            refine fk_callV (As := [.int (nI t)]) (rest := []) ⟨hx, hb, hml, hown, hts⟩ (kc_resultOf l D ad cI cT cJ _ (kk_end S t 2) t ht) (cwV 1 hts gL_lives_X2_resultOf rfl rfl rfl (by decide +kernel) ⟨Nat.le_of_ble_eq_true rfl, Nat.le_of_ble_eq_true rfl⟩) (fk_rvK hK hP) hK hP hD hS hA rfl hl.1 rfl (Nat.le_of_ble_eq_true rfl) dL_lives_204 ⟨Nat.le_of_ble_eq_true rfl, Nat.le_of_ble_eq_true rfl⟩ (fun H locs hP hD hS => ?_)
            refine W.eq (g2 := F0 m 207 ls [.int ((kk_end S t 2) 8 t)]) rfl ?_
            refine W.eq (g2 := F0 m 207 ls [.int 2]) (by rw [show ((kk_end S t 2) 8 t) = (2 : Int32) from (kk_end_8 2)]) ?_
            refine lv_iconst (v := 2) hx hb dL_lives_207 (by decide) ?_
            refine lv_icmp_ne (tgt := 262) hx hb dL_lives_208 (by decide) (fun c => absurd c (by decide)) (fun _ => ?_)
            refine lv_aload_n hx hb dL_lives_211 rfl (lv_at hl 9 rfl) ?_
            refine lv_iload hx hb dL_lives_212 (lv_at hl 7 rfl) ?_
            refine fk_callV (As := [.int (nI t)]) (rest := []) ⟨hx, hb, hml, hown, hts⟩ (kc_serialOf l D ad cI cT cJ _ (kk_end S t 2) t ht) (cwV 1 hts gL_lives_X2_serialOf rfl rfl rfl (by decide +kernel) ⟨Nat.le_of_ble_eq_true rfl, Nat.le_of_ble_eq_true rfl⟩) (fk_rvK hK hP) hK hP hD hS hA rfl hl.1 rfl (Nat.le_of_ble_eq_true rfl) dL_lives_214 ⟨Nat.le_of_ble_eq_true rfl, Nat.le_of_ble_eq_true rfl⟩ (fun H locs hP hD hS => ?_)
            refine W.eq (g2 := F0 m 217 ls [.int ((kk_end S t 2) 9 t)]) rfl ?_
            refine lv_iload hx hb dL_lives_217 (lv_at hl 3 rfl) ?_
            refine lv_icmp_le (tgt := 262) hx hb dL_lives_219 (by decide) (fun c_117 => absurd c_117 (Int32.not_le.mpr (by rw [kk_end_9]; exact hG.1.ser (by omega)))) (fun c_117 => ?_)
            refine lv_aload_n hx hb dL_lives_222 rfl (lv_at hl 9 rfl) ?_
            refine lv_iload hx hb dL_lives_223 (lv_at hl 7 rfl) ?_
            refine fk_callS (As := [.ref (ad 0), .int (nI t)]) (rest := []) ⟨hx, hb, hml, hown, hts⟩ (kl_threads l D ad cI cT cJ _ (kk_end S t 2) hG1.1.sz hG1.1.J (nI t)) (va_cwS 2 hts gL_lives_L_threads rfl rfl rfl (by decide +kernel) ⟨Nat.le_of_ble_eq_true rfl, Nat.le_of_ble_eq_true rfl⟩) hK hP hD hS hA rfl hl.1 rfl (Nat.le_of_ble_eq_true rfl) dL_lives_225 ⟨Nat.le_of_ble_eq_true rfl, Nat.le_of_ble_eq_true rfl⟩ (fun H locs hP hD hS => ?_)
            refine W.eq (g2 := F0 m 228 ls [.long (pl_thr (kk_end S t 2) (nI t))]) rfl ?_
            refine W.eq (g2 := F0 m 228 ls [.long (pl_thr S (nI t))]) (by rw [show (pl_thr (kk_end S t 2) (nI t)) = (pl_thr S (nI t)) from (hG.1.thr hG1.1 (kk_end_Off 2))]) ?_
            refine lv_lload hx hb dL_lives_228 (lv_at hl 1 rfl) ?_
            refine W.lcmp hx hb dL_lives_230 ?_
            refine W.eq (g2 := F0 m 231 ls [.int 0]) (by rw [fk_cmp_self]) ?_
            refine lv_if_ne (tgt := 262) hx hb dL_lives_231 (by decide) (fun c => absurd c (by decide)) (fun _ => ?_)
            refine lv_iload hx hb dL_lives_234 (lv_at hl 5 rfl) ?_
            refine lv_iconst (v := 1) hx hb dL_lives_236 (by decide) ?_
            refine lv_icmp_eq (tgt := 258) hx hb dL_lives_237 (by decide) (fun _ => ?_) (fun c => absurd c (by decide))
            refine lv_iconst (v := 1) hx hb dL_lives_258 (by decide) ?_
            refine lv_goto (tgt := 263) hx hb dL_lives_259 (by decide) ?_
            exact fk_zretE (Nat.le_of_ble_eq_true rfl) (Nat.le_of_ble_eq_true rfl) hx hb hr hlocks hP hK hD hS rfl ⟨rfl, _, _, rfl, (hG1).wk (by omega)⟩ dL_lives_263
          · have hl : lv_has ls 20 [(12, .long (pl_thr S (nI t))), (10, .long (pl_thr S (-1))), (9, .int (pl_last S)), (8, .int (S 3 t)), (7, .int 2), (6, .int 0), (5, .int (nI t)), (4, .int (pl_some y 12)), (0, .ref (ad 0)), (1, .ref q), (2, .int y), (3, .int od)] := by rw [hs] at hl; exact hl
            obtain ⟨a, ha, e3⟩ := (hG.1.T ht).q (Or.inr hs)
            have hl : lv_has ls 20 [(12, .long (pl_thr S (nI t))), (10, .long (pl_thr S (-1))), (9, .int (pl_last S)), (8, .int (nI a)), (7, .int 2), (6, .int 0), (5, .int (nI t)), (4, .int (pl_some y 12)), (0, .ref (ad 0)), (1, .ref q), (2, .int y), (3, .int od)] := by rw [e3] at hl; exact hl
            refine lv_aload_n hx hb dL_lives_124 rfl (lv_at hl 8 rfl) ?_
            refine lv_bipush (v := 8) hx hb dL_lives_125 (by decide) ?_
            refine lv_iload hx hb dL_lives_127 (lv_at hl 6 rfl) ?_
            refine lv_iconst (v := 0) hx hb dL_lives_129 (by decide) ?_
            refine lv_iconst (v := 0) hx hb dL_lives_130 (by decide) ?_
            refine lv_iconst (v := 0) hx hb dL_lives_131 (by decide) ?_
            have hG1 := hG.end (r := 2) ht (by omega) (by decide) (Or.inr hs)
            refine fk_lcallS (As := [.ref (ad 0), .int 8, .int (nI t), .int 0, .int 0, .int 0]) (rest := []) ⟨hx, hb, hml, hown, hts⟩ (Lc_interrupt l D ad cI cT cJ _ S _ _ _ _ (kk_end S t 2) (fun X => kl_starts8 l D ad cI cT cJ X S _ (kk_end S t 2) (fun X => kc_interrupt l D ad cI cT cJ X S t ht (kk_q_yes hG.1 ht (Or.inr hs))))) (vx_cwSW 6 hts gL_lives_L_acts rfl rfl rfl (by decide +kernel) ⟨Nat.le_of_ble_eq_true rfl, Nat.le_of_ble_eq_true rfl⟩) hK hP hD hS hA hZ hN rfl hl.1 rfl (Nat.le_of_ble_eq_true rfl) dL_lives_132 ⟨Nat.le_of_ble_eq_true rfl, Nat.le_of_ble_eq_true rfl⟩ (fun H locs hP hD hS => ?_)
            refine W.eq (g2 := F0 m 135 ls [.int 0]) rfl ?_
            refine lv_istore (lv' := [(14, .int 0), (12, .long (pl_thr S (nI t))), (10, .long (pl_thr S (-1))), (9, .int (pl_last S)), (8, .int (nI a)), (7, .int 2), (6, .int 0), (5, .int (nI t)), (4, .int (pl_some y 12)), (0, .ref (ad 0)), (1, .ref q), (2, .int y), (3, .int od)]) hx hb dL_lives_135 hl (by decide) rfl (fun ls hl => ?_)
            refine lv_iload hx hb dL_lives_137 (lv_at hl 6 rfl) ?_
            refine lv_if_ne (tgt := 153) hx hb dL_lives_139 (by decide) (fun c => absurd c (by decide)) (fun _ => ?_)
            refine lv_iload hx hb dL_lives_142 (lv_at hl 5 rfl) ?_
            refine lv_if_eq (tgt := 153) hx hb dL_lives_144 (by decide) (fun c => absurd c (by decide)) (fun _ => ?_)
            refine lv_iload hx hb dL_lives_147 (lv_at hl 5 rfl) ?_
            refine lv_iconst (v := 3) hx hb dL_lives_149 (by decide) ?_
            refine lv_icmp_ne (tgt := 187) hx hb dL_lives_150 (by decide) (fun _ => ?_) (fun c => absurd c (by decide))
            refine lv_iload hx hb dL_lives_187 (lv_at hl 0 rfl) ?_
            refine lv_if_ne (tgt := 262) hx hb dL_lives_189 (by decide) (fun c => absurd c (by decide)) (fun _ => ?_)
            refine lv_aload_n hx hb dL_lives_192 rfl (lv_at hl 9 rfl) ?_
            refine lv_iload hx hb dL_lives_193 (lv_at hl 7 rfl) ?_
            refine fk_callV (As := [.int (nI t)]) (rest := []) ⟨hx, hb, hml, hown, hts⟩ (kc_stateOf l D ad cI cT cJ _ (kk_end S t 2) t ht) (cwV 1 hts gL_lives_X2_stateOf rfl rfl rfl (by decide +kernel) ⟨Nat.le_of_ble_eq_true rfl, Nat.le_of_ble_eq_true rfl⟩) (fk_rvK hK hP) hK hP hD hS hA rfl hl.1 rfl (Nat.le_of_ble_eq_true rfl) dL_lives_195 ⟨Nat.le_of_ble_eq_true rfl, Nat.le_of_ble_eq_true rfl⟩ (fun H locs hP hD hS => ?_)
            refine W.eq (g2 := F0 m 198 ls [.int ((kk_end S t 2) 1 t)]) rfl ?_
            refine W.eq (g2 := F0 m 198 ls [.int 0]) (by rw [show ((kk_end S t 2) 1 t) = (0 : Int32) from (kk_end_1 2)]) ?_
            refine lv_if_ne (tgt := 262) hx hb dL_lives_198 (by decide) (fun c => absurd c (by decide)) (fun _ => ?_)
            refine lv_aload_n hx hb dL_lives_201 rfl (lv_at hl 9 rfl) ?_
            refine lv_iload hx hb dL_lives_202 (lv_at hl 7 rfl) ?_
            refine fk_callV (As := [.int (nI t)]) (rest := []) ⟨hx, hb, hml, hown, hts⟩ (kc_resultOf l D ad cI cT cJ _ (kk_end S t 2) t ht) (cwV 1 hts gL_lives_X2_resultOf rfl rfl rfl (by decide +kernel) ⟨Nat.le_of_ble_eq_true rfl, Nat.le_of_ble_eq_true rfl⟩) (fk_rvK hK hP) hK hP hD hS hA rfl hl.1 rfl (Nat.le_of_ble_eq_true rfl) dL_lives_204 ⟨Nat.le_of_ble_eq_true rfl, Nat.le_of_ble_eq_true rfl⟩ (fun H locs hP hD hS => ?_)
            refine W.eq (g2 := F0 m 207 ls [.int ((kk_end S t 2) 8 t)]) rfl ?_
            refine W.eq (g2 := F0 m 207 ls [.int 2]) (by rw [show ((kk_end S t 2) 8 t) = (2 : Int32) from (kk_end_8 2)]) ?_
            refine lv_iconst (v := 2) hx hb dL_lives_207 (by decide) ?_
            refine lv_icmp_ne (tgt := 262) hx hb dL_lives_208 (by decide) (fun c => absurd c (by decide)) (fun _ => ?_)
            refine lv_aload_n hx hb dL_lives_211 rfl (lv_at hl 9 rfl) ?_
            refine lv_iload hx hb dL_lives_212 (lv_at hl 7 rfl) ?_
            refine fk_callV (As := [.int (nI t)]) (rest := []) ⟨hx, hb, hml, hown, hts⟩ (kc_serialOf l D ad cI cT cJ _ (kk_end S t 2) t ht) (cwV 1 hts gL_lives_X2_serialOf rfl rfl rfl (by decide +kernel) ⟨Nat.le_of_ble_eq_true rfl, Nat.le_of_ble_eq_true rfl⟩) (fk_rvK hK hP) hK hP hD hS hA rfl hl.1 rfl (Nat.le_of_ble_eq_true rfl) dL_lives_214 ⟨Nat.le_of_ble_eq_true rfl, Nat.le_of_ble_eq_true rfl⟩ (fun H locs hP hD hS => ?_)
            refine W.eq (g2 := F0 m 217 ls [.int ((kk_end S t 2) 9 t)]) rfl ?_
            refine lv_iload hx hb dL_lives_217 (lv_at hl 3 rfl) ?_
            refine lv_icmp_le (tgt := 262) hx hb dL_lives_219 (by decide) (fun c_126 => absurd c_126 (Int32.not_le.mpr (by rw [kk_end_9]; exact hG.1.ser (by omega)))) (fun c_126 => ?_)
            refine lv_aload_n hx hb dL_lives_222 rfl (lv_at hl 9 rfl) ?_
            refine lv_iload hx hb dL_lives_223 (lv_at hl 7 rfl) ?_
            refine fk_callS (As := [.ref (ad 0), .int (nI t)]) (rest := []) ⟨hx, hb, hml, hown, hts⟩ (kl_threads l D ad cI cT cJ _ (kk_end S t 2) hG1.1.sz hG1.1.J (nI t)) (va_cwS 2 hts gL_lives_L_threads rfl rfl rfl (by decide +kernel) ⟨Nat.le_of_ble_eq_true rfl, Nat.le_of_ble_eq_true rfl⟩) hK hP hD hS hA rfl hl.1 rfl (Nat.le_of_ble_eq_true rfl) dL_lives_225 ⟨Nat.le_of_ble_eq_true rfl, Nat.le_of_ble_eq_true rfl⟩ (fun H locs hP hD hS => ?_)
            refine W.eq (g2 := F0 m 228 ls [.long (pl_thr (kk_end S t 2) (nI t))]) rfl ?_
            refine W.eq (g2 := F0 m 228 ls [.long (pl_thr S (nI t))]) (by rw [show (pl_thr (kk_end S t 2) (nI t)) = (pl_thr S (nI t)) from (hG.1.thr hG1.1 (kk_end_Off 2))]) ?_
            refine lv_lload hx hb dL_lives_228 (lv_at hl 1 rfl) ?_
            refine W.lcmp hx hb dL_lives_230 ?_
            refine W.eq (g2 := F0 m 231 ls [.int 0]) (by rw [fk_cmp_self]) ?_
            refine lv_if_ne (tgt := 262) hx hb dL_lives_231 (by decide) (fun c => absurd c (by decide)) (fun _ => ?_)
            refine lv_iload hx hb dL_lives_234 (lv_at hl 5 rfl) ?_
            refine lv_iconst (v := 1) hx hb dL_lives_236 (by decide) ?_
            refine lv_icmp_eq (tgt := 258) hx hb dL_lives_237 (by decide) (fun c => absurd c (by decide)) (fun _ => ?_)
            refine lv_aload_n hx hb dL_lives_240 rfl (lv_at hl 9 rfl) ?_
            refine lv_iload hx hb dL_lives_241 (lv_at hl 4 rfl) ?_
            refine fk_callV (As := [.int (nI a)]) (rest := []) ⟨hx, hb, hml, hown, hts⟩ (kc_word l D ad cI cT cJ _ (kk_end S t 2) a ha) (cwV 1 hts gL_lives_X2_word rfl rfl rfl (by decide +kernel) ⟨Nat.le_of_ble_eq_true rfl, Nat.le_of_ble_eq_true rfl⟩) (fk_rvK hK hP) hK hP hD hS hA rfl hl.1 rfl (Nat.le_of_ble_eq_true rfl) dL_lives_243 ⟨Nat.le_of_ble_eq_true rfl, Nat.le_of_ble_eq_true rfl⟩ (fun H locs hP hD hS => ?_)
            refine W.eq (g2 := F0 m 246 ls [.int ((kk_end S t 2) 0 a)]) rfl ?_
            refine lv_if_ge (tgt := 258) hx hb dL_lives_246 (by decide) (fun c_129 => ?_) (fun c_129 => ?_)
            · refine lv_iconst (v := 1) hx hb dL_lives_258 (by decide) ?_
              refine lv_goto (tgt := 263) hx hb dL_lives_259 (by decide) ?_
              exact fk_zretE (Nat.le_of_ble_eq_true rfl) (Nat.le_of_ble_eq_true rfl) hx hb hr hlocks hP hK hD hS rfl ⟨rfl, _, _, rfl, (hG1).wk (by omega)⟩ dL_lives_263
            · refine lv_aload_n hx hb dL_lives_249 rfl (lv_at hl 9 rfl) ?_
              refine lv_iload hx hb dL_lives_250 (lv_at hl 4 rfl) ?_
              refine fk_callV (As := [.int (nI a)]) (rest := []) ⟨hx, hb, hml, hown, hts⟩ (kc_waiters l D ad cI cT cJ _ (kk_end S t 2) a ha) (cwV 1 hts gL_lives_X2_waiters rfl rfl rfl (by decide +kernel) ⟨Nat.le_of_ble_eq_true rfl, Nat.le_of_ble_eq_true rfl⟩) (fk_rvK hK hP) hK hP hD hS hA rfl hl.1 rfl (Nat.le_of_ble_eq_true rfl) dL_lives_252 ⟨Nat.le_of_ble_eq_true rfl, Nat.le_of_ble_eq_true rfl⟩ (fun H locs hP hD hS => ?_)
              refine W.eq (g2 := F0 m 255 ls [.int (kk_waiters (kk_end S t 2) (nI a))]) rfl ?_
              refine lv_if_le (tgt := 262) hx hb dL_lives_255 (by decide) (fun c_130 => absurd c_130 ((kk_end_word hG.1 ht 2 (Or.inr hs) ha e3).elim (fun w => absurd (hs.symm.trans w) (by decide)) (fun w => w.elim (fun w => absurd w c_129) (fun w => Int32.not_le.mpr w)))) (fun c_130 => ?_)
              refine lv_iconst (v := 1) hx hb dL_lives_258 (by decide) ?_
              refine lv_goto (tgt := 263) hx hb dL_lives_259 (by decide) ?_
              exact fk_zretE (Nat.le_of_ble_eq_true rfl) (Nat.le_of_ble_eq_true rfl) hx hb hr hlocks hP hK hD hS rfl ⟨rfl, _, _, rfl, (hG1).wk (by omega)⟩ dL_lives_263
          · have hl : lv_has ls 20 [(12, .long (pl_thr S (nI t))), (10, .long (pl_thr S (-1))), (9, .int (pl_last S)), (8, .int (S 3 t)), (7, .int 3), (6, .int 0), (5, .int (nI t)), (4, .int (pl_some y 12)), (0, .ref (ad 0)), (1, .ref q), (2, .int y), (3, .int od)] := by rw [hs] at hl; exact hl
            refine lv_aload_n hx hb dL_lives_124 rfl (lv_at hl 8 rfl) ?_
            refine lv_bipush (v := 8) hx hb dL_lives_125 (by decide) ?_
            refine lv_iload hx hb dL_lives_127 (lv_at hl 6 rfl) ?_
            refine lv_iconst (v := 0) hx hb dL_lives_129 (by decide) ?_
            refine lv_iconst (v := 0) hx hb dL_lives_130 (by decide) ?_
            refine lv_iconst (v := 0) hx hb dL_lives_131 (by decide) ?_
            refine fk_lcallS (As := [.ref (ad 0), .int 8, .int (nI t), .int 0, .int 0, .int 0]) (rest := []) ⟨hx, hb, hml, hown, hts⟩ (Lx_interrupt_IS l D ad cI cT cJ _ S _ _ _ _ (fun X => kx_starts8 l D ad cI cT cJ X S _ (fun X => kx_interrupt_2 l D ad cI cT cJ X S hst t ht (kk_q_no hG.1 ht (Or.inr hs))))) (vx_cwSW 6 hts gL_lives_L_acts rfl rfl rfl (by decide +kernel) ⟨Nat.le_of_ble_eq_true rfl, Nat.le_of_ble_eq_true rfl⟩) hK hP hD hS hA hZ hN rfl hl.1 rfl (Nat.le_of_ble_eq_true rfl) dL_lives_132 ⟨Nat.le_of_ble_eq_true rfl, Nat.le_of_ble_eq_true rfl⟩ (fun H locs hP hD hS => ?_)
            refine W.eq (g2 := F0 m 135 ls [.int (-2147483203)]) rfl ?_
            refine lv_istore (lv' := [(14, .int (-2147483203)), (12, .long (pl_thr S (nI t))), (10, .long (pl_thr S (-1))), (9, .int (pl_last S)), (8, .int (S 3 t)), (7, .int 3), (6, .int 0), (5, .int (nI t)), (4, .int (pl_some y 12)), (0, .ref (ad 0)), (1, .ref q), (2, .int y), (3, .int od)]) hx hb dL_lives_135 hl (by decide) rfl (fun ls hl => ?_)
            refine lv_iload hx hb dL_lives_137 (lv_at hl 6 rfl) ?_
            refine lv_if_ne (tgt := 153) hx hb dL_lives_139 (by decide) (fun c => absurd c (by decide)) (fun _ => ?_)
            refine lv_iload hx hb dL_lives_142 (lv_at hl 5 rfl) ?_
            refine lv_if_eq (tgt := 153) hx hb dL_lives_144 (by decide) (fun c => absurd c (by decide)) (fun _ => ?_)
            refine lv_iload hx hb dL_lives_147 (lv_at hl 5 rfl) ?_
            refine lv_iconst (v := 3) hx hb dL_lives_149 (by decide) ?_
            refine lv_icmp_ne (tgt := 187) hx hb dL_lives_150 (by decide) (fun c => absurd c (by decide)) (fun _ => ?_)
            refine lv_iload hx hb dL_lives_153 (lv_at hl 0 rfl) ?_
            refine lv_iload hx hb dL_lives_155 (lv_at hl 6 rfl) ?_
            refine lv_if_eq (tgt := 165) hx hb dL_lives_157 (by decide) (fun _ => ?_) (fun c => absurd c (by decide))
            refine lv_ldc (own := RL) (v := (-2147483203)) hx hb hown (hts (.constant RL 23 (-2147483203)) (List.mem_of_getElem? (i := 2) rfl)) dL_lives_165 ?_
            refine lv_icmp_ne (tgt := 185) hx hb dL_lives_167 (by decide) (fun c => absurd c (by decide)) (fun _ => ?_)
            refine lv_aload_n hx hb dL_lives_170 rfl (lv_at hl 9 rfl) ?_
            refine lv_iconst (v := (-1)) hx hb dL_lives_171 (by decide) ?_
            refine fk_callS (As := [.ref (ad 0), .int (-1)]) (rest := []) ⟨hx, hb, hml, hown, hts⟩ (kl_threads l D ad cI cT cJ _ S hG.1.sz hG.1.J (-1)) (va_cwS 2 hts gL_lives_L_threads rfl rfl rfl (by decide +kernel) ⟨Nat.le_of_ble_eq_true rfl, Nat.le_of_ble_eq_true rfl⟩) hK hP hD hS hA rfl hl.1 rfl (Nat.le_of_ble_eq_true rfl) dL_lives_172 ⟨Nat.le_of_ble_eq_true rfl, Nat.le_of_ble_eq_true rfl⟩ (fun H locs hP hD hS => ?_)
            refine W.eq (g2 := F0 m 175 ls [.long (pl_thr S (-1))]) rfl ?_
            refine lv_lload hx hb dL_lives_175 (lv_at hl 2 rfl) ?_
            refine W.lcmp hx hb dL_lives_177 ?_
            refine W.eq (g2 := F0 m 178 ls [.int 0]) (by rw [fk_cmp_self]) ?_
            refine lv_if_ne (tgt := 185) hx hb dL_lives_178 (by decide) (fun c => absurd c (by decide)) (fun _ => ?_)
            refine lv_iconst (v := 1) hx hb dL_lives_181 (by decide) ?_
            refine lv_goto (tgt := 186) hx hb dL_lives_182 (by decide) ?_
            exact fk_zretE (Nat.le_of_ble_eq_true rfl) (Nat.le_of_ble_eq_true rfl) hx hb hr hlocks hP hK hD hS rfl ⟨rfl, _, _, rfl, (hG).wk (by omega)⟩ dL_lives_186
      · have hout9 : fk_isT th = false := Bool.eq_false_iff.mpr hout
        have hov : ov = 1 := by rw [h_ov, hout9]; rfl
        have hl : lv_has ls 20 [(6, .int 1), (5, .int th), (4, .int (pl_some y 12)), (0, .ref (ad 0)), (1, .ref q), (2, .int y), (3, .int od)] := by rw [hov] at hl; exact hl
        refine lv_iload hx hb dL_lives_54 (lv_at hl 0 rfl) ?_
        refine lv_if_eq (tgt := 63) hx hb dL_lives_56 (by decide) (fun c => absurd c (by decide)) (fun _ => ?_)
        refine lv_iconst (v := 0) hx hb dL_lives_59 (by decide) ?_
        refine lv_goto (tgt := 69) hx hb dL_lives_60 (by decide) ?_
        refine lv_istore (lv' := [(7, .int 0), (6, .int 1), (5, .int th), (4, .int (pl_some y 12)), (0, .ref (ad 0)), (1, .ref q), (2, .int y), (3, .int od)]) hx hb dL_lives_69 hl (by decide) rfl (fun ls hl => ?_)
        refine lv_iload hx hb dL_lives_71 (lv_at hl 1 rfl) ?_
        refine lv_if_eq (tgt := 80) hx hb dL_lives_73 (by decide) (fun c => absurd c (by decide)) (fun _ => ?_)
        refine lv_iconst (v := (-1)) hx hb dL_lives_76 (by decide) ?_
        refine lv_goto (tgt := 86) hx hb dL_lives_77 (by decide) ?_
        refine lv_istore (lv' := [(8, .int (-1)), (7, .int 0), (6, .int 1), (5, .int th), (4, .int (pl_some y 12)), (0, .ref (ad 0)), (1, .ref q), (2, .int y), (3, .int od)]) hx hb dL_lives_86 hl (by decide) rfl (fun ls hl => ?_)
        refine lv_aload_n hx hb dL_lives_88 rfl (lv_at hl 5 rfl) ?_
        refine fk_callS (As := [.ref (ad 0)]) (rest := []) ⟨hx, hb, hml, hown, hts⟩ (kl_last l D ad cI cT cJ _ S) (va_cwS 1 hts gL_lives_L_last rfl rfl rfl (by decide +kernel) ⟨Nat.le_of_ble_eq_true rfl, Nat.le_of_ble_eq_true rfl⟩) hK hP hD hS hA rfl hl.1 rfl (Nat.le_of_ble_eq_true rfl) dL_lives_89 ⟨Nat.le_of_ble_eq_true rfl, Nat.le_of_ble_eq_true rfl⟩ (fun H locs hP hD hS => ?_)
        refine W.eq (g2 := F0 m 92 ls [.int (pl_last S)]) rfl ?_
        refine lv_istore (lv' := [(9, .int (pl_last S)), (8, .int (-1)), (7, .int 0), (6, .int 1), (5, .int th), (4, .int (pl_some y 12)), (0, .ref (ad 0)), (1, .ref q), (2, .int y), (3, .int od)]) hx hb dL_lives_92 hl (by decide) rfl (fun ls hl => ?_)
        refine lv_aload_n hx hb dL_lives_94 rfl (lv_at hl 6 rfl) ?_
        refine lv_iconst (v := (-1)) hx hb dL_lives_95 (by decide) ?_
        refine fk_callS (As := [.ref (ad 0), .int (-1)]) (rest := []) ⟨hx, hb, hml, hown, hts⟩ (kl_threads l D ad cI cT cJ _ S hG.1.sz hG.1.J (-1)) (va_cwS 2 hts gL_lives_L_threads rfl rfl rfl (by decide +kernel) ⟨Nat.le_of_ble_eq_true rfl, Nat.le_of_ble_eq_true rfl⟩) hK hP hD hS hA rfl hl.1 rfl (Nat.le_of_ble_eq_true rfl) dL_lives_96 ⟨Nat.le_of_ble_eq_true rfl, Nat.le_of_ble_eq_true rfl⟩ (fun H locs hP hD hS => ?_)
        refine W.eq (g2 := F0 m 99 ls [.long (pl_thr S (-1))]) rfl ?_
        refine lv_lstore (lv' := [(10, .long (pl_thr S (-1))), (9, .int (pl_last S)), (8, .int (-1)), (7, .int 0), (6, .int 1), (5, .int th), (4, .int (pl_some y 12)), (0, .ref (ad 0)), (1, .ref q), (2, .int y), (3, .int od)]) hx hb dL_lives_99 hl (by decide) rfl (fun ls hl => ?_)
        refine lv_aload_n hx hb dL_lives_101 rfl (lv_at hl 7 rfl) ?_
        refine lv_iload hx hb dL_lives_102 (lv_at hl 4 rfl) ?_
        refine lv_if_eq (tgt := 111) hx hb dL_lives_104 (by decide) (fun c => absurd c (by decide)) (fun _ => ?_)
        refine lv_iconst (v := (-1)) hx hb dL_lives_107 (by decide) ?_
        refine lv_goto (tgt := 113) hx hb dL_lives_108 (by decide) ?_
        refine fk_callS (As := [.ref (ad 0), .int (-1)]) (rest := []) ⟨hx, hb, hml, hown, hts⟩ (kl_threads l D ad cI cT cJ _ S hG.1.sz hG.1.J (-1)) (va_cwS 2 hts gL_lives_L_threads rfl rfl rfl (by decide +kernel) ⟨Nat.le_of_ble_eq_true rfl, Nat.le_of_ble_eq_true rfl⟩) hK hP hD hS hA rfl hl.1 rfl (Nat.le_of_ble_eq_true rfl) dL_lives_113 ⟨Nat.le_of_ble_eq_true rfl, Nat.le_of_ble_eq_true rfl⟩ (fun H locs hP hD hS => ?_)
        refine W.eq (g2 := F0 m 116 ls [.long (pl_thr S (-1))]) rfl ?_
        refine lv_lstore (lv' := [(12, .long (pl_thr S (-1))), (10, .long (pl_thr S (-1))), (9, .int (pl_last S)), (8, .int (-1)), (7, .int 0), (6, .int 1), (5, .int th), (4, .int (pl_some y 12)), (0, .ref (ad 0)), (1, .ref q), (2, .int y), (3, .int od)]) hx hb dL_lives_116 hl (by decide) rfl (fun ls hl => ?_)
        refine lv_iload hx hb dL_lives_118 (lv_at hl 7 rfl) ?_
        refine lv_iconst (v := 3) hx hb dL_lives_120 (by decide) ?_
        refine lv_icmp_ge (tgt := 264) hx hb dL_lives_121 (by decide) (fun c_140 => ?_) (fun c_140 => ?_)
        · refine lv_iload hx hb dL_lives_264 (lv_at hl 7 rfl) ?_
          refine lv_iconst (v := 5) hx hb dL_lives_266 (by decide) ?_
          refine lv_icmp_ge (tgt := 462) hx hb dL_lives_267 (by decide) (fun c_141 => ?_) (fun c_141 => ?_)
          · refine lv_iload hx hb dL_lives_462 (lv_at hl 7 rfl) ?_
            refine lv_bipush (v := 8) hx hb dL_lives_464 (by decide) ?_
            refine lv_icmp_ge (tgt := 683) hx hb dL_lives_466 (by decide) (fun c_142 => ?_) (fun c_142 => ?_)
            · refine lv_iload hx hb dL_lives_683 (lv_at hl 7 rfl) ?_
              refine lv_bipush (v := 10) hx hb dL_lives_685 (by decide) ?_
              refine lv_icmp_ge (tgt := 804) hx hb dL_lives_687 (by decide) (fun c_143 => ?_) (fun c_143 => ?_)
              · refine lv_aload_n hx hb dL_lives_804 rfl (lv_at hl 8 rfl) ?_
                refine fk_callV (As := []) (rest := []) ⟨hx, hb, hml, hown, hts⟩ (kc_nextTimeout l D ad cI cT cJ _ S) (cwV 0 hts gL_lives_X2_nextTimeout rfl rfl rfl (by decide +kernel) ⟨Nat.le_of_ble_eq_true rfl, Nat.le_of_ble_eq_true rfl⟩) (fk_rvK hK hP) hK hP hD hS hA rfl hl.1 rfl (Nat.le_of_ble_eq_true rfl) dL_lives_805 ⟨Nat.le_of_ble_eq_true rfl, Nat.le_of_ble_eq_true rfl⟩ (fun H locs hP hD hS => ?_)
                refine W.eq (g2 := F0 m 808 ls [.int (kk_nextR S)]) rfl ?_
                refine lv_istore (lv' := [(14, .int (kk_nextR S)), (12, .long (pl_thr S (-1))), (10, .long (pl_thr S (-1))), (9, .int (pl_last S)), (8, .int (-1)), (7, .int 0), (6, .int 1), (5, .int th), (4, .int (pl_some y 12)), (0, .ref (ad 0)), (1, .ref q), (2, .int y), (3, .int od)]) hx hb dL_lives_808 hl (by decide) rfl (fun ls hl => ?_)
                refine lv_aload_n hx hb dL_lives_810 rfl (lv_at hl 9 rfl) ?_
                refine fk_callV (As := []) (rest := []) ⟨hx, hb, hml, hown, hts⟩ (kc_now l D ad cI cT cJ _ S) (cwV 0 hts gL_lives_X2_now rfl rfl rfl (by decide +kernel) ⟨Nat.le_of_ble_eq_true rfl, Nat.le_of_ble_eq_true rfl⟩) (fk_rvK hK hP) hK hP hD hS hA rfl hl.1 rfl (Nat.le_of_ble_eq_true rfl) dL_lives_811 ⟨Nat.le_of_ble_eq_true rfl, Nat.le_of_ble_eq_true rfl⟩ (fun H locs hP hD hS => ?_)
                refine W.eq (g2 := F0 m 814 ls [.int (S 12 0)]) rfl ?_
                refine lv_istore (lv' := [(15, .int (S 12 0)), (14, .int (kk_nextR S)), (12, .long (pl_thr S (-1))), (10, .long (pl_thr S (-1))), (9, .int (pl_last S)), (8, .int (-1)), (7, .int 0), (6, .int 1), (5, .int th), (4, .int (pl_some y 12)), (0, .ref (ad 0)), (1, .ref q), (2, .int y), (3, .int od)]) hx hb dL_lives_814 hl (by decide) rfl (fun ls hl => ?_)
                refine lv_iload_n hx hb dL_lives_816 rfl (lv_at hl 13 rfl) ?_
                refine lv_if_eq (tgt := 841) hx hb dL_lives_817 (by decide) (fun c_144 => ?_) (fun c_144 => ?_)
                · refine lv_iconst (v := 1) hx hb dL_lives_841 (by decide) ?_
                  refine lv_iload_n hx hb dL_lives_842 rfl (lv_at hl 12 rfl) ?_
                  refine lv_bipush (v := 6) hx hb dL_lives_843 (by decide) ?_
                  refine lv_ishr hx hb dL_lives_845 ?_
                  refine lv_iconst (v := 3) hx hb dL_lives_846 (by decide) ?_
                  refine fk_callS (As := [.int (y >>> (6 &&& 31)), .int 3]) (rest := [.int 1]) ⟨hx, hb, hml, hown, hts⟩ (kl_some l D ad cI cT cJ _ S (y >>> (6 &&& 31)) 3 (by decide)) (va_cwS 2 hts gL_lives_L_some rfl rfl rfl (by decide +kernel) ⟨Nat.le_of_ble_eq_true rfl, Nat.le_of_ble_eq_true rfl⟩) hK hP hD hS hA rfl hl.1 rfl (Nat.le_of_ble_eq_true rfl) dL_lives_847 ⟨Nat.le_of_ble_eq_true rfl, Nat.le_of_ble_eq_true rfl⟩ (fun H locs hP hD hS => ?_)
                  refine W.eq (g2 := F0 m 850 ls [.int (pl_some (y >>> (6 &&& 31)) 3), .int 1]) rfl ?_
                  refine lv_iadd hx hb dL_lives_850 ?_
                  obtain ⟨j9, hj9, ej9⟩ := pl_some_N (y >>> (6 &&& 31)) (k := 3) (by decide) (by decide)
                  have hd1 : 1 ≤ 1 + j9 := by omega
                  have hd2 : 1 + j9 ≤ 1000 := by omega
                  have ed9 : (1 : Int32) + pl_some (y >>> (6 &&& 31)) 3 = nI (1 + j9) := by rw [show (3 : Int32) = nI 3 from rfl, ej9, show (1 : Int32) = nI 1 from rfl, nI_add]
                  obtain ⟨d9, ed8⟩ : ∃ d9, d9 = 1 + j9 := ⟨_, rfl⟩
                  rw [← ed8] at hd1 hd2 ed9
                  have hdb : fk_btw (nI d9) 1 1000 = true := fk_wF (lo := 1) (hi := 1000) (Int32.not_lt.mpr (nI_le (a := 1) hd1 (by omega))) (nI_le (b := 1000) hd2 (by omega))
                  refine W.eq (g2 := F0 m 851 ls [.int (nI d9)]) (by rw [ed9]) ?_
                  refine lv_istore (lv' := [(16, .int (nI d9)), (15, .int (S 12 0)), (14, .int (kk_nextR S)), (12, .long (pl_thr S (-1))), (10, .long (pl_thr S (-1))), (9, .int (pl_last S)), (8, .int (-1)), (7, .int 0), (6, .int 1), (5, .int th), (4, .int (pl_some y 12)), (0, .ref (ad 0)), (1, .ref q), (2, .int y), (3, .int od)]) hx hb dL_lives_851 hl (by decide) rfl (fun ls hl => ?_)
                  refine lv_aload_n hx hb dL_lives_853 rfl (lv_at hl 11 rfl) ?_
                  refine lv_iconst (v := 5) hx hb dL_lives_854 (by decide) ?_
                  refine lv_iload hx hb dL_lives_855 (lv_at hl 0 rfl) ?_
                  refine lv_iconst (v := 0) hx hb dL_lives_857 (by decide) ?_
                  refine lv_iconst (v := 0) hx hb dL_lives_858 (by decide) ?_
                  refine lv_iconst (v := 0) hx hb dL_lives_859 (by decide) ?_
                  obtain ⟨hG1, hT1, m9, hm9, em, hcnt, hiff, hnx⟩ := kq_tick hG (by omega) hd1 hd2
                  refine fk_lcallS (As := [.ref (ad 0), .int 5, .int (nI d9), .int 0, .int 0, .int 0]) (rest := []) ⟨hx, hb, hml, hown, hts⟩ (Lc_tick l D ad cI cT cJ _ S _ _ _ _ (kk_tick S (nI d9)) (nI m9) (fun X => by rw [← em]; exact kc_tick l D ad cI cT cJ X S (nI d9) hdb)) (vx_cwSW 6 hts gL_lives_L_acts rfl rfl rfl (by decide +kernel) ⟨Nat.le_of_ble_eq_true rfl, Nat.le_of_ble_eq_true rfl⟩) hK hP hD hS hA hZ hN rfl hl.1 rfl (Nat.le_of_ble_eq_true rfl) dL_lives_860 ⟨Nat.le_of_ble_eq_true rfl, Nat.le_of_ble_eq_true rfl⟩ (fun H locs hP hD hS => ?_)
                  refine W.eq (g2 := F0 m 863 ls [.int (nI m9)]) rfl ?_
                  refine lv_istore (lv' := [(17, .int (nI m9)), (16, .int (nI d9)), (15, .int (S 12 0)), (14, .int (kk_nextR S)), (12, .long (pl_thr S (-1))), (10, .long (pl_thr S (-1))), (9, .int (pl_last S)), (8, .int (-1)), (7, .int 0), (6, .int 1), (5, .int th), (4, .int (pl_some y 12)), (0, .ref (ad 0)), (1, .ref q), (2, .int y), (3, .int od)]) hx hb dL_lives_863 hl (by decide) rfl (fun ls hl => ?_)
                  refine lv_iload_n hx hb dL_lives_865 rfl (lv_at hl 15 rfl) ?_
                  refine lv_if_eq (tgt := 893) hx hb dL_lives_866 (by decide) (fun c_145 => ?_) (fun c9 => absurd c_144 c9)
                  refine lv_iconst (v := 0) hx hb dL_lives_893 (by decide) ?_
                  refine lv_istore (lv' := [(18, .int 0), (17, .int (nI m9)), (16, .int (nI d9)), (15, .int (S 12 0)), (14, .int (kk_nextR S)), (12, .long (pl_thr S (-1))), (10, .long (pl_thr S (-1))), (9, .int (pl_last S)), (8, .int (-1)), (7, .int 0), (6, .int 1), (5, .int th), (4, .int (pl_some y 12)), (0, .ref (ad 0)), (1, .ref q), (2, .int y), (3, .int od)]) hx hb dL_lives_894 hl (by decide) rfl (fun ls hl => ?_)
                  refine lv_iconst (v := 0) hx hb dL_lives_896 (by decide) ?_
                  refine lv_istore (lv' := [(19, .int 0), (18, .int 0), (17, .int (nI m9)), (16, .int (nI d9)), (15, .int (S 12 0)), (14, .int (kk_nextR S)), (12, .long (pl_thr S (-1))), (10, .long (pl_thr S (-1))), (9, .int (pl_last S)), (8, .int (-1)), (7, .int 0), (6, .int 1), (5, .int th), (4, .int (pl_some y 12)), (0, .ref (ad 0)), (1, .ref q), (2, .int y), (3, .int od)]) hx hb dL_lives_897 hl (by decide) rfl (fun ls hl => ?_)
                  have loop1 : ∀ (n1 : Nat) (u k : Nat), u + n1 = 8 → pl_cn (kk_tick S (nI d9)) (pl_last S) n1 u k = m9 → ∀ (H : Heap) (locs : List Loc) (ls : Array Slot), va_P D vwCl (fk_kW ad cI cT (kk_tick S (nI d9)) ++ (q, fk_pr cI P) :: X) H → va_D A (fk_kW ad cI cT (kk_tick S (nI d9)) ++ (q, fk_pr cI P) :: X) → va_S A s.heap H locs → lv_has ls 20 [(19, .int (nI u)), (18, .int (nI k)), (17, .int (nI m9)), (16, .int (nI d9)), (15, .int (S 12 0)), (14, .int (kk_nextR S)), (9, .int (pl_last S)), (0, .ref (ad 0))] → W p l e rm_E s m ([.ref (ad 0), .ref q, .int y, .int od] : List Value).toArray below meth c H locs (0 + 1) (0 + 6) (MQ below (fk_QE D (fk_ty cI cT cJ) A (kq_Phi ad cI cT q X (n + 20))) ([.ref (ad 0), .ref q, .int y, .int od] : List Value).toArray s 2 12 A) (F0 m 899 ls []) := by
                    intro n1
                    induction n1 with
                    | zero =>
                      intro u k hu9 hc H locs ls hP hD hS hl
                      have hc9 : k = m9 := hc
                      have hl : lv_has ls 20 [(19, .int (nI u)), (18, .int (nI m9)), (17, .int (nI m9)), (16, .int (nI d9)), (15, .int (S 12 0)), (14, .int (kk_nextR S)), (9, .int (pl_last S)), (0, .ref (ad 0))] := by rw [hc9] at hl; exact hl
                      refine lv_iload hx hb dL_lives_899 (lv_at hl 0 rfl) ?_
                      refine lv_bipush (v := 8) hx hb dL_lives_901 (by decide) ?_
                      refine lv_icmp_ge (tgt := 943) hx hb dL_lives_903 (by decide) (fun c_146 => ?_) (fun c_146 => absurd (nI_le (a := 8) (b := u) (by omega) (by omega)) c_146)
                      refine lv_aload_n hx hb dL_lives_943 rfl (lv_at hl 7 rfl) ?_
                      refine fk_callV (As := []) (rest := []) ⟨hx, hb, hml, hown, hts⟩ (kc_now l D ad cI cT cJ _ (kk_tick S (nI d9))) (cwV 0 hts gL_lives_X2_now rfl rfl rfl (by decide +kernel) ⟨Nat.le_of_ble_eq_true rfl, Nat.le_of_ble_eq_true rfl⟩) (fk_rvK hK hP) hK hP hD hS hA rfl hl.1 rfl (Nat.le_of_ble_eq_true rfl) dL_lives_944 ⟨Nat.le_of_ble_eq_true rfl, Nat.le_of_ble_eq_true rfl⟩ (fun H locs hP hD hS => ?_)
                      refine W.eq (g2 := F0 m 947 ls [.int ((kk_tick S (nI d9)) 12 0)]) rfl ?_
                      refine W.eq (g2 := F0 m 947 ls [.int ((S 12 0) + (nI d9))]) (by rw [show ((kk_tick S (nI d9)) 12 0) = ((S 12 0) + (nI d9)) from hT1]) ?_
                      refine lv_iload hx hb dL_lives_947 (lv_at hl 4 rfl) ?_
                      refine lv_iload hx hb dL_lives_949 (lv_at hl 3 rfl) ?_
                      refine lv_iadd hx hb dL_lives_951 ?_
                      refine lv_icmp_ne (tgt := 1024) hx hb dL_lives_952 (by decide) (fun c => absurd rfl c) (fun _ => ?_)
                      refine lv_iload hx hb dL_lives_955 (lv_at hl 2 rfl) ?_
                      refine lv_iload hx hb dL_lives_957 (lv_at hl 1 rfl) ?_
                      refine lv_icmp_ne (tgt := 1024) hx hb dL_lives_959 (by decide) (fun c => absurd rfl c) (fun _ => ?_)
                      refine lv_iload hx hb dL_lives_962 (lv_at hl 5 rfl) ?_
                      refine lv_iconst (v := (-1)) hx hb dL_lives_964 (by decide) ?_
                      refine lv_icmp_eq (tgt := 975) hx hb dL_lives_965 (by decide) (fun c_147 => ?_) (fun c_147 => ?_)
                      · refine lv_iconst (v := 1) hx hb dL_lives_975 (by decide) ?_
                        refine lv_goto (tgt := 980) hx hb dL_lives_976 (by decide) ?_
                        refine lv_iload hx hb dL_lives_980 (lv_at hl 2 rfl) ?_
                        refine lv_if_ne (tgt := 989) hx hb dL_lives_982 (by decide) (fun c_148 => absurd c_148 (fun h9 => h9 (by rw [hiff.mp (Or.inl c_147)]; rfl))) (fun c_148 => ?_)
                        refine lv_iconst (v := 1) hx hb dL_lives_985 (by decide) ?_
                        refine lv_goto (tgt := 990) hx hb dL_lives_986 (by decide) ?_
                        refine lv_icmp_ne (tgt := 1024) hx hb dL_lives_990 (by decide) (fun c => absurd c (by decide)) (fun _ => ?_)
                        have hm0 : m9 = 0 := hiff.mp (Or.inl c_147)
                        have hl : lv_has ls 20 [(19, .int (nI u)), (18, .int 0), (17, .int 0), (16, .int (nI d9)), (15, .int (S 12 0)), (14, .int (kk_nextR S)), (9, .int (pl_last S)), (0, .ref (ad 0))] := by rw [hm0] at hl; exact hl
                        refine lv_iload hx hb dL_lives_993 (lv_at hl 2 rfl) ?_
                        refine lv_if_gt (tgt := 1020) hx hb dL_lives_995 (by decide) (fun c => absurd c (by decide)) (fun _ => ?_)
                        refine lv_aload_n hx hb dL_lives_998 rfl (lv_at hl 7 rfl) ?_
                        refine fk_callV (As := []) (rest := []) ⟨hx, hb, hml, hown, hts⟩ (kc_nextTimeout l D ad cI cT cJ _ (kk_tick S (nI d9))) (cwV 0 hts gL_lives_X2_nextTimeout rfl rfl rfl (by decide +kernel) ⟨Nat.le_of_ble_eq_true rfl, Nat.le_of_ble_eq_true rfl⟩) (fk_rvK hK hP) hK hP hD hS hA rfl hl.1 rfl (Nat.le_of_ble_eq_true rfl) dL_lives_999 ⟨Nat.le_of_ble_eq_true rfl, Nat.le_of_ble_eq_true rfl⟩ (fun H locs hP hD hS => ?_)
                        refine W.eq (g2 := F0 m 1002 ls [.int (kk_nextR (kk_tick S (nI d9)))]) rfl ?_
                        refine W.eq (g2 := F0 m 1002 ls [.int (-1)]) (by rw [show (kk_nextR (kk_tick S (nI d9))) = ((-1) : Int32) from (by rw [hnx hm0, if_pos c_147])]) ?_
                        refine lv_iload hx hb dL_lives_1002 (lv_at hl 5 rfl) ?_
                        refine lv_iconst (v := (-1)) hx hb dL_lives_1004 (by decide) ?_
                        refine lv_icmp_ne (tgt := 1012) hx hb dL_lives_1005 (by decide) (fun c_151 => absurd c_151 (fun h9 => h9 c_147)) (fun c_151 => ?_)
                        refine lv_iconst (v := (-1)) hx hb dL_lives_1008 (by decide) ?_
                        refine lv_goto (tgt := 1017) hx hb dL_lives_1009 (by decide) ?_
                        refine lv_icmp_ne (tgt := 1024) hx hb dL_lives_1017 (by decide) (fun c => absurd c (by decide)) (fun _ => ?_)
                        refine lv_iconst (v := 1) hx hb dL_lives_1020 (by decide) ?_
                        refine lv_goto (tgt := 1025) hx hb dL_lives_1021 (by decide) ?_
                        exact fk_zretE (Nat.le_of_ble_eq_true rfl) (Nat.le_of_ble_eq_true rfl) hx hb hr hlocks hP hK hD hS rfl ⟨rfl, _, _, rfl, (hG1).wk (by omega)⟩ dL_lives_1025
                      · refine lv_iload hx hb dL_lives_968 (lv_at hl 5 rfl) ?_
                        refine lv_iload hx hb dL_lives_970 (lv_at hl 3 rfl) ?_
                        refine lv_icmp_le (tgt := 979) hx hb dL_lives_972 (by decide) (fun c_153 => ?_) (fun c_153 => ?_)
                        · refine lv_iconst (v := 0) hx hb dL_lives_979 (by decide) ?_
                          refine lv_iload hx hb dL_lives_980 (lv_at hl 2 rfl) ?_
                          refine lv_if_ne (tgt := 989) hx hb dL_lives_982 (by decide) (fun c_154 => ?_) (fun c9 => (hiff.mpr ((nI_eq (a := m9) (b := 0) (by omega) (by omega)).mp c9)).elim (fun w => absurd w c_147) (fun w => absurd w (Int32.not_lt.mpr c_153)))
                          refine lv_iconst (v := 0) hx hb dL_lives_989 (by decide) ?_
                          refine lv_icmp_ne (tgt := 1024) hx hb dL_lives_990 (by decide) (fun c => absurd c (by decide)) (fun _ => ?_)
                          have hm1 : 0 < m9 := Nat.pos_of_ne_zero (fun z => c_154 (by rw [z]; rfl))
                          refine lv_iload hx hb dL_lives_993 (lv_at hl 2 rfl) ?_
                          refine lv_if_gt (tgt := 1020) hx hb dL_lives_995 (by decide) (fun c_156 => ?_) (fun c9 => absurd (nI_lt (a := 0) (b := m9) hm1 (by omega)) c9)
                          refine lv_iconst (v := 1) hx hb dL_lives_1020 (by decide) ?_
                          refine lv_goto (tgt := 1025) hx hb dL_lives_1021 (by decide) ?_
                          exact fk_zretE (Nat.le_of_ble_eq_true rfl) (Nat.le_of_ble_eq_true rfl) hx hb hr hlocks hP hK hD hS rfl ⟨rfl, _, _, rfl, (hG1).wk (by omega)⟩ dL_lives_1025
                        · refine lv_iconst (v := 1) hx hb dL_lives_975 (by decide) ?_
                          refine lv_goto (tgt := 980) hx hb dL_lives_976 (by decide) ?_
                          refine lv_iload hx hb dL_lives_980 (lv_at hl 2 rfl) ?_
                          refine lv_if_ne (tgt := 989) hx hb dL_lives_982 (by decide) (fun c_157 => absurd c_157 (fun h9 => h9 (by rw [hiff.mp (Or.inr (Int32.not_le.mp c_153))]; rfl))) (fun c_157 => ?_)
                          refine lv_iconst (v := 1) hx hb dL_lives_985 (by decide) ?_
                          refine lv_goto (tgt := 990) hx hb dL_lives_986 (by decide) ?_
                          refine lv_icmp_ne (tgt := 1024) hx hb dL_lives_990 (by decide) (fun c => absurd c (by decide)) (fun _ => ?_)
                          have hm0 : m9 = 0 := hiff.mp (Or.inr (Int32.not_le.mp c_153))
                          have hl : lv_has ls 20 [(19, .int (nI u)), (18, .int 0), (17, .int 0), (16, .int (nI d9)), (15, .int (S 12 0)), (14, .int (kk_nextR S)), (9, .int (pl_last S)), (0, .ref (ad 0))] := by rw [hm0] at hl; exact hl
                          refine lv_iload hx hb dL_lives_993 (lv_at hl 2 rfl) ?_
                          refine lv_if_gt (tgt := 1020) hx hb dL_lives_995 (by decide) (fun c => absurd c (by decide)) (fun _ => ?_)
                          refine lv_aload_n hx hb dL_lives_998 rfl (lv_at hl 7 rfl) ?_
                          refine fk_callV (As := []) (rest := []) ⟨hx, hb, hml, hown, hts⟩ (kc_nextTimeout l D ad cI cT cJ _ (kk_tick S (nI d9))) (cwV 0 hts gL_lives_X2_nextTimeout rfl rfl rfl (by decide +kernel) ⟨Nat.le_of_ble_eq_true rfl, Nat.le_of_ble_eq_true rfl⟩) (fk_rvK hK hP) hK hP hD hS hA rfl hl.1 rfl (Nat.le_of_ble_eq_true rfl) dL_lives_999 ⟨Nat.le_of_ble_eq_true rfl, Nat.le_of_ble_eq_true rfl⟩ (fun H locs hP hD hS => ?_)
                          refine W.eq (g2 := F0 m 1002 ls [.int (kk_nextR (kk_tick S (nI d9)))]) rfl ?_
                          refine W.eq (g2 := F0 m 1002 ls [.int ((kk_nextR S) - (nI d9))]) (by rw [show (kk_nextR (kk_tick S (nI d9))) = ((kk_nextR S) - (nI d9)) from (by rw [hnx hm0, if_neg c_147])]) ?_
                          refine lv_iload hx hb dL_lives_1002 (lv_at hl 5 rfl) ?_
                          refine lv_iconst (v := (-1)) hx hb dL_lives_1004 (by decide) ?_
                          refine lv_icmp_ne (tgt := 1012) hx hb dL_lives_1005 (by decide) (fun c_160 => ?_) (fun c9 => absurd c9 c_147)
                          refine lv_iload hx hb dL_lives_1012 (lv_at hl 5 rfl) ?_
                          refine lv_iload hx hb dL_lives_1014 (lv_at hl 3 rfl) ?_
                          refine lv_isub hx hb dL_lives_1016 ?_
                          refine lv_icmp_ne (tgt := 1024) hx hb dL_lives_1017 (by decide) (fun c => absurd rfl c) (fun _ => ?_)
                          refine lv_iconst (v := 1) hx hb dL_lives_1020 (by decide) ?_
                          refine lv_goto (tgt := 1025) hx hb dL_lives_1021 (by decide) ?_
                          exact fk_zretE (Nat.le_of_ble_eq_true rfl) (Nat.le_of_ble_eq_true rfl) hx hb hr hlocks hP hK hD hS rfl ⟨rfl, _, _, rfl, (hG1).wk (by omega)⟩ dL_lives_1025
                    | succ n1 ih1 =>
                      intro u k hu9 hc H locs ls hP hD hS hl
                      refine lv_iload hx hb dL_lives_899 (lv_at hl 0 rfl) ?_
                      refine lv_bipush (v := 8) hx hb dL_lives_901 (by decide) ?_
                      refine lv_icmp_ge (tgt := 943) hx hb dL_lives_903 (by decide) (fun c_161 => absurd c_161 (nI_ge (a := u) (b := 8) (by omega) (by omega))) (fun c_161 => ?_)
                      refine lv_iload hx hb dL_lives_906 (lv_at hl 1 rfl) ?_
                      refine lv_aload_n hx hb dL_lives_908 rfl (lv_at hl 7 rfl) ?_
                      refine lv_iload hx hb dL_lives_909 (lv_at hl 0 rfl) ?_
                      refine fk_callV (As := [.int (nI u)]) (rest := [.int (nI k)]) ⟨hx, hb, hml, hown, hts⟩ (kc_serialOf l D ad cI cT cJ _ (kk_tick S (nI d9)) u (by omega)) (cwV 1 hts gL_lives_X2_serialOf rfl rfl rfl (by decide +kernel) ⟨Nat.le_of_ble_eq_true rfl, Nat.le_of_ble_eq_true rfl⟩) (fk_rvK hK hP) hK hP hD hS hA rfl hl.1 rfl (Nat.le_of_ble_eq_true rfl) dL_lives_911 ⟨Nat.le_of_ble_eq_true rfl, Nat.le_of_ble_eq_true rfl⟩ (fun H locs hP hD hS => ?_)
                      refine W.eq (g2 := F0 m 914 ls [.int ((kk_tick S (nI d9)) 9 u), .int (nI k)]) rfl ?_
                      refine lv_iload hx hb dL_lives_914 (lv_at hl 6 rfl) ?_
                      refine lv_icmp_le (tgt := 933) hx hb dL_lives_916 (by decide) (fun c_162 => ?_) (fun c_162 => ?_)
                      · refine lv_iconst (v := 0) hx hb dL_lives_933 (by decide) ?_
                        refine lv_iadd hx hb dL_lives_934 ?_
                        refine W.eq (g2 := F0 m 935 ls [.int (nI k)]) (by rw [show (0 : Int32) = nI 0 from rfl, nI_add]; rfl) ?_
                        refine lv_istore (lv' := [(18, .int (nI k)), (19, .int (nI u)), (17, .int (nI m9)), (16, .int (nI d9)), (15, .int (S 12 0)), (14, .int (kk_nextR S)), (9, .int (pl_last S)), (0, .ref (ad 0))]) hx hb dL_lives_935 hl (by decide) rfl (fun ls hl => ?_)
                        refine lv_iinc (v := (nI (u + 1))) (lv' := [(19, .int (nI (u + 1))), (18, .int (nI k)), (17, .int (nI m9)), (16, .int (nI d9)), (15, .int (S 12 0)), (14, .int (kk_nextR S)), (9, .int (pl_last S)), (0, .ref (ad 0))]) hx hb dL_lives_937 hl (k := 1) rfl (nI_1 u) (by decide) rfl (fun ls hl => ?_)
                        refine lv_goto (tgt := 899) hx hb dL_lives_940 (by decide) ?_
                        exact ih1 (u + 1) k (by omega) (by simp only [pl_cn] at hc; first | (rw [if_pos ⟨Int32.not_le.mp c_162, c_162⟩] at hc; exact hc) | (rw [if_neg (fun z => absurd z.1 (Int32.not_lt.mpr c_162))] at hc; exact hc) | (rw [if_neg (fun z => absurd z.2 c_162)] at hc; exact hc)) _ _ _ hP hD hS (lv_sub hl [0, 1, 2, 3, 4, 5, 6, 7] rfl)
                      · refine lv_aload_n hx hb dL_lives_919 rfl (lv_at hl 7 rfl) ?_
                        refine lv_iload hx hb dL_lives_920 (lv_at hl 0 rfl) ?_
                        refine fk_callV (As := [.int (nI u)]) (rest := [.int (nI k)]) ⟨hx, hb, hml, hown, hts⟩ (kc_resultOf l D ad cI cT cJ _ (kk_tick S (nI d9)) u (by omega)) (cwV 1 hts gL_lives_X2_resultOf rfl rfl rfl (by decide +kernel) ⟨Nat.le_of_ble_eq_true rfl, Nat.le_of_ble_eq_true rfl⟩) (fk_rvK hK hP) hK hP hD hS hA rfl hl.1 rfl (Nat.le_of_ble_eq_true rfl) dL_lives_922 ⟨Nat.le_of_ble_eq_true rfl, Nat.le_of_ble_eq_true rfl⟩ (fun H locs hP hD hS => ?_)
                        refine W.eq (g2 := F0 m 925 ls [.int ((kk_tick S (nI d9)) 8 u), .int (nI k)]) rfl ?_
                        refine lv_iconst (v := 1) hx hb dL_lives_925 (by decide) ?_
                        refine lv_icmp_ne (tgt := 933) hx hb dL_lives_926 (by decide) (fun c_163 => ?_) (fun c_163 => ?_)
                        · refine lv_iconst (v := 0) hx hb dL_lives_933 (by decide) ?_
                          refine lv_iadd hx hb dL_lives_934 ?_
                          refine W.eq (g2 := F0 m 935 ls [.int (nI k)]) (by rw [show (0 : Int32) = nI 0 from rfl, nI_add]; rfl) ?_
                          refine lv_istore (lv' := [(18, .int (nI k)), (19, .int (nI u)), (17, .int (nI m9)), (16, .int (nI d9)), (15, .int (S 12 0)), (14, .int (kk_nextR S)), (9, .int (pl_last S)), (0, .ref (ad 0))]) hx hb dL_lives_935 hl (by decide) rfl (fun ls hl => ?_)
                          refine lv_iinc (v := (nI (u + 1))) (lv' := [(19, .int (nI (u + 1))), (18, .int (nI k)), (17, .int (nI m9)), (16, .int (nI d9)), (15, .int (S 12 0)), (14, .int (kk_nextR S)), (9, .int (pl_last S)), (0, .ref (ad 0))]) hx hb dL_lives_937 hl (k := 1) rfl (nI_1 u) (by decide) rfl (fun ls hl => ?_)
                          refine lv_goto (tgt := 899) hx hb dL_lives_940 (by decide) ?_
                          exact ih1 (u + 1) k (by omega) (by simp only [pl_cn] at hc; first | (rw [if_pos ⟨Int32.not_le.mp c_162, c_163⟩] at hc; exact hc) | (rw [if_neg (fun z => absurd z.1 (Int32.not_lt.mpr c_162))] at hc; exact hc) | (rw [if_neg (fun z => absurd z.2 c_163)] at hc; exact hc)) _ _ _ hP hD hS (lv_sub hl [0, 1, 2, 3, 4, 5, 6, 7] rfl)
                        · refine lv_iconst (v := 1) hx hb dL_lives_929 (by decide) ?_
                          refine lv_goto (tgt := 934) hx hb dL_lives_930 (by decide) ?_
                          refine lv_iadd hx hb dL_lives_934 ?_
                          refine W.eq (g2 := F0 m 935 ls [.int (nI (k + 1))]) (by rw [nI_1]) ?_
                          refine lv_istore (lv' := [(18, .int (nI (k + 1))), (19, .int (nI u)), (17, .int (nI m9)), (16, .int (nI d9)), (15, .int (S 12 0)), (14, .int (kk_nextR S)), (9, .int (pl_last S)), (0, .ref (ad 0))]) hx hb dL_lives_935 hl (by decide) rfl (fun ls hl => ?_)
                          refine lv_iinc (v := (nI (u + 1))) (lv' := [(19, .int (nI (u + 1))), (18, .int (nI (k + 1))), (17, .int (nI m9)), (16, .int (nI d9)), (15, .int (S 12 0)), (14, .int (kk_nextR S)), (9, .int (pl_last S)), (0, .ref (ad 0))]) hx hb dL_lives_937 hl (k := 1) rfl (nI_1 u) (by decide) rfl (fun ls hl => ?_)
                          refine lv_goto (tgt := 899) hx hb dL_lives_940 (by decide) ?_
                          exact ih1 (u + 1) (k + 1) (by omega) (by simp only [pl_cn] at hc; first | (rw [if_pos ⟨Int32.not_le.mp c_162, c_163⟩] at hc; exact hc) | (rw [if_neg (fun z => absurd z.1 (Int32.not_lt.mpr c_162))] at hc; exact hc) | (rw [if_neg (fun z => absurd z.2 c_163)] at hc; exact hc)) _ _ _ hP hD hS (lv_sub hl [0, 1, 2, 3, 4, 5, 6, 7] rfl)
                  exact loop1 8 0 0 rfl (by rw [pl_cn_eq, Nat.zero_add, ← hcnt, List.range_eq_range']) _ _ _ hP hD hS (lv_sub hl [0, 1, 2, 3, 4, 5, 8, 14] rfl)
                · refine lv_iload_n hx hb dL_lives_820 rfl (lv_at hl 12 rfl) ?_
                  refine lv_bipush (v := 6) hx hb dL_lives_821 (by decide) ?_
                  refine lv_ishr hx hb dL_lives_823 ?_
                  refine lv_iconst (v := 2) hx hb dL_lives_824 (by decide) ?_
                  refine fk_callS (As := [.int (y >>> (6 &&& 31)), .int 2]) (rest := []) ⟨hx, hb, hml, hown, hts⟩ (kl_some l D ad cI cT cJ _ S (y >>> (6 &&& 31)) 2 (by decide)) (va_cwS 2 hts gL_lives_L_some rfl rfl rfl (by decide +kernel) ⟨Nat.le_of_ble_eq_true rfl, Nat.le_of_ble_eq_true rfl⟩) hK hP hD hS hA rfl hl.1 rfl (Nat.le_of_ble_eq_true rfl) dL_lives_825 ⟨Nat.le_of_ble_eq_true rfl, Nat.le_of_ble_eq_true rfl⟩ (fun H locs hP hD hS => ?_)
                  refine W.eq (g2 := F0 m 828 ls [.int (pl_some (y >>> (6 &&& 31)) 2)]) rfl ?_
                  refine lv_if_ne (tgt := 837) hx hb dL_lives_828 (by decide) (fun c_164 => ?_) (fun c_164 => ?_)
                  · refine lv_iconst (v := 0) hx hb dL_lives_837 (by decide) ?_
                    refine lv_goto (tgt := 851) hx hb dL_lives_838 (by decide) ?_
                    refine lv_istore (lv' := [(16, .int 0), (15, .int (S 12 0)), (14, .int (kk_nextR S)), (12, .long (pl_thr S (-1))), (10, .long (pl_thr S (-1))), (9, .int (pl_last S)), (8, .int (-1)), (7, .int 0), (6, .int 1), (5, .int th), (4, .int (pl_some y 12)), (0, .ref (ad 0)), (1, .ref q), (2, .int y), (3, .int od)]) hx hb dL_lives_851 hl (by decide) rfl (fun ls hl => ?_)
                    refine lv_aload_n hx hb dL_lives_853 rfl (lv_at hl 11 rfl) ?_
                    refine lv_iconst (v := 5) hx hb dL_lives_854 (by decide) ?_
                    refine lv_iload hx hb dL_lives_855 (lv_at hl 0 rfl) ?_
                    refine lv_iconst (v := 0) hx hb dL_lives_857 (by decide) ?_
                    refine lv_iconst (v := 0) hx hb dL_lives_858 (by decide) ?_
                    refine lv_iconst (v := 0) hx hb dL_lives_859 (by decide) ?_
                    refine fk_lcallS (As := [.ref (ad 0), .int 5, .int 0, .int 0, .int 0, .int 0]) (rest := []) ⟨hx, hb, hml, hown, hts⟩ (Lx_tick_IA l D ad cI cT cJ _ S _ _ _ _ (fun X => kx_tick_1 l D ad cI cT cJ X S hst _ (by decide))) (vx_cwSW 6 hts gL_lives_L_acts rfl rfl rfl (by decide +kernel) ⟨Nat.le_of_ble_eq_true rfl, Nat.le_of_ble_eq_true rfl⟩) hK hP hD hS hA hZ hN rfl hl.1 rfl (Nat.le_of_ble_eq_true rfl) dL_lives_860 ⟨Nat.le_of_ble_eq_true rfl, Nat.le_of_ble_eq_true rfl⟩ (fun H locs hP hD hS => ?_)
                    refine W.eq (g2 := F0 m 863 ls [.int (-2147483202)]) rfl ?_
                    refine lv_istore (lv' := [(17, .int (-2147483202)), (16, .int 0), (15, .int (S 12 0)), (14, .int (kk_nextR S)), (12, .long (pl_thr S (-1))), (10, .long (pl_thr S (-1))), (9, .int (pl_last S)), (8, .int (-1)), (7, .int 0), (6, .int 1), (5, .int th), (4, .int (pl_some y 12)), (0, .ref (ad 0)), (1, .ref q), (2, .int y), (3, .int od)]) hx hb dL_lives_863 hl (by decide) rfl (fun ls hl => ?_)
                    refine lv_iload_n hx hb dL_lives_865 rfl (lv_at hl 15 rfl) ?_
                    refine lv_if_eq (tgt := 893) hx hb dL_lives_866 (by decide) (fun c_165 => absurd c_165 c_144) (fun c_165 => ?_)
                    refine lv_iload hx hb dL_lives_869 (lv_at hl 0 rfl) ?_
                    refine lv_ldc (own := RL) (v := (-2147483202)) hx hb hown (hts (.constant RL 20 (-2147483202)) (List.mem_of_getElem? (i := 3) rfl)) dL_lives_871 ?_
                    refine lv_icmp_ne (tgt := 891) hx hb dL_lives_873 (by decide) (fun c => absurd c (by decide)) (fun _ => ?_)
                    refine lv_aload_n hx hb dL_lives_876 rfl (lv_at hl 12 rfl) ?_
                    refine lv_iconst (v := (-1)) hx hb dL_lives_877 (by decide) ?_
                    refine fk_callS (As := [.ref (ad 0), .int (-1)]) (rest := []) ⟨hx, hb, hml, hown, hts⟩ (kl_threads l D ad cI cT cJ _ S hG.1.sz hG.1.J (-1)) (va_cwS 2 hts gL_lives_L_threads rfl rfl rfl (by decide +kernel) ⟨Nat.le_of_ble_eq_true rfl, Nat.le_of_ble_eq_true rfl⟩) hK hP hD hS hA rfl hl.1 rfl (Nat.le_of_ble_eq_true rfl) dL_lives_878 ⟨Nat.le_of_ble_eq_true rfl, Nat.le_of_ble_eq_true rfl⟩ (fun H locs hP hD hS => ?_)
                    refine W.eq (g2 := F0 m 881 ls [.long (pl_thr S (-1))]) rfl ?_
                    refine lv_lload hx hb dL_lives_881 (lv_at hl 5 rfl) ?_
                    refine W.lcmp hx hb dL_lives_883 ?_
                    refine W.eq (g2 := F0 m 884 ls [.int 0]) (by rw [fk_cmp_self]) ?_
                    refine lv_if_ne (tgt := 891) hx hb dL_lives_884 (by decide) (fun c => absurd c (by decide)) (fun _ => ?_)
                    refine lv_iconst (v := 1) hx hb dL_lives_887 (by decide) ?_
                    refine lv_goto (tgt := 892) hx hb dL_lives_888 (by decide) ?_
                    exact fk_zretE (Nat.le_of_ble_eq_true rfl) (Nat.le_of_ble_eq_true rfl) hx hb hr hlocks hP hK hD hS rfl ⟨rfl, _, _, rfl, (hG).wk (by omega)⟩ dL_lives_892
                  · refine lv_sipush (v := 1001) hx hb dL_lives_831 (by decide) ?_
                    refine lv_goto (tgt := 851) hx hb dL_lives_834 (by decide) ?_
                    refine lv_istore (lv' := [(16, .int 1001), (15, .int (S 12 0)), (14, .int (kk_nextR S)), (12, .long (pl_thr S (-1))), (10, .long (pl_thr S (-1))), (9, .int (pl_last S)), (8, .int (-1)), (7, .int 0), (6, .int 1), (5, .int th), (4, .int (pl_some y 12)), (0, .ref (ad 0)), (1, .ref q), (2, .int y), (3, .int od)]) hx hb dL_lives_851 hl (by decide) rfl (fun ls hl => ?_)
                    refine lv_aload_n hx hb dL_lives_853 rfl (lv_at hl 11 rfl) ?_
                    refine lv_iconst (v := 5) hx hb dL_lives_854 (by decide) ?_
                    refine lv_iload hx hb dL_lives_855 (lv_at hl 0 rfl) ?_
                    refine lv_iconst (v := 0) hx hb dL_lives_857 (by decide) ?_
                    refine lv_iconst (v := 0) hx hb dL_lives_858 (by decide) ?_
                    refine lv_iconst (v := 0) hx hb dL_lives_859 (by decide) ?_
                    refine fk_lcallS (As := [.ref (ad 0), .int 5, .int 1001, .int 0, .int 0, .int 0]) (rest := []) ⟨hx, hb, hml, hown, hts⟩ (Lx_tick_IA l D ad cI cT cJ _ S _ _ _ _ (fun X => kx_tick_1 l D ad cI cT cJ X S hst _ (by decide))) (vx_cwSW 6 hts gL_lives_L_acts rfl rfl rfl (by decide +kernel) ⟨Nat.le_of_ble_eq_true rfl, Nat.le_of_ble_eq_true rfl⟩) hK hP hD hS hA hZ hN rfl hl.1 rfl (Nat.le_of_ble_eq_true rfl) dL_lives_860 ⟨Nat.le_of_ble_eq_true rfl, Nat.le_of_ble_eq_true rfl⟩ (fun H locs hP hD hS => ?_)
                    refine W.eq (g2 := F0 m 863 ls [.int (-2147483202)]) rfl ?_
                    refine lv_istore (lv' := [(17, .int (-2147483202)), (16, .int 1001), (15, .int (S 12 0)), (14, .int (kk_nextR S)), (12, .long (pl_thr S (-1))), (10, .long (pl_thr S (-1))), (9, .int (pl_last S)), (8, .int (-1)), (7, .int 0), (6, .int 1), (5, .int th), (4, .int (pl_some y 12)), (0, .ref (ad 0)), (1, .ref q), (2, .int y), (3, .int od)]) hx hb dL_lives_863 hl (by decide) rfl (fun ls hl => ?_)
                    refine lv_iload_n hx hb dL_lives_865 rfl (lv_at hl 15 rfl) ?_
                    refine lv_if_eq (tgt := 893) hx hb dL_lives_866 (by decide) (fun c_168 => absurd c_168 c_144) (fun c_168 => ?_)
                    refine lv_iload hx hb dL_lives_869 (lv_at hl 0 rfl) ?_
                    refine lv_ldc (own := RL) (v := (-2147483202)) hx hb hown (hts (.constant RL 20 (-2147483202)) (List.mem_of_getElem? (i := 3) rfl)) dL_lives_871 ?_
                    refine lv_icmp_ne (tgt := 891) hx hb dL_lives_873 (by decide) (fun c => absurd c (by decide)) (fun _ => ?_)
                    refine lv_aload_n hx hb dL_lives_876 rfl (lv_at hl 12 rfl) ?_
                    refine lv_iconst (v := (-1)) hx hb dL_lives_877 (by decide) ?_
                    refine fk_callS (As := [.ref (ad 0), .int (-1)]) (rest := []) ⟨hx, hb, hml, hown, hts⟩ (kl_threads l D ad cI cT cJ _ S hG.1.sz hG.1.J (-1)) (va_cwS 2 hts gL_lives_L_threads rfl rfl rfl (by decide +kernel) ⟨Nat.le_of_ble_eq_true rfl, Nat.le_of_ble_eq_true rfl⟩) hK hP hD hS hA rfl hl.1 rfl (Nat.le_of_ble_eq_true rfl) dL_lives_878 ⟨Nat.le_of_ble_eq_true rfl, Nat.le_of_ble_eq_true rfl⟩ (fun H locs hP hD hS => ?_)
                    refine W.eq (g2 := F0 m 881 ls [.long (pl_thr S (-1))]) rfl ?_
                    refine lv_lload hx hb dL_lives_881 (lv_at hl 5 rfl) ?_
                    refine W.lcmp hx hb dL_lives_883 ?_
                    refine W.eq (g2 := F0 m 884 ls [.int 0]) (by rw [fk_cmp_self]) ?_
                    refine lv_if_ne (tgt := 891) hx hb dL_lives_884 (by decide) (fun c => absurd c (by decide)) (fun _ => ?_)
                    refine lv_iconst (v := 1) hx hb dL_lives_887 (by decide) ?_
                    refine lv_goto (tgt := 892) hx hb dL_lives_888 (by decide) ?_
                    exact fk_zretE (Nat.le_of_ble_eq_true rfl) (Nat.le_of_ble_eq_true rfl) hx hb hr hlocks hP hK hD hS rfl ⟨rfl, _, _, rfl, (hG).wk (by omega)⟩ dL_lives_892
              · refine lv_aload_n hx hb dL_lives_690 rfl (lv_at hl 8 rfl) ?_
                refine lv_bipush (v := 7) hx hb dL_lives_691 (by decide) ?_
                refine lv_iload hx hb dL_lives_693 (lv_at hl 6 rfl) ?_
                refine lv_iconst (v := 0) hx hb dL_lives_695 (by decide) ?_
                refine lv_iconst (v := 0) hx hb dL_lives_696 (by decide) ?_
                refine lv_iconst (v := 0) hx hb dL_lives_697 (by decide) ?_
                refine fk_lcallS (As := [.ref (ad 0), .int 7, .int th, .int 0, .int 0, .int 0]) (rest := []) ⟨hx, hb, hml, hown, hts⟩ (Lx_start_IO l D ad cI cT cJ _ S _ _ _ _ (fun X => kx_starts7 l D ad cI cT cJ X S _ (fun X => kx_start_1 l D ad cI cT cJ X S hst th hout9))) (vx_cwSW 6 hts gL_lives_L_acts rfl rfl rfl (by decide +kernel) ⟨Nat.le_of_ble_eq_true rfl, Nat.le_of_ble_eq_true rfl⟩) hK hP hD hS hA hZ hN rfl hl.1 rfl (Nat.le_of_ble_eq_true rfl) dL_lives_698 ⟨Nat.le_of_ble_eq_true rfl, Nat.le_of_ble_eq_true rfl⟩ (fun H locs hP hD hS => ?_)
                refine W.eq (g2 := F0 m 701 ls [.int (-2147483201)]) rfl ?_
                refine lv_istore (lv' := [(14, .int (-2147483201)), (12, .long (pl_thr S (-1))), (10, .long (pl_thr S (-1))), (9, .int (pl_last S)), (8, .int (-1)), (7, .int 0), (6, .int 1), (5, .int th), (4, .int (pl_some y 12)), (0, .ref (ad 0)), (1, .ref q), (2, .int y), (3, .int od)]) hx hb dL_lives_701 hl (by decide) rfl (fun ls hl => ?_)
                refine lv_iload hx hb dL_lives_703 (lv_at hl 6 rfl) ?_
                refine lv_if_ne (tgt := 714) hx hb dL_lives_705 (by decide) (fun _ => ?_) (fun c => absurd c (by decide))
                refine lv_iload hx hb dL_lives_714 (lv_at hl 0 rfl) ?_
                refine lv_iload hx hb dL_lives_716 (lv_at hl 6 rfl) ?_
                refine lv_if_eq (tgt := 726) hx hb dL_lives_718 (by decide) (fun c => absurd c (by decide)) (fun _ => ?_)
                refine lv_ldc (own := RL) (v := (-2147483201)) hx hb hown (hts (.constant RL 17 (-2147483201)) (List.mem_of_getElem? (i := 1) rfl)) dL_lives_721 ?_
                refine lv_goto (tgt := 728) hx hb dL_lives_723 (by decide) ?_
                refine lv_icmp_ne (tgt := 746) hx hb dL_lives_728 (by decide) (fun c => absurd c (by decide)) (fun _ => ?_)
                refine lv_aload_n hx hb dL_lives_731 rfl (lv_at hl 9 rfl) ?_
                refine lv_iconst (v := (-1)) hx hb dL_lives_732 (by decide) ?_
                refine fk_callS (As := [.ref (ad 0), .int (-1)]) (rest := []) ⟨hx, hb, hml, hown, hts⟩ (kl_threads l D ad cI cT cJ _ S hG.1.sz hG.1.J (-1)) (va_cwS 2 hts gL_lives_L_threads rfl rfl rfl (by decide +kernel) ⟨Nat.le_of_ble_eq_true rfl, Nat.le_of_ble_eq_true rfl⟩) hK hP hD hS hA rfl hl.1 rfl (Nat.le_of_ble_eq_true rfl) dL_lives_733 ⟨Nat.le_of_ble_eq_true rfl, Nat.le_of_ble_eq_true rfl⟩ (fun H locs hP hD hS => ?_)
                refine W.eq (g2 := F0 m 736 ls [.long (pl_thr S (-1))]) rfl ?_
                refine lv_lload hx hb dL_lives_736 (lv_at hl 2 rfl) ?_
                refine W.lcmp hx hb dL_lives_738 ?_
                refine W.eq (g2 := F0 m 739 ls [.int 0]) (by rw [fk_cmp_self]) ?_
                refine lv_if_ne (tgt := 746) hx hb dL_lives_739 (by decide) (fun c => absurd c (by decide)) (fun _ => ?_)
                refine lv_iconst (v := 1) hx hb dL_lives_742 (by decide) ?_
                refine lv_goto (tgt := 747) hx hb dL_lives_743 (by decide) ?_
                exact fk_zretE (Nat.le_of_ble_eq_true rfl) (Nat.le_of_ble_eq_true rfl) hx hb hr hlocks hP hK hD hS rfl ⟨rfl, _, _, rfl, (hG).wk (by omega)⟩ dL_lives_747
            · have jn495 : ∀ (pv : Int32), ∀ (H : Heap) (locs : List Loc) (ls : Array Slot), va_P D vwCl (fk_kW ad cI cT S ++ (q, fk_pr cI P) :: X) H → va_D A (fk_kW ad cI cT S ++ (q, fk_pr cI P) :: X) → va_S A s.heap H locs → lv_has ls 20 [(12, .long (pl_thr S (-1))), (10, .long (pl_thr S (-1))), (9, .int (pl_last S)), (8, .int (-1)), (7, .int 0), (6, .int 1), (5, .int th), (4, .int (pl_some y 12)), (0, .ref (ad 0)), (1, .ref q), (2, .int y), (3, .int od)] → W p l e rm_E s m ([.ref (ad 0), .ref q, .int y, .int od] : List Value).toArray below meth c H locs 0 0 (MQ below (fk_QE D (fk_ty cI cT cJ) A (kq_Phi ad cI cT q X (n + 20))) ([.ref (ad 0), .ref q, .int y, .int od] : List Value).toArray s 2 12 A) (F0 m 495 ls [.int pv]) := by
                intro pv H locs ls hP hD hS hl
                refine lv_istore (lv' := [(14, .int pv), (12, .long (pl_thr S (-1))), (10, .long (pl_thr S (-1))), (9, .int (pl_last S)), (8, .int (-1)), (7, .int 0), (6, .int 1), (5, .int th), (4, .int (pl_some y 12)), (0, .ref (ad 0)), (1, .ref q), (2, .int y), (3, .int od)]) hx hb dL_lives_495 hl (by decide) rfl (fun ls hl => ?_)
                refine lv_aload_n hx hb dL_lives_497 rfl (lv_at hl 9 rfl) ?_
                refine lv_iconst (v := 4) hx hb dL_lives_498 (by decide) ?_
                refine lv_iload hx hb dL_lives_499 (lv_at hl 7 rfl) ?_
                refine lv_iload hx hb dL_lives_501 (lv_at hl 0 rfl) ?_
                refine lv_iconst (v := 0) hx hb dL_lives_503 (by decide) ?_
                refine lv_iconst (v := 0) hx hb dL_lives_504 (by decide) ?_
                refine fk_lcallS (As := [.ref (ad 0), .int 4, .int th, .int pv, .int 0, .int 0]) (rest := []) ⟨hx, hb, hml, hown, hts⟩ (Lx_setPriority_IO l D ad cI cT cJ _ S _ _ _ _ (fun X => kx_setPriority_1 l D ad cI cT cJ X S hst th _ hout9)) (vx_cwSW 6 hts gL_lives_L_acts rfl rfl rfl (by decide +kernel) ⟨Nat.le_of_ble_eq_true rfl, Nat.le_of_ble_eq_true rfl⟩) hK hP hD hS hA hZ hN rfl hl.1 rfl (Nat.le_of_ble_eq_true rfl) dL_lives_505 ⟨Nat.le_of_ble_eq_true rfl, Nat.le_of_ble_eq_true rfl⟩ (fun H locs hP hD hS => ?_)
                refine W.eq (g2 := F0 m 508 ls [.int (-2147483201)]) rfl ?_
                refine lv_istore (lv' := [(15, .int (-2147483201)), (14, .int pv), (12, .long (pl_thr S (-1))), (10, .long (pl_thr S (-1))), (9, .int (pl_last S)), (8, .int (-1)), (7, .int 0), (6, .int 1), (5, .int th), (4, .int (pl_some y 12)), (0, .ref (ad 0)), (1, .ref q), (2, .int y), (3, .int od)]) hx hb dL_lives_508 hl (by decide) rfl (fun ls hl => ?_)
                refine lv_iload hx hb dL_lives_510 (lv_at hl 7 rfl) ?_
                refine lv_if_ne (tgt := 533) hx hb dL_lives_512 (by decide) (fun _ => ?_) (fun c => absurd c (by decide))
                refine lv_iload hx hb dL_lives_533 (lv_at hl 0 rfl) ?_
                refine lv_iload hx hb dL_lives_535 (lv_at hl 7 rfl) ?_
                refine lv_if_eq (tgt := 545) hx hb dL_lives_537 (by decide) (fun c => absurd c (by decide)) (fun _ => ?_)
                refine lv_ldc (own := RL) (v := (-2147483201)) hx hb hown (hts (.constant RL 17 (-2147483201)) (List.mem_of_getElem? (i := 1) rfl)) dL_lives_540 ?_
                refine lv_goto (tgt := 564) hx hb dL_lives_542 (by decide) ?_
                refine lv_icmp_ne (tgt := 582) hx hb dL_lives_564 (by decide) (fun c => absurd c (by decide)) (fun _ => ?_)
                refine lv_aload_n hx hb dL_lives_567 rfl (lv_at hl 10 rfl) ?_
                refine lv_iconst (v := (-1)) hx hb dL_lives_568 (by decide) ?_
                refine fk_callS (As := [.ref (ad 0), .int (-1)]) (rest := []) ⟨hx, hb, hml, hown, hts⟩ (kl_threads l D ad cI cT cJ _ S hG.1.sz hG.1.J (-1)) (va_cwS 2 hts gL_lives_L_threads rfl rfl rfl (by decide +kernel) ⟨Nat.le_of_ble_eq_true rfl, Nat.le_of_ble_eq_true rfl⟩) hK hP hD hS hA rfl hl.1 rfl (Nat.le_of_ble_eq_true rfl) dL_lives_569 ⟨Nat.le_of_ble_eq_true rfl, Nat.le_of_ble_eq_true rfl⟩ (fun H locs hP hD hS => ?_)
                refine W.eq (g2 := F0 m 572 ls [.long (pl_thr S (-1))]) rfl ?_
                refine lv_lload hx hb dL_lives_572 (lv_at hl 3 rfl) ?_
                refine W.lcmp hx hb dL_lives_574 ?_
                refine W.eq (g2 := F0 m 575 ls [.int 0]) (by rw [fk_cmp_self]) ?_
                refine lv_if_ne (tgt := 582) hx hb dL_lives_575 (by decide) (fun c => absurd c (by decide)) (fun _ => ?_)
                refine lv_iconst (v := 1) hx hb dL_lives_578 (by decide) ?_
                refine lv_goto (tgt := 583) hx hb dL_lives_579 (by decide) ?_
                exact fk_zretE (Nat.le_of_ble_eq_true rfl) (Nat.le_of_ble_eq_true rfl) hx hb hr hlocks hP hK hD hS rfl ⟨rfl, _, _, rfl, (hG).wk (by omega)⟩ dL_lives_583
              refine lv_iload_n hx hb dL_lives_469 rfl (lv_at hl 11 rfl) ?_
              refine lv_if_eq (tgt := 487) hx hb dL_lives_470 (by decide) (fun c_179 => ?_) (fun c_179 => ?_)
              · refine lv_iload_n hx hb dL_lives_487 rfl (lv_at hl 10 rfl) ?_
                refine lv_bipush (v := 6) hx hb dL_lives_488 (by decide) ?_
                refine lv_ishr hx hb dL_lives_490 ?_
                refine lv_iconst (v := 4) hx hb dL_lives_491 (by decide) ?_
                refine fk_callS (As := [.int (y >>> (6 &&& 31)), .int 4]) (rest := []) ⟨hx, hb, hml, hown, hts⟩ (kl_some l D ad cI cT cJ _ S (y >>> (6 &&& 31)) 4 (by decide)) (va_cwS 2 hts gL_lives_L_some rfl rfl rfl (by decide +kernel) ⟨Nat.le_of_ble_eq_true rfl, Nat.le_of_ble_eq_true rfl⟩) hK hP hD hS hA rfl hl.1 rfl (Nat.le_of_ble_eq_true rfl) dL_lives_492 ⟨Nat.le_of_ble_eq_true rfl, Nat.le_of_ble_eq_true rfl⟩ (fun H locs hP hD hS => ?_)
                refine W.eq (g2 := F0 m 495 ls [.int (pl_some (y >>> (6 &&& 31)) 4)]) rfl ?_
                exact jn495 (pl_some (y >>> (6 &&& 31)) 4) _ _ _ hP hD hS hl
              · refine lv_iload_n hx hb dL_lives_473 rfl (lv_at hl 10 rfl) ?_
                refine lv_bipush (v := 6) hx hb dL_lives_474 (by decide) ?_
                refine lv_ishr hx hb dL_lives_476 ?_
                refine lv_bipush (v := 13) hx hb dL_lives_477 (by decide) ?_
                refine fk_callS (As := [.int (y >>> (6 &&& 31)), .int 13]) (rest := []) ⟨hx, hb, hml, hown, hts⟩ (kl_some l D ad cI cT cJ _ S (y >>> (6 &&& 31)) 13 (by decide)) (va_cwS 2 hts gL_lives_L_some rfl rfl rfl (by decide +kernel) ⟨Nat.le_of_ble_eq_true rfl, Nat.le_of_ble_eq_true rfl⟩) hK hP hD hS hA rfl hl.1 rfl (Nat.le_of_ble_eq_true rfl) dL_lives_479 ⟨Nat.le_of_ble_eq_true rfl, Nat.le_of_ble_eq_true rfl⟩ (fun H locs hP hD hS => ?_)
                refine W.eq (g2 := F0 m 482 ls [.int (pl_some (y >>> (6 &&& 31)) 13)]) rfl ?_
                refine lv_iconst (v := 2) hx hb dL_lives_482 (by decide) ?_
                refine lv_isub hx hb dL_lives_483 ?_
                refine lv_goto (tgt := 495) hx hb dL_lives_484 (by decide) ?_
                exact jn495 ((pl_some (y >>> (6 &&& 31)) 13) - 2) _ _ _ hP hD hS hl
          · refine lv_aload_n hx hb dL_lives_270 rfl (lv_at hl 8 rfl) ?_
            refine lv_iconst (v := 3) hx hb dL_lives_271 (by decide) ?_
            refine lv_iload hx hb dL_lives_272 (lv_at hl 6 rfl) ?_
            refine lv_iconst (v := 0) hx hb dL_lives_274 (by decide) ?_
            refine lv_iconst (v := 0) hx hb dL_lives_275 (by decide) ?_
            refine lv_iconst (v := 0) hx hb dL_lives_276 (by decide) ?_
            refine fk_lcallS (As := [.ref (ad 0), .int 3, .int th, .int 0, .int 0, .int 0]) (rest := []) ⟨hx, hb, hml, hown, hts⟩ (Lx_exit_IO l D ad cI cT cJ _ S _ _ _ _ (fun X => kx_exit_1 l D ad cI cT cJ X S hst th hout9)) (vx_cwSW 6 hts gL_lives_L_acts rfl rfl rfl (by decide +kernel) ⟨Nat.le_of_ble_eq_true rfl, Nat.le_of_ble_eq_true rfl⟩) hK hP hD hS hA hZ hN rfl hl.1 rfl (Nat.le_of_ble_eq_true rfl) dL_lives_277 ⟨Nat.le_of_ble_eq_true rfl, Nat.le_of_ble_eq_true rfl⟩ (fun H locs hP hD hS => ?_)
            refine W.eq (g2 := F0 m 280 ls [.int (-2147483201)]) rfl ?_
            refine lv_istore (lv' := [(14, .int (-2147483201)), (12, .long (pl_thr S (-1))), (10, .long (pl_thr S (-1))), (9, .int (pl_last S)), (8, .int (-1)), (7, .int 0), (6, .int 1), (5, .int th), (4, .int (pl_some y 12)), (0, .ref (ad 0)), (1, .ref q), (2, .int y), (3, .int od)]) hx hb dL_lives_280 hl (by decide) rfl (fun ls hl => ?_)
            refine lv_iload hx hb dL_lives_282 (lv_at hl 6 rfl) ?_
            refine lv_if_ne (tgt := 293) hx hb dL_lives_284 (by decide) (fun _ => ?_) (fun c => absurd c (by decide))
            refine lv_iload hx hb dL_lives_293 (lv_at hl 0 rfl) ?_
            refine lv_iload hx hb dL_lives_295 (lv_at hl 6 rfl) ?_
            refine lv_if_eq (tgt := 305) hx hb dL_lives_297 (by decide) (fun c => absurd c (by decide)) (fun _ => ?_)
            refine lv_ldc (own := RL) (v := (-2147483201)) hx hb hown (hts (.constant RL 17 (-2147483201)) (List.mem_of_getElem? (i := 1) rfl)) dL_lives_300 ?_
            refine lv_goto (tgt := 307) hx hb dL_lives_302 (by decide) ?_
            refine lv_icmp_ne (tgt := 325) hx hb dL_lives_307 (by decide) (fun c => absurd c (by decide)) (fun _ => ?_)
            refine lv_aload_n hx hb dL_lives_310 rfl (lv_at hl 9 rfl) ?_
            refine lv_iconst (v := (-1)) hx hb dL_lives_311 (by decide) ?_
            refine fk_callS (As := [.ref (ad 0), .int (-1)]) (rest := []) ⟨hx, hb, hml, hown, hts⟩ (kl_threads l D ad cI cT cJ _ S hG.1.sz hG.1.J (-1)) (va_cwS 2 hts gL_lives_L_threads rfl rfl rfl (by decide +kernel) ⟨Nat.le_of_ble_eq_true rfl, Nat.le_of_ble_eq_true rfl⟩) hK hP hD hS hA rfl hl.1 rfl (Nat.le_of_ble_eq_true rfl) dL_lives_312 ⟨Nat.le_of_ble_eq_true rfl, Nat.le_of_ble_eq_true rfl⟩ (fun H locs hP hD hS => ?_)
            refine W.eq (g2 := F0 m 315 ls [.long (pl_thr S (-1))]) rfl ?_
            refine lv_lload hx hb dL_lives_315 (lv_at hl 2 rfl) ?_
            refine W.lcmp hx hb dL_lives_317 ?_
            refine W.eq (g2 := F0 m 318 ls [.int 0]) (by rw [fk_cmp_self]) ?_
            refine lv_if_ne (tgt := 325) hx hb dL_lives_318 (by decide) (fun c => absurd c (by decide)) (fun _ => ?_)
            refine lv_iconst (v := 1) hx hb dL_lives_321 (by decide) ?_
            refine lv_goto (tgt := 326) hx hb dL_lives_322 (by decide) ?_
            exact fk_zretE (Nat.le_of_ble_eq_true rfl) (Nat.le_of_ble_eq_true rfl) hx hb hr hlocks hP hK hD hS rfl ⟨rfl, _, _, rfl, (hG).wk (by omega)⟩ dL_lives_326
        · refine lv_aload_n hx hb dL_lives_124 rfl (lv_at hl 8 rfl) ?_
          refine lv_bipush (v := 8) hx hb dL_lives_125 (by decide) ?_
          refine lv_iload hx hb dL_lives_127 (lv_at hl 6 rfl) ?_
          refine lv_iconst (v := 0) hx hb dL_lives_129 (by decide) ?_
          refine lv_iconst (v := 0) hx hb dL_lives_130 (by decide) ?_
          refine lv_iconst (v := 0) hx hb dL_lives_131 (by decide) ?_
          refine fk_lcallS (As := [.ref (ad 0), .int 8, .int th, .int 0, .int 0, .int 0]) (rest := []) ⟨hx, hb, hml, hown, hts⟩ (Lx_interrupt_IO l D ad cI cT cJ _ S _ _ _ _ (fun X => kx_starts8 l D ad cI cT cJ X S _ (fun X => kx_interrupt_1 l D ad cI cT cJ X S hst th hout9))) (vx_cwSW 6 hts gL_lives_L_acts rfl rfl rfl (by decide +kernel) ⟨Nat.le_of_ble_eq_true rfl, Nat.le_of_ble_eq_true rfl⟩) hK hP hD hS hA hZ hN rfl hl.1 rfl (Nat.le_of_ble_eq_true rfl) dL_lives_132 ⟨Nat.le_of_ble_eq_true rfl, Nat.le_of_ble_eq_true rfl⟩ (fun H locs hP hD hS => ?_)
          refine W.eq (g2 := F0 m 135 ls [.int (-2147483201)]) rfl ?_
          refine lv_istore (lv' := [(14, .int (-2147483201)), (12, .long (pl_thr S (-1))), (10, .long (pl_thr S (-1))), (9, .int (pl_last S)), (8, .int (-1)), (7, .int 0), (6, .int 1), (5, .int th), (4, .int (pl_some y 12)), (0, .ref (ad 0)), (1, .ref q), (2, .int y), (3, .int od)]) hx hb dL_lives_135 hl (by decide) rfl (fun ls hl => ?_)
          refine lv_iload hx hb dL_lives_137 (lv_at hl 6 rfl) ?_
          refine lv_if_ne (tgt := 153) hx hb dL_lives_139 (by decide) (fun _ => ?_) (fun c => absurd c (by decide))
          refine lv_iload hx hb dL_lives_153 (lv_at hl 0 rfl) ?_
          refine lv_iload hx hb dL_lives_155 (lv_at hl 6 rfl) ?_
          refine lv_if_eq (tgt := 165) hx hb dL_lives_157 (by decide) (fun c => absurd c (by decide)) (fun _ => ?_)
          refine lv_ldc (own := RL) (v := (-2147483201)) hx hb hown (hts (.constant RL 17 (-2147483201)) (List.mem_of_getElem? (i := 1) rfl)) dL_lives_160 ?_
          refine lv_goto (tgt := 167) hx hb dL_lives_162 (by decide) ?_
          refine lv_icmp_ne (tgt := 185) hx hb dL_lives_167 (by decide) (fun c => absurd c (by decide)) (fun _ => ?_)
          refine lv_aload_n hx hb dL_lives_170 rfl (lv_at hl 9 rfl) ?_
          refine lv_iconst (v := (-1)) hx hb dL_lives_171 (by decide) ?_
          refine fk_callS (As := [.ref (ad 0), .int (-1)]) (rest := []) ⟨hx, hb, hml, hown, hts⟩ (kl_threads l D ad cI cT cJ _ S hG.1.sz hG.1.J (-1)) (va_cwS 2 hts gL_lives_L_threads rfl rfl rfl (by decide +kernel) ⟨Nat.le_of_ble_eq_true rfl, Nat.le_of_ble_eq_true rfl⟩) hK hP hD hS hA rfl hl.1 rfl (Nat.le_of_ble_eq_true rfl) dL_lives_172 ⟨Nat.le_of_ble_eq_true rfl, Nat.le_of_ble_eq_true rfl⟩ (fun H locs hP hD hS => ?_)
          refine W.eq (g2 := F0 m 175 ls [.long (pl_thr S (-1))]) rfl ?_
          refine lv_lload hx hb dL_lives_175 (lv_at hl 2 rfl) ?_
          refine W.lcmp hx hb dL_lives_177 ?_
          refine W.eq (g2 := F0 m 178 ls [.int 0]) (by rw [fk_cmp_self]) ?_
          refine lv_if_ne (tgt := 185) hx hb dL_lives_178 (by decide) (fun c => absurd c (by decide)) (fun _ => ?_)
          refine lv_iconst (v := 1) hx hb dL_lives_181 (by decide) ?_
          refine lv_goto (tgt := 186) hx hb dL_lives_182 (by decide) ?_
          exact fk_zretE (Nat.le_of_ble_eq_true rfl) (Nat.le_of_ble_eq_true rfl) hx hb hr hlocks hP hK hD hS rfl ⟨rfl, _, _, rfl, (hG).wk (by omega)⟩ dL_lives_186
    refine lv_iload hx hb dL_lives_35 (lv_at hl 0 rfl) ?_
    refine lv_if_lt (tgt := 47) hx hb dL_lives_37 (by decide) (fun c_188 => ?_) (fun c_188 => ?_)
    · refine lv_iconst (v := 1) hx hb dL_lives_47 (by decide) ?_
      refine lv_goto (tgt := 52) hx hb dL_lives_48 (by decide) ?_
      exact jn52 1 (by first | exact fk_tA (by assumption) | exact fk_tB (by assumption) | exact fk_tE (by assumption) (by assumption)) _ _ _ hP hD hS hl
    · refine lv_iload hx hb dL_lives_40 (lv_at hl 0 rfl) ?_
      refine lv_bipush (v := 7) hx hb dL_lives_42 (by decide) ?_
      refine lv_icmp_le (tgt := 51) hx hb dL_lives_44 (by decide) (fun c_189 => ?_) (fun c_189 => ?_)
      · refine lv_iconst (v := 0) hx hb dL_lives_51 (by decide) ?_
        exact jn52 0 (by first | exact fk_tA (by assumption) | exact fk_tB (by assumption) | exact fk_tE (by assumption) (by assumption)) _ _ _ hP hD hS hl
      · refine lv_iconst (v := 1) hx hb dL_lives_47 (by decide) ?_
        refine lv_goto (tgt := 52) hx hb dL_lives_48 (by decide) ?_
        exact jn52 1 (by first | exact fk_tA (by assumption) | exact fk_tB (by assumption) | exact fk_tE (by assumption) (by assumption)) _ _ _ hP hD hS hl
  refine lv_iload_n hx hb dL_lives_8 rfl (lv_at hl 4 rfl) ?_
  refine lv_if_eq (tgt := 25) hx hb dL_lives_9 (by decide) (fun c_190 => ?_) (fun c_190 => ?_)
  · refine lv_iload_n hx hb dL_lives_25 rfl (lv_at hl 3 rfl) ?_
    refine lv_iconst (v := 2) hx hb dL_lives_26 (by decide) ?_
    refine lv_ishr hx hb dL_lives_27 ?_
    refine lv_bipush (v := 8) hx hb dL_lives_28 (by decide) ?_
    refine fk_callS (As := [.int (y >>> (2 &&& 31)), .int 8]) (rest := []) ⟨hx, hb, hml, hown, hts⟩ (kl_some l D ad cI cT cJ _ S (y >>> (2 &&& 31)) 8 (by decide)) (va_cwS 2 hts gL_lives_L_some rfl rfl rfl (by decide +kernel) ⟨Nat.le_of_ble_eq_true rfl, Nat.le_of_ble_eq_true rfl⟩) hK hP hD hS hA rfl hl.1 rfl (Nat.le_of_ble_eq_true rfl) dL_lives_30 ⟨Nat.le_of_ble_eq_true rfl, Nat.le_of_ble_eq_true rfl⟩ (fun H locs hP hD hS => ?_)
    refine W.eq (g2 := F0 m 33 ls [.int (pl_some (y >>> (2 &&& 31)) 8)]) rfl ?_
    exact jn33 (pl_some (y >>> (2 &&& 31)) 8) _ _ _ hP hD hS hl
  · refine lv_iload_n hx hb dL_lives_12 rfl (lv_at hl 3 rfl) ?_
    refine lv_iconst (v := 2) hx hb dL_lives_13 (by decide) ?_
    refine lv_ishr hx hb dL_lives_14 ?_
    refine lv_bipush (v := 10) hx hb dL_lives_15 (by decide) ?_
    refine fk_callS (As := [.int (y >>> (2 &&& 31)), .int 10]) (rest := []) ⟨hx, hb, hml, hown, hts⟩ (kl_some l D ad cI cT cJ _ S (y >>> (2 &&& 31)) 10 (by decide)) (va_cwS 2 hts gL_lives_L_some rfl rfl rfl (by decide +kernel) ⟨Nat.le_of_ble_eq_true rfl, Nat.le_of_ble_eq_true rfl⟩) hK hP hD hS hA rfl hl.1 rfl (Nat.le_of_ble_eq_true rfl) dL_lives_17 ⟨Nat.le_of_ble_eq_true rfl, Nat.le_of_ble_eq_true rfl⟩ (fun H locs hP hD hS => ?_)
    refine W.eq (g2 := F0 m 20 ls [.int (pl_some (y >>> (2 &&& 31)) 10)]) rfl ?_
    refine lv_iconst (v := 1) hx hb dL_lives_20 (by decide) ?_
    refine lv_isub hx hb dL_lives_21 ?_
    refine lv_goto (tgt := 33) hx hb dL_lives_22 (by decide) ?_
    exact jn33 ((pl_some (y >>> (2 &&& 31)) 10) - 1) _ _ _ hP hD hS hl
