theorem fk_own8 {w : Int32} (h1 : ¬ w < 0) (h2 : ¬ 8 ≤ w) : ∃ t, t < 8 ∧ w = nI t := fk_isT_of (fk_isT_iff h1 (fun h9 => by
  rw [Int32.lt_iff_toInt_lt] at h9
  rw [Int32.le_iff_toInt_le] at h2
  have e1 : (7 : Int32).toInt = 7 := rfl
  have e2 : (8 : Int32).toInt = 8 := rfl
  omega))
/-- the waiters gone through: how many are LOCKING, who is the first -/
theorem kq_lkS {S : fk_S} {a k n u : Nat} {nx : Option Nat} {ot : Nat} (hgu : (kq_A S a)[k]? = some u) (hd : (kq_A S a).drop k = u :: (kq_A S a).drop (k + 1)) (h1 : ot + (((kq_A S a).drop k).filter (fun t => decide (S 1 t = 2))).length = n)
    (h2 : nx.or (((kq_A S a).drop k).filter (fun t => decide (S 1 t = 2))).head? = (kq_lk S a).head?) :
    (S 1 u = 2 → (ot + 1) + (((kq_A S a).drop (k + 1)).filter (fun t => decide (S 1 t = 2))).length = n ∧ (nx.or (some u)).or (((kq_A S a).drop (k + 1)).filter (fun t => decide (S 1 t = 2))).head? = (kq_lk S a).head?) ∧
    (¬ S 1 u = 2 → ot + (((kq_A S a).drop (k + 1)).filter (fun t => decide (S 1 t = 2))).length = n ∧ nx.or (((kq_A S a).drop (k + 1)).filter (fun t => decide (S 1 t = 2))).head? = (kq_lk S a).head?) := by
  rw [hd] at h1 h2
  constructor
  · intro c
    rw [List.filter_cons_of_pos (by simpa using c)] at h1 h2
    refine ⟨by rw [List.length_cons] at h1; omega, ?_⟩
    rw [← h2]
    cases nx <;> rfl
  · intro c
    rw [List.filter_cons_of_neg (by simpa using c)] at h1 h2
    exact ⟨h1, h2⟩

set_option maxHeartbeats 8000000 in
set_option maxRecDepth 100000 in
theorem el_unlocks (l : Launch) (D : va_G) (ad : Nat → Nat) (cI cT cJ : ClassId) (X : va_W) (S : fk_S) (q : Nat) (P : Nat → Int32) (n : Nat) (hst : l.stackTraces = false) (hG : kq_G n S P) (hn : n < 2 ^ 16) (y : Int32)  : fk_E l D (fk_ty cI cT cJ) yL_unlocks wsL_unlocks rm_E [.ref (ad 0), .int y] (fk_kW ad cI cT S ++ (q, fk_pr cI P) :: X) (kq_Phi ad cI cT q X (n + 20)) := by
  refine fk_E_of (cc := cL_unlocks) (maxL := 14) (ret := (some .boolean)) (own := RL) (by decide) rfl rfl (Nat.le_of_ble_eq_true rfl) ?_
  intro p e s m below meth c A ls hx hb hr hlocks hml hts hown hA hP hK hD hZ hN hl
  have hS : va_S A s.heap s.heap [] := va_S.rf
  have hl : lv_has ls 14 [(0, .ref (ad 0)), (1, .int y)] := hl
  refine lv_iload_n hx hb dL_unlocks_0 rfl (lv_at hl 1 rfl) ?_
  refine lv_iconst (v := 4) hx hb dL_unlocks_1 (by decide) ?_
  refine fk_callS (As := [.int y, .int 4]) (rest := []) ⟨hx, hb, hml, hown, hts⟩ (kl_some l D ad cI cT cJ _ S y 4 (by decide)) (va_cwS 2 hts gL_unlocks_L_some rfl rfl rfl (by decide +kernel) ⟨Nat.le_of_ble_eq_true rfl, Nat.le_of_ble_eq_true rfl⟩) hK hP hD hS hA rfl hl.1 rfl (Nat.le_of_ble_eq_true rfl) dL_unlocks_2 ⟨Nat.le_of_ble_eq_true rfl, Nat.le_of_ble_eq_true rfl⟩ (fun H locs hP hD hS => ?_)
  refine W.eq (g2 := F0 m 5 ls [.int (pl_some y 4)]) rfl ?_
  obtain ⟨a, ha4, ea⟩ := pl_some_N y (k := 4) (by decide) (by decide)
  have ha : a < 16 := by omega
  refine W.eq (g2 := F0 m 5 ls [.int (nI a)]) (by rw [show (4 : Int32) = nI 4 from rfl, ea]) ?_
  refine lv_istore_n (lv' := [(2, .int (nI a)), (0, .ref (ad 0)), (1, .int y)]) hx hb dL_unlocks_5 rfl hl (by decide) rfl (fun ls hl => ?_)
  refine lv_aload_n hx hb dL_unlocks_6 rfl (lv_at hl 1 rfl) ?_
  refine lv_iload_n hx hb dL_unlocks_7 rfl (lv_at hl 0 rfl) ?_
  refine fk_callV (As := [.int (nI a)]) (rest := []) ⟨hx, hb, hml, hown, hts⟩ (kc_word l D ad cI cT cJ _ S a ha) (cwV 1 hts gL_unlocks_X2_word rfl rfl rfl (by decide +kernel) ⟨Nat.le_of_ble_eq_true rfl, Nat.le_of_ble_eq_true rfl⟩) (fk_rvK hK hP) hK hP hD hS hA rfl hl.1 rfl (Nat.le_of_ble_eq_true rfl) dL_unlocks_8 ⟨Nat.le_of_ble_eq_true rfl, Nat.le_of_ble_eq_true rfl⟩ (fun H locs hP hD hS => ?_)
  refine W.eq (g2 := F0 m 11 ls [.int (S 0 a)]) rfl ?_
  refine lv_sipush (v := 255) hx hb dL_unlocks_11 (by decide) ?_
  refine lv_iand hx hb dL_unlocks_14 ?_
  refine lv_iconst (v := 1) hx hb dL_unlocks_15 (by decide) ?_
  refine lv_isub hx hb dL_unlocks_16 ?_
  refine W.eq (g2 := F0 m 17 ls [.int (pl_own (S 0 a))]) rfl ?_
  refine lv_istore_n (lv' := [(3, .int (pl_own (S 0 a))), (2, .int (nI a)), (0, .ref (ad 0)), (1, .int y)]) hx hb dL_unlocks_17 rfl hl (by decide) rfl (fun ls hl => ?_)
  have jn50 : ∀ (tv : Int32), (∃ t, t < 8 ∧ tv = nI t) → ∀ (H : Heap) (locs : List Loc) (ls : Array Slot), va_P D vwCl (fk_kW ad cI cT S ++ (q, fk_pr cI P) :: X) H → va_D A (fk_kW ad cI cT S ++ (q, fk_pr cI P) :: X) → va_S A s.heap H locs → lv_has ls 14 [(3, .int (pl_own (S 0 a))), (2, .int (nI a)), (0, .ref (ad 0)), (1, .int y)] → W p l e rm_E s m ([.ref (ad 0), .int y] : List Value).toArray below meth c H locs 0 0 (MQ below (fk_QE D (fk_ty cI cT cJ) A (kq_Phi ad cI cT q X (n + 20))) ([.ref (ad 0), .int y] : List Value).toArray s 2 12 A) (F0 m 50 ls [.int tv]) := by
    intro tv h_tv H locs ls hP hD hS hl
    refine lv_istore (lv' := [(4, .int tv), (3, .int (pl_own (S 0 a))), (2, .int (nI a)), (0, .ref (ad 0)), (1, .int y)]) hx hb dL_unlocks_50 hl (by decide) rfl (fun ls hl => ?_)
    obtain ⟨t, ht, et⟩ := h_tv
    have hl : lv_has ls 14 [(4, .int (nI t)), (3, .int (pl_own (S 0 a))), (2, .int (nI a)), (0, .ref (ad 0)), (1, .int y)] := by rw [et] at hl; exact hl
    by_cases hs0 : S 1 t = 0
    · by_cases howt : pl_own (S 0 a) = nI t
      · have hl : lv_has ls 14 [(4, .int (nI t)), (3, .int (nI t)), (2, .int (nI a)), (0, .ref (ad 0)), (1, .int y)] := by rw [howt] at hl; exact hl
        refine lv_aload_n hx hb dL_unlocks_52 rfl (lv_at hl 3 rfl) ?_
        refine lv_iload hx hb dL_unlocks_53 (lv_at hl 0 rfl) ?_
        refine fk_callV (As := [.int (nI t)]) (rest := []) ⟨hx, hb, hml, hown, hts⟩ (kc_stateOf l D ad cI cT cJ _ S t ht) (cwV 1 hts gL_unlocks_X2_stateOf rfl rfl rfl (by decide +kernel) ⟨Nat.le_of_ble_eq_true rfl, Nat.le_of_ble_eq_true rfl⟩) (fk_rvK hK hP) hK hP hD hS hA rfl hl.1 rfl (Nat.le_of_ble_eq_true rfl) dL_unlocks_55 ⟨Nat.le_of_ble_eq_true rfl, Nat.le_of_ble_eq_true rfl⟩ (fun H locs hP hD hS => ?_)
        refine W.eq (g2 := F0 m 58 ls [.int (S 1 t)]) rfl ?_
        refine W.eq (g2 := F0 m 58 ls [.int 0]) (by rw [show (S 1 t) = (0 : Int32) from hs0]) ?_
        refine lv_if_ne (tgt := 71) hx hb dL_unlocks_58 (by decide) (fun c => absurd c (by decide)) (fun _ => ?_)
        refine lv_iload_n hx hb dL_unlocks_61 rfl (lv_at hl 1 rfl) ?_
        refine lv_iload hx hb dL_unlocks_62 (lv_at hl 0 rfl) ?_
        refine lv_icmp_ne (tgt := 71) hx hb dL_unlocks_64 (by decide) (fun c => absurd rfl c) (fun _ => ?_)
        refine lv_iconst (v := 1) hx hb dL_unlocks_67 (by decide) ?_
        refine lv_goto (tgt := 72) hx hb dL_unlocks_68 (by decide) ?_
        refine lv_istore (lv' := [(5, .int 1), (4, .int (nI t)), (3, .int (nI t)), (2, .int (nI a)), (0, .ref (ad 0)), (1, .int y)]) hx hb dL_unlocks_72 hl (by decide) rfl (fun ls hl => ?_)
        refine lv_aload_n hx hb dL_unlocks_74 rfl (lv_at hl 4 rfl) ?_
        refine fk_callS (As := [.ref (ad 0)]) (rest := []) ⟨hx, hb, hml, hown, hts⟩ (kl_last l D ad cI cT cJ _ S) (va_cwS 1 hts gL_unlocks_L_last rfl rfl rfl (by decide +kernel) ⟨Nat.le_of_ble_eq_true rfl, Nat.le_of_ble_eq_true rfl⟩) hK hP hD hS hA rfl hl.1 rfl (Nat.le_of_ble_eq_true rfl) dL_unlocks_75 ⟨Nat.le_of_ble_eq_true rfl, Nat.le_of_ble_eq_true rfl⟩ (fun H locs hP hD hS => ?_)
        refine W.eq (g2 := F0 m 78 ls [.int (pl_last S)]) rfl ?_
        refine lv_istore (lv' := [(6, .int (pl_last S)), (5, .int 1), (4, .int (nI t)), (3, .int (nI t)), (2, .int (nI a)), (0, .ref (ad 0)), (1, .int y)]) hx hb dL_unlocks_78 hl (by decide) rfl (fun ls hl => ?_)
        refine lv_iconst (v := (-1)) hx hb dL_unlocks_80 (by decide) ?_
        refine lv_istore (lv' := [(7, .int (-1)), (6, .int (pl_last S)), (5, .int 1), (4, .int (nI t)), (3, .int (nI t)), (2, .int (nI a)), (0, .ref (ad 0)), (1, .int y)]) hx hb dL_unlocks_81 hl (by decide) rfl (fun ls hl => ?_)
        refine lv_iconst (v := 0) hx hb dL_unlocks_83 (by decide) ?_
        refine lv_istore (lv' := [(8, .int 0), (7, .int (-1)), (6, .int (pl_last S)), (5, .int 1), (4, .int (nI t)), (3, .int (nI t)), (2, .int (nI a)), (0, .ref (ad 0)), (1, .int y)]) hx hb dL_unlocks_84 hl (by decide) rfl (fun ls hl => ?_)
        refine lv_iconst (v := 0) hx hb dL_unlocks_86 (by decide) ?_
        refine lv_istore (lv' := [(9, .int 0), (8, .int 0), (7, .int (-1)), (6, .int (pl_last S)), (5, .int 1), (4, .int (nI t)), (3, .int (nI t)), (2, .int (nI a)), (0, .ref (ad 0)), (1, .int y)]) hx hb dL_unlocks_87 hl (by decide) rfl (fun ls hl => ?_)
        have loop1 : ∀ (n1 : Nat) (k ot : Nat) (nx : Option Nat), k + n1 = (kq_A S a).length → ot + (((kq_A S a).drop k).filter (fun t => decide (S 1 t = 2))).length = (kq_lk S a).length → nx.or (((kq_A S a).drop k).filter (fun t => decide (S 1 t = 2))).head? = (kq_lk S a).head? → (∀ v, nx = some v → v < 2 ^ 31) → ∀ (H : Heap) (locs : List Loc) (ls : Array Slot), va_P D vwCl (fk_kW ad cI cT S ++ (q, fk_pr cI P) :: X) H → va_D A (fk_kW ad cI cT S ++ (q, fk_pr cI P) :: X) → va_S A s.heap H locs → lv_has ls 14 [(9, .int (nI k)), (8, .int (nI ot)), (7, .int (fk_oI nx)), (6, .int (pl_last S)), (5, .int 1), (4, .int (nI t)), (3, .int (nI t)), (0, .ref (ad 0)), (1, .int y), (2, .int (nI a))] → W p l e rm_E s m ([.ref (ad 0), .int y] : List Value).toArray below meth c H locs 0 0 (MQ below (fk_QE D (fk_ty cI cT cJ) A (kq_Phi ad cI cT q X (n + 20))) ([.ref (ad 0), .int y] : List Value).toArray s 2 12 A) (F0 m 89 ls []) := by
          intro n1
          induction n1 with
          | zero =>
            intro k ot nx hk h1 h2 hnx9 H locs ls hP hD hS hl
            have h8 := kq_A8 S a
            rw [(kq_stop hk).2] at h1 h2
            have hot : ot = (kq_lk S a).length := by simpa using h1
            have hnx : nx = (kq_lk S a).head? := by rw [← h2]; cases nx <;> rfl
            have hl : lv_has ls 14 [(9, .int (nI k)), (8, .int (nI ((kq_lk S a).length))), (7, .int (fk_oI (kq_lk S a).head?)), (6, .int (pl_last S)), (5, .int 1), (4, .int (nI t)), (3, .int (nI t)), (0, .ref (ad 0)), (1, .int y), (2, .int (nI a))] := by rw [hot, hnx] at hl; exact hl
            refine lv_iload hx hb dL_unlocks_89 (lv_at hl 0 rfl) ?_
            refine lv_aload_n hx hb dL_unlocks_91 rfl (lv_at hl 7 rfl) ?_
            refine lv_iload_n hx hb dL_unlocks_92 rfl (lv_at hl 9 rfl) ?_
            refine fk_callV (As := [.int (nI a)]) (rest := [.int (nI k)]) ⟨hx, hb, hml, hown, hts⟩ (kc_waiters l D ad cI cT cJ _ S a ha) (cwV 1 hts gL_unlocks_X2_waiters rfl rfl rfl (by decide +kernel) ⟨Nat.le_of_ble_eq_true rfl, Nat.le_of_ble_eq_true rfl⟩) (fk_rvK hK hP) hK hP hD hS hA rfl hl.1 rfl (Nat.le_of_ble_eq_true rfl) dL_unlocks_93 ⟨Nat.le_of_ble_eq_true rfl, Nat.le_of_ble_eq_true rfl⟩ (fun H locs hP hD hS => ?_)
            refine W.eq (g2 := F0 m 96 ls [.int (kk_waiters S (nI a)), .int (nI k)]) rfl ?_
            refine W.eq (g2 := F0 m 96 ls [.int (nI ((kq_A S a).length)), .int (nI k)]) (by rw [show (kk_waiters S (nI a)) = (nI ((kq_A S a).length)) from (kq_waiters _ _)]) ?_
            refine lv_icmp_ge (tgt := 159) hx hb dL_unlocks_96 (by decide) (fun c_2 => ?_) (fun c_2 => absurd (nI_le (a := (kq_A S a).length) (b := k) (by omega) (by omega)) c_2)
            refine lv_aload_n hx hb dL_unlocks_159 rfl (lv_at hl 7 rfl) ?_
            refine lv_iconst (v := (-1)) hx hb dL_unlocks_160 (by decide) ?_
            refine fk_callS (As := [.ref (ad 0), .int (-1)]) (rest := []) ⟨hx, hb, hml, hown, hts⟩ (kl_threads l D ad cI cT cJ _ S hG.1.sz hG.1.J (-1)) (va_cwS 2 hts gL_unlocks_L_threads rfl rfl rfl (by decide +kernel) ⟨Nat.le_of_ble_eq_true rfl, Nat.le_of_ble_eq_true rfl⟩) hK hP hD hS hA rfl hl.1 rfl (Nat.le_of_ble_eq_true rfl) dL_unlocks_161 ⟨Nat.le_of_ble_eq_true rfl, Nat.le_of_ble_eq_true rfl⟩ (fun H locs hP hD hS => ?_)
            refine W.eq (g2 := F0 m 164 ls [.long (pl_thr S (-1))]) rfl ?_
            refine lv_lstore (lv' := [(9, .long (pl_thr S (-1))), (8, .int (nI ((kq_lk S a).length))), (7, .int (fk_oI (kq_lk S a).head?)), (6, .int (pl_last S)), (5, .int 1), (4, .int (nI t)), (3, .int (nI t)), (0, .ref (ad 0)), (1, .int y), (2, .int (nI a))]) hx hb dL_unlocks_164 hl (by decide) rfl (fun ls hl => ?_)
            refine lv_aload_n hx hb dL_unlocks_166 rfl (lv_at hl 7 rfl) ?_
            refine lv_iconst (v := 1) hx hb dL_unlocks_167 (by decide) ?_
            refine lv_iload hx hb dL_unlocks_168 (lv_at hl 5 rfl) ?_
            refine lv_iload_n hx hb dL_unlocks_170 rfl (lv_at hl 9 rfl) ?_
            refine lv_iconst (v := 0) hx hb dL_unlocks_171 (by decide) ?_
            refine lv_iconst (v := 0) hx hb dL_unlocks_172 (by decide) ?_
            obtain ⟨eR, hG1, ⟨K9, hK9, eK9, hnot⟩, hw0, hw1⟩ := kq_unlock hG ht ha (by omega) hs0
            refine fk_lcallS (As := [.ref (ad 0), .int 1, .int (nI t), .int (nI a), .int 0, .int 0]) (rest := []) ⟨hx, hb, hml, hown, hts⟩ (Lc_unlock l D ad cI cT cJ _ S _ _ _ _ (kk_unlock S t a) (fk_oI (kq_lk S a).head?) (fun X => by rw [← eR]; exact kc_unlock l D ad cI cT cJ X S t ht a ha hs0 hG.1.sz ((kk_owner_own S ha ht).mpr howt))) (vx_cwSW 6 hts gL_unlocks_L_acts rfl rfl rfl (by decide +kernel) ⟨Nat.le_of_ble_eq_true rfl, Nat.le_of_ble_eq_true rfl⟩) hK hP hD hS hA hZ hN rfl hl.1 rfl (Nat.le_of_ble_eq_true rfl) dL_unlocks_173 ⟨Nat.le_of_ble_eq_true rfl, Nat.le_of_ble_eq_true rfl⟩ (fun H locs hP hD hS => ?_)
            refine W.eq (g2 := F0 m 176 ls [.int (fk_oI (kq_lk S a).head?)]) rfl ?_
            refine lv_istore (lv' := [(11, .int (fk_oI (kq_lk S a).head?)), (9, .long (pl_thr S (-1))), (8, .int (nI ((kq_lk S a).length))), (7, .int (fk_oI (kq_lk S a).head?)), (6, .int (pl_last S)), (5, .int 1), (4, .int (nI t)), (3, .int (nI t)), (0, .ref (ad 0)), (1, .int y), (2, .int (nI a))]) hx hb dL_unlocks_176 hl (by decide) rfl (fun ls hl => ?_)
            refine lv_iload hx hb dL_unlocks_178 (lv_at hl 5 rfl) ?_
            refine lv_if_ne (tgt := 207) hx hb dL_unlocks_180 (by decide) (fun _ => ?_) (fun c => absurd c (by decide))
            refine lv_iconst (v := 0) hx hb dL_unlocks_207 (by decide) ?_
            refine lv_istore (lv' := [(12, .int 0), (11, .int (fk_oI (kq_lk S a).head?)), (9, .long (pl_thr S (-1))), (8, .int (nI ((kq_lk S a).length))), (7, .int (fk_oI (kq_lk S a).head?)), (6, .int (pl_last S)), (5, .int 1), (4, .int (nI t)), (3, .int (nI t)), (0, .ref (ad 0)), (1, .int y), (2, .int (nI a))]) hx hb dL_unlocks_208 hl (by decide) rfl (fun ls hl => ?_)
            refine lv_iconst (v := 0) hx hb dL_unlocks_210 (by decide) ?_
            refine lv_istore (lv' := [(13, .int 0), (12, .int 0), (11, .int (fk_oI (kq_lk S a).head?)), (9, .long (pl_thr S (-1))), (8, .int (nI ((kq_lk S a).length))), (7, .int (fk_oI (kq_lk S a).head?)), (6, .int (pl_last S)), (5, .int 1), (4, .int (nI t)), (3, .int (nI t)), (0, .ref (ad 0)), (1, .int y), (2, .int (nI a))]) hx hb dL_unlocks_211 hl (by decide) rfl (fun ls hl => ?_)
            have loop2 : ∀ (n2 : Nat) (j : Nat), j + n2 = K9 → ∀ (H : Heap) (locs : List Loc) (ls : Array Slot), va_P D vwCl (fk_kW ad cI cT (kk_unlock S t a) ++ (q, fk_pr cI P) :: X) H → va_D A (fk_kW ad cI cT (kk_unlock S t a) ++ (q, fk_pr cI P) :: X) → va_S A s.heap H locs → lv_has ls 14 [(13, .int (nI j)), (12, .int 0), (11, .int (fk_oI (kq_lk S a).head?)), (8, .int (nI ((kq_lk S a).length))), (7, .int (fk_oI (kq_lk S a).head?)), (6, .int (pl_last S)), (4, .int (nI t)), (0, .ref (ad 0)), (2, .int (nI a))] → W p l e rm_E s m ([.ref (ad 0), .int y] : List Value).toArray below meth c H locs (0 + 1) (0 + 6) (MQ below (fk_QE D (fk_ty cI cT cJ) A (kq_Phi ad cI cT q X (n + 20))) ([.ref (ad 0), .int y] : List Value).toArray s 2 12 A) (F0 m 213 ls []) := by
              intro n2
              induction n2 with
              | zero =>
                intro j hj H locs ls hP hD hS hl
                refine lv_iload hx hb dL_unlocks_213 (lv_at hl 0 rfl) ?_
                refine lv_aload_n hx hb dL_unlocks_215 rfl (lv_at hl 7 rfl) ?_
                refine lv_iload hx hb dL_unlocks_216 (lv_at hl 6 rfl) ?_
                refine fk_callV (As := [.int (nI t)]) (rest := [.int (nI j)]) ⟨hx, hb, hml, hown, hts⟩ (kc_locks l D ad cI cT cJ _ (kk_unlock S t a) t ht) (cwV 1 hts gL_unlocks_X2_locks rfl rfl rfl (by decide +kernel) ⟨Nat.le_of_ble_eq_true rfl, Nat.le_of_ble_eq_true rfl⟩) (fk_rvK hK hP) hK hP hD hS hA rfl hl.1 rfl (Nat.le_of_ble_eq_true rfl) dL_unlocks_218 ⟨Nat.le_of_ble_eq_true rfl, Nat.le_of_ble_eq_true rfl⟩ (fun H locs hP hD hS => ?_)
                refine W.eq (g2 := F0 m 221 ls [.int ((kk_unlock S t a) 10 t), .int (nI j)]) rfl ?_
                refine W.eq (g2 := F0 m 221 ls [.int (nI K9), .int (nI j)]) (by rw [show ((kk_unlock S t a) 10 t) = (nI K9) from eK9]) ?_
                refine lv_icmp_ge (tgt := 254) hx hb dL_unlocks_221 (by decide) (fun c_4 => ?_) (fun c_4 => absurd (nI_le (a := K9) (b := j) (by omega) (by omega)) c_4)
                rcases hL9 : kq_lk S a with _ | ⟨v, L9⟩
                · have ehd : fk_oI (kq_lk S a).head? = -1 := by rw [hL9]; rfl
                  have hl : lv_has ls 14 [(13, .int (nI j)), (12, .int 0), (11, .int (-1)), (8, .int (nI ((kq_lk S a).length))), (7, .int (-1)), (6, .int (pl_last S)), (4, .int (nI t)), (0, .ref (ad 0)), (2, .int (nI a))] := by rw [ehd] at hl; exact hl
                  refine lv_iload hx hb dL_unlocks_254 (lv_at hl 2 rfl) ?_
                  refine lv_iload hx hb dL_unlocks_256 (lv_at hl 4 rfl) ?_
                  refine lv_icmp_ne (tgt := 341) hx hb dL_unlocks_258 (by decide) (fun c => absurd c (by decide)) (fun _ => ?_)
                  refine lv_iload hx hb dL_unlocks_261 (lv_at hl 1 rfl) ?_
                  refine lv_if_ne (tgt := 341) hx hb dL_unlocks_263 (by decide) (fun c => absurd c (by decide)) (fun _ => ?_)
                  refine lv_aload_n hx hb dL_unlocks_266 rfl (lv_at hl 7 rfl) ?_
                  refine lv_iload_n hx hb dL_unlocks_267 rfl (lv_at hl 8 rfl) ?_
                  refine fk_callV (As := [.int (nI a)]) (rest := []) ⟨hx, hb, hml, hown, hts⟩ (kc_word l D ad cI cT cJ _ (kk_unlock S t a) a ha) (cwV 1 hts gL_unlocks_X2_word rfl rfl rfl (by decide +kernel) ⟨Nat.le_of_ble_eq_true rfl, Nat.le_of_ble_eq_true rfl⟩) (fk_rvK hK hP) hK hP hD hS hA rfl hl.1 rfl (Nat.le_of_ble_eq_true rfl) dL_unlocks_268 ⟨Nat.le_of_ble_eq_true rfl, Nat.le_of_ble_eq_true rfl⟩ (fun H locs hP hD hS => ?_)
                  refine W.eq (g2 := F0 m 271 ls [.int ((kk_unlock S t a) 0 a)]) rfl ?_
                  refine W.eq (g2 := F0 m 271 ls [.int 0]) (by rw [show ((kk_unlock S t a) 0 a) = (0 : Int32) from (hw0 hL9)]) ?_
                  refine lv_iload hx hb dL_unlocks_271 (lv_at hl 4 rfl) ?_
                  refine lv_iconst (v := (-1)) hx hb dL_unlocks_273 (by decide) ?_
                  refine lv_icmp_ne (tgt := 281) hx hb dL_unlocks_274 (by decide) (fun c => absurd c (by decide)) (fun _ => ?_)
                  refine lv_iconst (v := 0) hx hb dL_unlocks_277 (by decide) ?_
                  refine lv_goto (tgt := 298) hx hb dL_unlocks_278 (by decide) ?_
                  refine lv_icmp_ne (tgt := 341) hx hb dL_unlocks_298 (by decide) (fun c => absurd c (by decide)) (fun _ => ?_)
                  refine lv_iload hx hb dL_unlocks_301 (lv_at hl 4 rfl) ?_
                  refine lv_iconst (v := (-1)) hx hb dL_unlocks_303 (by decide) ?_
                  refine lv_icmp_eq (tgt := 337) hx hb dL_unlocks_304 (by decide) (fun _ => ?_) (fun c => absurd c (by decide))
                  refine lv_iconst (v := 1) hx hb dL_unlocks_337 (by decide) ?_
                  refine lv_goto (tgt := 342) hx hb dL_unlocks_338 (by decide) ?_
                  exact fk_zretE (Nat.le_of_ble_eq_true rfl) (Nat.le_of_ble_eq_true rfl) hx hb hr hlocks hP hK hD hS rfl ⟨rfl, _, _, rfl, (hG1).wk (by omega)⟩ dL_unlocks_342
                · have ehd : fk_oI (kq_lk S a).head? = nI v := by rw [hL9]; rfl
                  obtain ⟨w1, w2, w3, w4, hv9⟩ := hw1 v L9 hL9
                  have hl : lv_has ls 14 [(13, .int (nI j)), (12, .int 0), (11, .int (nI v)), (8, .int (nI ((kq_lk S a).length))), (7, .int (nI v)), (6, .int (pl_last S)), (4, .int (nI t)), (0, .ref (ad 0)), (2, .int (nI a))] := by rw [ehd] at hl; exact hl
                  refine lv_iload hx hb dL_unlocks_254 (lv_at hl 2 rfl) ?_
                  refine lv_iload hx hb dL_unlocks_256 (lv_at hl 4 rfl) ?_
                  refine lv_icmp_ne (tgt := 341) hx hb dL_unlocks_258 (by decide) (fun c => absurd rfl c) (fun _ => ?_)
                  refine lv_iload hx hb dL_unlocks_261 (lv_at hl 1 rfl) ?_
                  refine lv_if_ne (tgt := 341) hx hb dL_unlocks_263 (by decide) (fun c => absurd c (by decide)) (fun _ => ?_)
                  refine lv_aload_n hx hb dL_unlocks_266 rfl (lv_at hl 7 rfl) ?_
                  refine lv_iload_n hx hb dL_unlocks_267 rfl (lv_at hl 8 rfl) ?_
                  refine fk_callV (As := [.int (nI a)]) (rest := []) ⟨hx, hb, hml, hown, hts⟩ (kc_word l D ad cI cT cJ _ (kk_unlock S t a) a ha) (cwV 1 hts gL_unlocks_X2_word rfl rfl rfl (by decide +kernel) ⟨Nat.le_of_ble_eq_true rfl, Nat.le_of_ble_eq_true rfl⟩) (fk_rvK hK hP) hK hP hD hS hA rfl hl.1 rfl (Nat.le_of_ble_eq_true rfl) dL_unlocks_268 ⟨Nat.le_of_ble_eq_true rfl, Nat.le_of_ble_eq_true rfl⟩ (fun H locs hP hD hS => ?_)
                  refine W.eq (g2 := F0 m 271 ls [.int ((kk_unlock S t a) 0 a)]) rfl ?_
                  refine lv_iload hx hb dL_unlocks_271 (lv_at hl 4 rfl) ?_
                  refine lv_iconst (v := (-1)) hx hb dL_unlocks_273 (by decide) ?_
                  refine lv_icmp_ne (tgt := 281) hx hb dL_unlocks_274 (by decide) (fun _ => ?_) (fun c => absurd c (fk_nI_m1 (by omega)))
                  refine lv_iload hx hb dL_unlocks_281 (lv_at hl 4 rfl) ?_
                  refine lv_iconst (v := 1) hx hb dL_unlocks_283 (by decide) ?_
                  refine lv_iadd hx hb dL_unlocks_284 ?_
                  refine W.eq (g2 := F0 m 285 ls [.int (nI (v + 1)), .int ((kk_unlock S t a) 0 a)]) (by rw [nI_1]) ?_
                  refine lv_iload hx hb dL_unlocks_285 (lv_at hl 3 rfl) ?_
                  refine lv_iconst (v := 1) hx hb dL_unlocks_287 (by decide) ?_
                  refine lv_icmp_le (tgt := 296) hx hb dL_unlocks_288 (by decide) (fun c_11 => ?_) (fun c_11 => ?_)
                  · refine lv_iconst (v := 0) hx hb dL_unlocks_296 (by decide) ?_
                    refine lv_ior hx hb dL_unlocks_297 ?_
                    refine lv_icmp_ne (tgt := 341) hx hb dL_unlocks_298 (by decide) (fun c_12 => absurd c_12 (fun h9 => h9 (by rw [w1]; first | rw [if_neg (fun z => absurd c_11 (nI_ge (a := 1) z (by have := kq_A8 S a; have := List.length_filter_le (fun t => decide (S 1 t = 2)) (kq_A S a); unfold kq_lk; omega)))] | rw [if_pos (Nat.not_le.mp (fun z => c_11 (nI_le (b := 1) z (by omega))))]))) (fun c_12 => ?_)
                    refine lv_iload hx hb dL_unlocks_301 (lv_at hl 4 rfl) ?_
                    refine lv_iconst (v := (-1)) hx hb dL_unlocks_303 (by decide) ?_
                    refine lv_icmp_eq (tgt := 337) hx hb dL_unlocks_304 (by decide) (fun c => absurd c (fk_nI_m1 (by omega))) (fun _ => ?_)
                    refine lv_aload_n hx hb dL_unlocks_307 rfl (lv_at hl 7 rfl) ?_
                    refine lv_iload hx hb dL_unlocks_308 (lv_at hl 4 rfl) ?_
                    refine fk_callV (As := [.int (nI v)]) (rest := []) ⟨hx, hb, hml, hown, hts⟩ (kc_stateOf l D ad cI cT cJ _ (kk_unlock S t a) v hv9) (cwV 1 hts gL_unlocks_X2_stateOf rfl rfl rfl (by decide +kernel) ⟨Nat.le_of_ble_eq_true rfl, Nat.le_of_ble_eq_true rfl⟩) (fk_rvK hK hP) hK hP hD hS hA rfl hl.1 rfl (Nat.le_of_ble_eq_true rfl) dL_unlocks_310 ⟨Nat.le_of_ble_eq_true rfl, Nat.le_of_ble_eq_true rfl⟩ (fun H locs hP hD hS => ?_)
                    refine W.eq (g2 := F0 m 313 ls [.int ((kk_unlock S t a) 1 v)]) rfl ?_
                    refine W.eq (g2 := F0 m 313 ls [.int 0]) (by rw [show ((kk_unlock S t a) 1 v) = (0 : Int32) from w2]) ?_
                    refine lv_if_ne (tgt := 341) hx hb dL_unlocks_313 (by decide) (fun c => absurd c (by decide)) (fun _ => ?_)
                    refine lv_aload_n hx hb dL_unlocks_316 rfl (lv_at hl 7 rfl) ?_
                    refine lv_iload hx hb dL_unlocks_317 (lv_at hl 4 rfl) ?_
                    refine fk_callV (As := [.int (nI v)]) (rest := []) ⟨hx, hb, hml, hown, hts⟩ (kc_resultOf l D ad cI cT cJ _ (kk_unlock S t a) v hv9) (cwV 1 hts gL_unlocks_X2_resultOf rfl rfl rfl (by decide +kernel) ⟨Nat.le_of_ble_eq_true rfl, Nat.le_of_ble_eq_true rfl⟩) (fk_rvK hK hP) hK hP hD hS hA rfl hl.1 rfl (Nat.le_of_ble_eq_true rfl) dL_unlocks_319 ⟨Nat.le_of_ble_eq_true rfl, Nat.le_of_ble_eq_true rfl⟩ (fun H locs hP hD hS => ?_)
                    refine W.eq (g2 := F0 m 322 ls [.int ((kk_unlock S t a) 8 v)]) rfl ?_
                    refine W.eq (g2 := F0 m 322 ls [.int 3]) (by rw [show ((kk_unlock S t a) 8 v) = (3 : Int32) from w3]) ?_
                    refine lv_iconst (v := 3) hx hb dL_unlocks_322 (by decide) ?_
                    refine lv_icmp_ne (tgt := 341) hx hb dL_unlocks_323 (by decide) (fun c => absurd c (by decide)) (fun _ => ?_)
                    refine lv_aload_n hx hb dL_unlocks_326 rfl (lv_at hl 7 rfl) ?_
                    refine lv_iload hx hb dL_unlocks_327 (lv_at hl 4 rfl) ?_
                    refine fk_callV (As := [.int (nI v)]) (rest := []) ⟨hx, hb, hml, hown, hts⟩ (kc_serialOf l D ad cI cT cJ _ (kk_unlock S t a) v hv9) (cwV 1 hts gL_unlocks_X2_serialOf rfl rfl rfl (by decide +kernel) ⟨Nat.le_of_ble_eq_true rfl, Nat.le_of_ble_eq_true rfl⟩) (fk_rvK hK hP) hK hP hD hS hA rfl hl.1 rfl (Nat.le_of_ble_eq_true rfl) dL_unlocks_329 ⟨Nat.le_of_ble_eq_true rfl, Nat.le_of_ble_eq_true rfl⟩ (fun H locs hP hD hS => ?_)
                    refine W.eq (g2 := F0 m 332 ls [.int ((kk_unlock S t a) 9 v)]) rfl ?_
                    refine lv_iload hx hb dL_unlocks_332 (lv_at hl 5 rfl) ?_
                    refine lv_icmp_le (tgt := 341) hx hb dL_unlocks_334 (by decide) (fun c_15 => absurd c_15 (Int32.not_le.mpr w4)) (fun c_15 => ?_)
                    refine lv_iconst (v := 1) hx hb dL_unlocks_337 (by decide) ?_
                    refine lv_goto (tgt := 342) hx hb dL_unlocks_338 (by decide) ?_
                    exact fk_zretE (Nat.le_of_ble_eq_true rfl) (Nat.le_of_ble_eq_true rfl) hx hb hr hlocks hP hK hD hS rfl ⟨rfl, _, _, rfl, (hG1).wk (by omega)⟩ dL_unlocks_342
                  · refine lv_ldc (own := RL) (v := (-2147483648)) hx hb hown (hts (.constant RL 159 (-2147483648)) (List.mem_of_getElem? (i := 2) rfl)) dL_unlocks_291 ?_
                    refine lv_goto (tgt := 297) hx hb dL_unlocks_293 (by decide) ?_
                    refine lv_ior hx hb dL_unlocks_297 ?_
                    refine lv_icmp_ne (tgt := 341) hx hb dL_unlocks_298 (by decide) (fun c_16 => absurd c_16 (fun h9 => h9 (by rw [w1]; first | rw [if_neg (fun z => absurd c_11 (nI_ge (a := 1) z (by have := kq_A8 S a; have := List.length_filter_le (fun t => decide (S 1 t = 2)) (kq_A S a); unfold kq_lk; omega)))] | rw [if_pos (Nat.not_le.mp (fun z => c_11 (nI_le (b := 1) z (by omega))))]))) (fun c_16 => ?_)
                    refine lv_iload hx hb dL_unlocks_301 (lv_at hl 4 rfl) ?_
                    refine lv_iconst (v := (-1)) hx hb dL_unlocks_303 (by decide) ?_
                    refine lv_icmp_eq (tgt := 337) hx hb dL_unlocks_304 (by decide) (fun c => absurd c (fk_nI_m1 (by omega))) (fun _ => ?_)
                    refine lv_aload_n hx hb dL_unlocks_307 rfl (lv_at hl 7 rfl) ?_
                    refine lv_iload hx hb dL_unlocks_308 (lv_at hl 4 rfl) ?_
                    refine fk_callV (As := [.int (nI v)]) (rest := []) ⟨hx, hb, hml, hown, hts⟩ (kc_stateOf l D ad cI cT cJ _ (kk_unlock S t a) v hv9) (cwV 1 hts gL_unlocks_X2_stateOf rfl rfl rfl (by decide +kernel) ⟨Nat.le_of_ble_eq_true rfl, Nat.le_of_ble_eq_true rfl⟩) (fk_rvK hK hP) hK hP hD hS hA rfl hl.1 rfl (Nat.le_of_ble_eq_true rfl) dL_unlocks_310 ⟨Nat.le_of_ble_eq_true rfl, Nat.le_of_ble_eq_true rfl⟩ (fun H locs hP hD hS => ?_)
                    refine W.eq (g2 := F0 m 313 ls [.int ((kk_unlock S t a) 1 v)]) rfl ?_
                    refine W.eq (g2 := F0 m 313 ls [.int 0]) (by rw [show ((kk_unlock S t a) 1 v) = (0 : Int32) from w2]) ?_
                    refine lv_if_ne (tgt := 341) hx hb dL_unlocks_313 (by decide) (fun c => absurd c (by decide)) (fun _ => ?_)
                    refine lv_aload_n hx hb dL_unlocks_316 rfl (lv_at hl 7 rfl) ?_
                    refine lv_iload hx hb dL_unlocks_317 (lv_at hl 4 rfl) ?_
                    refine fk_callV (As := [.int (nI v)]) (rest := []) ⟨hx, hb, hml, hown, hts⟩ (kc_resultOf l D ad cI cT cJ _ (kk_unlock S t a) v hv9) (cwV 1 hts gL_unlocks_X2_resultOf rfl rfl rfl (by decide +kernel) ⟨Nat.le_of_ble_eq_true rfl, Nat.le_of_ble_eq_true rfl⟩) (fk_rvK hK hP) hK hP hD hS hA rfl hl.1 rfl (Nat.le_of_ble_eq_true rfl) dL_unlocks_319 ⟨Nat.le_of_ble_eq_true rfl, Nat.le_of_ble_eq_true rfl⟩ (fun H locs hP hD hS => ?_)
                    refine W.eq (g2 := F0 m 322 ls [.int ((kk_unlock S t a) 8 v)]) rfl ?_
                    refine W.eq (g2 := F0 m 322 ls [.int 3]) (by rw [show ((kk_unlock S t a) 8 v) = (3 : Int32) from w3]) ?_
                    refine lv_iconst (v := 3) hx hb dL_unlocks_322 (by decide) ?_
                    refine lv_icmp_ne (tgt := 341) hx hb dL_unlocks_323 (by decide) (fun c => absurd c (by decide)) (fun _ => ?_)
                    refine lv_aload_n hx hb dL_unlocks_326 rfl (lv_at hl 7 rfl) ?_
                    refine lv_iload hx hb dL_unlocks_327 (lv_at hl 4 rfl) ?_
                    refine fk_callV (As := [.int (nI v)]) (rest := []) ⟨hx, hb, hml, hown, hts⟩ (kc_serialOf l D ad cI cT cJ _ (kk_unlock S t a) v hv9) (cwV 1 hts gL_unlocks_X2_serialOf rfl rfl rfl (by decide +kernel) ⟨Nat.le_of_ble_eq_true rfl, Nat.le_of_ble_eq_true rfl⟩) (fk_rvK hK hP) hK hP hD hS hA rfl hl.1 rfl (Nat.le_of_ble_eq_true rfl) dL_unlocks_329 ⟨Nat.le_of_ble_eq_true rfl, Nat.le_of_ble_eq_true rfl⟩ (fun H locs hP hD hS => ?_)
                    refine W.eq (g2 := F0 m 332 ls [.int ((kk_unlock S t a) 9 v)]) rfl ?_
                    refine lv_iload hx hb dL_unlocks_332 (lv_at hl 5 rfl) ?_
                    refine lv_icmp_le (tgt := 341) hx hb dL_unlocks_334 (by decide) (fun c_19 => absurd c_19 (Int32.not_le.mpr w4)) (fun c_19 => ?_)
                    refine lv_iconst (v := 1) hx hb dL_unlocks_337 (by decide) ?_
                    refine lv_goto (tgt := 342) hx hb dL_unlocks_338 (by decide) ?_
                    exact fk_zretE (Nat.le_of_ble_eq_true rfl) (Nat.le_of_ble_eq_true rfl) hx hb hr hlocks hP hK hD hS rfl ⟨rfl, _, _, rfl, (hG1).wk (by omega)⟩ dL_unlocks_342
              | succ n2 ih2 =>
                intro j hj H locs ls hP hD hS hl
                refine lv_iload hx hb dL_unlocks_213 (lv_at hl 0 rfl) ?_
                refine lv_aload_n hx hb dL_unlocks_215 rfl (lv_at hl 7 rfl) ?_
                refine lv_iload hx hb dL_unlocks_216 (lv_at hl 6 rfl) ?_
                refine fk_callV (As := [.int (nI t)]) (rest := [.int (nI j)]) ⟨hx, hb, hml, hown, hts⟩ (kc_locks l D ad cI cT cJ _ (kk_unlock S t a) t ht) (cwV 1 hts gL_unlocks_X2_locks rfl rfl rfl (by decide +kernel) ⟨Nat.le_of_ble_eq_true rfl, Nat.le_of_ble_eq_true rfl⟩) (fk_rvK hK hP) hK hP hD hS hA rfl hl.1 rfl (Nat.le_of_ble_eq_true rfl) dL_unlocks_218 ⟨Nat.le_of_ble_eq_true rfl, Nat.le_of_ble_eq_true rfl⟩ (fun H locs hP hD hS => ?_)
                refine W.eq (g2 := F0 m 221 ls [.int ((kk_unlock S t a) 10 t), .int (nI j)]) rfl ?_
                refine W.eq (g2 := F0 m 221 ls [.int (nI K9), .int (nI j)]) (by rw [show ((kk_unlock S t a) 10 t) = (nI K9) from eK9]) ?_
                refine lv_icmp_ge (tgt := 254) hx hb dL_unlocks_221 (by decide) (fun c_20 => absurd c_20 (nI_ge (a := j) (b := K9) (by omega) (by omega))) (fun c_20 => ?_)
                refine lv_iload hx hb dL_unlocks_224 (lv_at hl 1 rfl) ?_
                refine lv_if_ne (tgt := 241) hx hb dL_unlocks_226 (by decide) (fun c => absurd c (by decide)) (fun _ => ?_)
                refine lv_aload_n hx hb dL_unlocks_229 rfl (lv_at hl 7 rfl) ?_
                refine lv_iload hx hb dL_unlocks_230 (lv_at hl 6 rfl) ?_
                refine lv_iload hx hb dL_unlocks_232 (lv_at hl 0 rfl) ?_
                refine fk_callV (As := [.int (nI t), .int (nI j)]) (rest := []) ⟨hx, hb, hml, hown, hts⟩ (kc_lockAt l D ad cI cT cJ _ (kk_unlock S t a) t ht (nI j) hG1.1.sz ⟨nI_pos' (by omega), by rw [eK9]; exact nI_lt (by omega) (by omega)⟩) (cwV 2 hts gL_unlocks_X2_lockAt rfl rfl rfl (by decide +kernel) ⟨Nat.le_of_ble_eq_true rfl, Nat.le_of_ble_eq_true rfl⟩) (fk_rvK hK hP) hK hP hD hS hA rfl hl.1 rfl (Nat.le_of_ble_eq_true rfl) dL_unlocks_234 ⟨Nat.le_of_ble_eq_true rfl, Nat.le_of_ble_eq_true rfl⟩ (fun H locs hP hD hS => ?_)
                refine W.eq (g2 := F0 m 237 ls [.int (kk_addrAt (kk_unlock S t a) t (nI j))]) rfl ?_
                refine lv_iload_n hx hb dL_unlocks_237 rfl (lv_at hl 8 rfl) ?_
                refine lv_icmp_ne (tgt := 245) hx hb dL_unlocks_238 (by decide) (fun c_22 => ?_) (fun c9 => absurd c9 (hnot j (by omega)))
                refine lv_iconst (v := 0) hx hb dL_unlocks_245 (by decide) ?_
                refine lv_istore (lv' := [(12, .int 0), (13, .int (nI j)), (11, .int (fk_oI (kq_lk S a).head?)), (8, .int (nI ((kq_lk S a).length))), (7, .int (fk_oI (kq_lk S a).head?)), (6, .int (pl_last S)), (4, .int (nI t)), (0, .ref (ad 0)), (2, .int (nI a))]) hx hb dL_unlocks_246 hl (by decide) rfl (fun ls hl => ?_)
                refine lv_iinc (v := (nI (j + 1))) (lv' := [(13, .int (nI (j + 1))), (12, .int 0), (11, .int (fk_oI (kq_lk S a).head?)), (8, .int (nI ((kq_lk S a).length))), (7, .int (fk_oI (kq_lk S a).head?)), (6, .int (pl_last S)), (4, .int (nI t)), (0, .ref (ad 0)), (2, .int (nI a))]) hx hb dL_unlocks_248 hl (k := 1) rfl (nI_1 j) (by decide) rfl (fun ls hl => ?_)
                refine lv_goto (tgt := 213) hx hb dL_unlocks_251 (by decide) ?_
                exact ih2 (j + 1) (by omega) _ _ _ hP hD hS (lv_sub hl [0, 1, 2, 3, 4, 5, 6, 7, 8] rfl)
            exact loop2 K9 0 (by omega) _ _ _ hP hD hS (lv_sub hl [0, 1, 2, 4, 5, 6, 8, 10, 12] rfl)
          | succ n1 ih1 =>
            intro k ot nx hk h1 h2 hnx9 H locs ls hP hD hS hl
            have h8 := kq_A8 S a
            obtain ⟨u, hgu, hdu⟩ := kq_step hk
            have hu9 := kq_A_lt hgu
            refine lv_iload hx hb dL_unlocks_89 (lv_at hl 0 rfl) ?_
            refine lv_aload_n hx hb dL_unlocks_91 rfl (lv_at hl 7 rfl) ?_
            refine lv_iload_n hx hb dL_unlocks_92 rfl (lv_at hl 9 rfl) ?_
            refine fk_callV (As := [.int (nI a)]) (rest := [.int (nI k)]) ⟨hx, hb, hml, hown, hts⟩ (kc_waiters l D ad cI cT cJ _ S a ha) (cwV 1 hts gL_unlocks_X2_waiters rfl rfl rfl (by decide +kernel) ⟨Nat.le_of_ble_eq_true rfl, Nat.le_of_ble_eq_true rfl⟩) (fk_rvK hK hP) hK hP hD hS hA rfl hl.1 rfl (Nat.le_of_ble_eq_true rfl) dL_unlocks_93 ⟨Nat.le_of_ble_eq_true rfl, Nat.le_of_ble_eq_true rfl⟩ (fun H locs hP hD hS => ?_)
            refine W.eq (g2 := F0 m 96 ls [.int (kk_waiters S (nI a)), .int (nI k)]) rfl ?_
            refine W.eq (g2 := F0 m 96 ls [.int (nI ((kq_A S a).length)), .int (nI k)]) (by rw [show (kk_waiters S (nI a)) = (nI ((kq_A S a).length)) from (kq_waiters _ _)]) ?_
            refine lv_icmp_ge (tgt := 159) hx hb dL_unlocks_96 (by decide) (fun c_23 => absurd c_23 (nI_ge (a := k) (b := (kq_A S a).length) (by omega) (by omega))) (fun c_23 => ?_)
            refine lv_aload_n hx hb dL_unlocks_99 rfl (lv_at hl 7 rfl) ?_
            refine lv_iload_n hx hb dL_unlocks_100 rfl (lv_at hl 9 rfl) ?_
            refine lv_iload hx hb dL_unlocks_101 (lv_at hl 0 rfl) ?_
            refine fk_callV (As := [.int (nI a), .int (nI k)]) (rest := []) ⟨hx, hb, hml, hown, hts⟩ (kc_waiterAt l D ad cI cT cJ _ S a ha (nI k) u (by rw [kq_wAt hG.1.J (by omega) (by omega)]; exact hgu)) (cwV 2 hts gL_unlocks_X2_waiterAt rfl rfl rfl (by decide +kernel) ⟨Nat.le_of_ble_eq_true rfl, Nat.le_of_ble_eq_true rfl⟩) (fk_rvK hK hP) hK hP hD hS hA rfl hl.1 rfl (Nat.le_of_ble_eq_true rfl) dL_unlocks_103 ⟨Nat.le_of_ble_eq_true rfl, Nat.le_of_ble_eq_true rfl⟩ (fun H locs hP hD hS => ?_)
            refine W.eq (g2 := F0 m 106 ls [.int (nI u)]) rfl ?_
            refine lv_istore (lv' := [(10, .int (nI u)), (9, .int (nI k)), (8, .int (nI ot)), (7, .int (fk_oI nx)), (6, .int (pl_last S)), (5, .int 1), (4, .int (nI t)), (3, .int (nI t)), (0, .ref (ad 0)), (1, .int y), (2, .int (nI a))]) hx hb dL_unlocks_106 hl (by decide) rfl (fun ls hl => ?_)
            by_cases hlk : S 1 u = 2
            · have hnv : ∀ v, nx = some v → v < 2 ^ 31 := hnx9
              rcases nx with _ | v
              · have hl : lv_has ls 14 [(10, .int (nI u)), (9, .int (nI k)), (8, .int (nI ot)), (7, .int (-1)), (6, .int (pl_last S)), (5, .int 1), (4, .int (nI t)), (3, .int (nI t)), (0, .ref (ad 0)), (1, .int y), (2, .int (nI a))] := hl
                refine lv_iload hx hb dL_unlocks_108 (lv_at hl 2 rfl) ?_
                refine lv_aload_n hx hb dL_unlocks_110 rfl (lv_at hl 8 rfl) ?_
                refine lv_iload hx hb dL_unlocks_111 (lv_at hl 0 rfl) ?_
                refine fk_callV (As := [.int (nI u)]) (rest := [.int (nI ot)]) ⟨hx, hb, hml, hown, hts⟩ (kc_stateOf l D ad cI cT cJ _ S u hu9) (cwV 1 hts gL_unlocks_X2_stateOf rfl rfl rfl (by decide +kernel) ⟨Nat.le_of_ble_eq_true rfl, Nat.le_of_ble_eq_true rfl⟩) (fk_rvK hK hP) hK hP hD hS hA rfl hl.1 rfl (Nat.le_of_ble_eq_true rfl) dL_unlocks_113 ⟨Nat.le_of_ble_eq_true rfl, Nat.le_of_ble_eq_true rfl⟩ (fun H locs hP hD hS => ?_)
                refine W.eq (g2 := F0 m 116 ls [.int (S 1 u), .int (nI ot)]) rfl ?_
                refine W.eq (g2 := F0 m 116 ls [.int 2, .int (nI ot)]) (by rw [show (S 1 u) = (2 : Int32) from hlk]) ?_
                refine lv_iconst (v := 2) hx hb dL_unlocks_116 (by decide) ?_
                refine lv_icmp_ne (tgt := 124) hx hb dL_unlocks_117 (by decide) (fun c => absurd c (by decide)) (fun _ => ?_)
                refine lv_iconst (v := 1) hx hb dL_unlocks_120 (by decide) ?_
                refine lv_goto (tgt := 125) hx hb dL_unlocks_121 (by decide) ?_
                refine lv_iadd hx hb dL_unlocks_125 ?_
                refine W.eq (g2 := F0 m 126 ls [.int (nI (ot + 1))]) (by rw [nI_1]) ?_
                refine lv_istore (lv' := [(8, .int (nI (ot + 1))), (10, .int (nI u)), (9, .int (nI k)), (7, .int (-1)), (6, .int (pl_last S)), (5, .int 1), (4, .int (nI t)), (3, .int (nI t)), (0, .ref (ad 0)), (1, .int y), (2, .int (nI a))]) hx hb dL_unlocks_126 hl (by decide) rfl (fun ls hl => ?_)
                refine lv_aload_n hx hb dL_unlocks_128 rfl (lv_at hl 8 rfl) ?_
                refine lv_iload hx hb dL_unlocks_129 (lv_at hl 1 rfl) ?_
                refine fk_callV (As := [.int (nI u)]) (rest := []) ⟨hx, hb, hml, hown, hts⟩ (kc_stateOf l D ad cI cT cJ _ S u hu9) (cwV 1 hts gL_unlocks_X2_stateOf rfl rfl rfl (by decide +kernel) ⟨Nat.le_of_ble_eq_true rfl, Nat.le_of_ble_eq_true rfl⟩) (fk_rvK hK hP) hK hP hD hS hA rfl hl.1 rfl (Nat.le_of_ble_eq_true rfl) dL_unlocks_131 ⟨Nat.le_of_ble_eq_true rfl, Nat.le_of_ble_eq_true rfl⟩ (fun H locs hP hD hS => ?_)
                refine W.eq (g2 := F0 m 134 ls [.int (S 1 u)]) rfl ?_
                refine W.eq (g2 := F0 m 134 ls [.int 2]) (by rw [show (S 1 u) = (2 : Int32) from hlk]) ?_
                refine lv_iconst (v := 2) hx hb dL_unlocks_134 (by decide) ?_
                refine lv_icmp_ne (tgt := 149) hx hb dL_unlocks_135 (by decide) (fun c => absurd c (by decide)) (fun _ => ?_)
                refine lv_iload hx hb dL_unlocks_138 (lv_at hl 3 rfl) ?_
                refine lv_iconst (v := (-1)) hx hb dL_unlocks_140 (by decide) ?_
                refine lv_icmp_ne (tgt := 149) hx hb dL_unlocks_141 (by decide) (fun c => absurd c (by decide)) (fun _ => ?_)
                refine lv_iload hx hb dL_unlocks_144 (lv_at hl 1 rfl) ?_
                refine lv_goto (tgt := 151) hx hb dL_unlocks_146 (by decide) ?_
                refine lv_istore (lv' := [(7, .int (nI u)), (8, .int (nI (ot + 1))), (10, .int (nI u)), (9, .int (nI k)), (6, .int (pl_last S)), (5, .int 1), (4, .int (nI t)), (3, .int (nI t)), (0, .ref (ad 0)), (1, .int y), (2, .int (nI a))]) hx hb dL_unlocks_151 hl (by decide) rfl (fun ls hl => ?_)
                refine lv_iinc (v := (nI (k + 1))) (lv' := [(9, .int (nI (k + 1))), (7, .int (nI u)), (8, .int (nI (ot + 1))), (10, .int (nI u)), (6, .int (pl_last S)), (5, .int 1), (4, .int (nI t)), (3, .int (nI t)), (0, .ref (ad 0)), (1, .int y), (2, .int (nI a))]) hx hb dL_unlocks_153 hl (k := 3) rfl (nI_1 k) (by decide) rfl (fun ls hl => ?_)
                refine lv_goto (tgt := 89) hx hb dL_unlocks_156 (by decide) ?_
                exact ih1 (k + 1) (ot + 1) (some u) (by omega) ((kq_lkS hgu hdu h1 h2).1 hlk).1 ((kq_lkS hgu hdu h1 h2).1 hlk).2 (by intro w hw; cases hw; omega) _ _ _ hP hD hS (lv_sub hl [0, 2, 1, 4, 5, 6, 7, 8, 9, 10] rfl)
              · have hv8 : v < 2 ^ 31 := hnv v rfl
                have hl : lv_has ls 14 [(10, .int (nI u)), (9, .int (nI k)), (8, .int (nI ot)), (7, .int (nI v)), (6, .int (pl_last S)), (5, .int 1), (4, .int (nI t)), (3, .int (nI t)), (0, .ref (ad 0)), (1, .int y), (2, .int (nI a))] := hl
                refine lv_iload hx hb dL_unlocks_108 (lv_at hl 2 rfl) ?_
                refine lv_aload_n hx hb dL_unlocks_110 rfl (lv_at hl 8 rfl) ?_
                refine lv_iload hx hb dL_unlocks_111 (lv_at hl 0 rfl) ?_
                refine fk_callV (As := [.int (nI u)]) (rest := [.int (nI ot)]) ⟨hx, hb, hml, hown, hts⟩ (kc_stateOf l D ad cI cT cJ _ S u hu9) (cwV 1 hts gL_unlocks_X2_stateOf rfl rfl rfl (by decide +kernel) ⟨Nat.le_of_ble_eq_true rfl, Nat.le_of_ble_eq_true rfl⟩) (fk_rvK hK hP) hK hP hD hS hA rfl hl.1 rfl (Nat.le_of_ble_eq_true rfl) dL_unlocks_113 ⟨Nat.le_of_ble_eq_true rfl, Nat.le_of_ble_eq_true rfl⟩ (fun H locs hP hD hS => ?_)
                refine W.eq (g2 := F0 m 116 ls [.int (S 1 u), .int (nI ot)]) rfl ?_
                refine W.eq (g2 := F0 m 116 ls [.int 2, .int (nI ot)]) (by rw [show (S 1 u) = (2 : Int32) from hlk]) ?_
                refine lv_iconst (v := 2) hx hb dL_unlocks_116 (by decide) ?_
                refine lv_icmp_ne (tgt := 124) hx hb dL_unlocks_117 (by decide) (fun c => absurd c (by decide)) (fun _ => ?_)
                refine lv_iconst (v := 1) hx hb dL_unlocks_120 (by decide) ?_
                refine lv_goto (tgt := 125) hx hb dL_unlocks_121 (by decide) ?_
                refine lv_iadd hx hb dL_unlocks_125 ?_
                refine W.eq (g2 := F0 m 126 ls [.int (nI (ot + 1))]) (by rw [nI_1]) ?_
                refine lv_istore (lv' := [(8, .int (nI (ot + 1))), (10, .int (nI u)), (9, .int (nI k)), (7, .int (nI v)), (6, .int (pl_last S)), (5, .int 1), (4, .int (nI t)), (3, .int (nI t)), (0, .ref (ad 0)), (1, .int y), (2, .int (nI a))]) hx hb dL_unlocks_126 hl (by decide) rfl (fun ls hl => ?_)
                refine lv_aload_n hx hb dL_unlocks_128 rfl (lv_at hl 8 rfl) ?_
                refine lv_iload hx hb dL_unlocks_129 (lv_at hl 1 rfl) ?_
                refine fk_callV (As := [.int (nI u)]) (rest := []) ⟨hx, hb, hml, hown, hts⟩ (kc_stateOf l D ad cI cT cJ _ S u hu9) (cwV 1 hts gL_unlocks_X2_stateOf rfl rfl rfl (by decide +kernel) ⟨Nat.le_of_ble_eq_true rfl, Nat.le_of_ble_eq_true rfl⟩) (fk_rvK hK hP) hK hP hD hS hA rfl hl.1 rfl (Nat.le_of_ble_eq_true rfl) dL_unlocks_131 ⟨Nat.le_of_ble_eq_true rfl, Nat.le_of_ble_eq_true rfl⟩ (fun H locs hP hD hS => ?_)
                refine W.eq (g2 := F0 m 134 ls [.int (S 1 u)]) rfl ?_
                refine W.eq (g2 := F0 m 134 ls [.int 2]) (by rw [show (S 1 u) = (2 : Int32) from hlk]) ?_
                refine lv_iconst (v := 2) hx hb dL_unlocks_134 (by decide) ?_
                refine lv_icmp_ne (tgt := 149) hx hb dL_unlocks_135 (by decide) (fun c => absurd c (by decide)) (fun _ => ?_)
                refine lv_iload hx hb dL_unlocks_138 (lv_at hl 3 rfl) ?_
                refine lv_iconst (v := (-1)) hx hb dL_unlocks_140 (by decide) ?_
                refine lv_icmp_ne (tgt := 149) hx hb dL_unlocks_141 (by decide) (fun _ => ?_) (fun c => absurd c (fk_nI_m1 (by omega)))
                refine lv_iload hx hb dL_unlocks_149 (lv_at hl 3 rfl) ?_
                refine lv_istore (lv' := [(7, .int (nI v)), (8, .int (nI (ot + 1))), (10, .int (nI u)), (9, .int (nI k)), (6, .int (pl_last S)), (5, .int 1), (4, .int (nI t)), (3, .int (nI t)), (0, .ref (ad 0)), (1, .int y), (2, .int (nI a))]) hx hb dL_unlocks_151 hl (by decide) rfl (fun ls hl => ?_)
                refine lv_iinc (v := (nI (k + 1))) (lv' := [(9, .int (nI (k + 1))), (7, .int (nI v)), (8, .int (nI (ot + 1))), (10, .int (nI u)), (6, .int (pl_last S)), (5, .int 1), (4, .int (nI t)), (3, .int (nI t)), (0, .ref (ad 0)), (1, .int y), (2, .int (nI a))]) hx hb dL_unlocks_153 hl (k := 3) rfl (nI_1 k) (by decide) rfl (fun ls hl => ?_)
                refine lv_goto (tgt := 89) hx hb dL_unlocks_156 (by decide) ?_
                exact ih1 (k + 1) (ot + 1) (some v) (by omega) ((kq_lkS hgu hdu h1 h2).1 hlk).1 ((kq_lkS hgu hdu h1 h2).1 hlk).2 (by intro w hw; cases hw; omega) _ _ _ hP hD hS (lv_sub hl [0, 2, 1, 4, 5, 6, 7, 8, 9, 10] rfl)
            · refine lv_iload hx hb dL_unlocks_108 (lv_at hl 2 rfl) ?_
              refine lv_aload_n hx hb dL_unlocks_110 rfl (lv_at hl 8 rfl) ?_
              refine lv_iload hx hb dL_unlocks_111 (lv_at hl 0 rfl) ?_
              refine fk_callV (As := [.int (nI u)]) (rest := [.int (nI ot)]) ⟨hx, hb, hml, hown, hts⟩ (kc_stateOf l D ad cI cT cJ _ S u hu9) (cwV 1 hts gL_unlocks_X2_stateOf rfl rfl rfl (by decide +kernel) ⟨Nat.le_of_ble_eq_true rfl, Nat.le_of_ble_eq_true rfl⟩) (fk_rvK hK hP) hK hP hD hS hA rfl hl.1 rfl (Nat.le_of_ble_eq_true rfl) dL_unlocks_113 ⟨Nat.le_of_ble_eq_true rfl, Nat.le_of_ble_eq_true rfl⟩ (fun H locs hP hD hS => ?_)
              refine W.eq (g2 := F0 m 116 ls [.int (S 1 u), .int (nI ot)]) rfl ?_
              refine lv_iconst (v := 2) hx hb dL_unlocks_116 (by decide) ?_
              refine lv_icmp_ne (tgt := 124) hx hb dL_unlocks_117 (by decide) (fun c_29 => ?_) (fun c9 => absurd c9 hlk)
              refine lv_iconst (v := 0) hx hb dL_unlocks_124 (by decide) ?_
              refine lv_iadd hx hb dL_unlocks_125 ?_
              refine W.eq (g2 := F0 m 126 ls [.int (nI ot)]) (by rw [show (0 : Int32) = nI 0 from rfl, nI_add]; rfl) ?_
              refine lv_istore (lv' := [(8, .int (nI ot)), (10, .int (nI u)), (9, .int (nI k)), (7, .int (fk_oI nx)), (6, .int (pl_last S)), (5, .int 1), (4, .int (nI t)), (3, .int (nI t)), (0, .ref (ad 0)), (1, .int y), (2, .int (nI a))]) hx hb dL_unlocks_126 hl (by decide) rfl (fun ls hl => ?_)
              refine lv_aload_n hx hb dL_unlocks_128 rfl (lv_at hl 8 rfl) ?_
              refine lv_iload hx hb dL_unlocks_129 (lv_at hl 1 rfl) ?_
              refine fk_callV (As := [.int (nI u)]) (rest := []) ⟨hx, hb, hml, hown, hts⟩ (kc_stateOf l D ad cI cT cJ _ S u hu9) (cwV 1 hts gL_unlocks_X2_stateOf rfl rfl rfl (by decide +kernel) ⟨Nat.le_of_ble_eq_true rfl, Nat.le_of_ble_eq_true rfl⟩) (fk_rvK hK hP) hK hP hD hS hA rfl hl.1 rfl (Nat.le_of_ble_eq_true rfl) dL_unlocks_131 ⟨Nat.le_of_ble_eq_true rfl, Nat.le_of_ble_eq_true rfl⟩ (fun H locs hP hD hS => ?_)
              refine W.eq (g2 := F0 m 134 ls [.int (S 1 u)]) rfl ?_
              refine lv_iconst (v := 2) hx hb dL_unlocks_134 (by decide) ?_
              refine lv_icmp_ne (tgt := 149) hx hb dL_unlocks_135 (by decide) (fun c_30 => ?_) (fun c9 => absurd c9 hlk)
              refine lv_iload hx hb dL_unlocks_149 (lv_at hl 3 rfl) ?_
              refine lv_istore (lv' := [(7, .int (fk_oI nx)), (8, .int (nI ot)), (10, .int (nI u)), (9, .int (nI k)), (6, .int (pl_last S)), (5, .int 1), (4, .int (nI t)), (3, .int (nI t)), (0, .ref (ad 0)), (1, .int y), (2, .int (nI a))]) hx hb dL_unlocks_151 hl (by decide) rfl (fun ls hl => ?_)
              refine lv_iinc (v := (nI (k + 1))) (lv' := [(9, .int (nI (k + 1))), (7, .int (fk_oI nx)), (8, .int (nI ot)), (10, .int (nI u)), (6, .int (pl_last S)), (5, .int 1), (4, .int (nI t)), (3, .int (nI t)), (0, .ref (ad 0)), (1, .int y), (2, .int (nI a))]) hx hb dL_unlocks_153 hl (k := 3) rfl (nI_1 k) (by decide) rfl (fun ls hl => ?_)
              refine lv_goto (tgt := 89) hx hb dL_unlocks_156 (by decide) ?_
              exact ih1 (k + 1) ot nx (by omega) ((kq_lkS hgu hdu h1 h2).2 hlk).1 ((kq_lkS hgu hdu h1 h2).2 hlk).2 hnx9 _ _ _ hP hD hS (lv_sub hl [0, 2, 1, 4, 5, 6, 7, 8, 9, 10] rfl)
        exact loop1 (kq_A S a).length 0 0 none (by omega) (by rw [Nat.zero_add]; rfl) rfl (by intro w hw; cases hw) _ _ _ hP hD hS (lv_sub hl [0, 1, 2, 3, 4, 5, 6, 8, 9, 7] rfl)
      · refine lv_aload_n hx hb dL_unlocks_52 rfl (lv_at hl 3 rfl) ?_
        refine lv_iload hx hb dL_unlocks_53 (lv_at hl 0 rfl) ?_
        refine fk_callV (As := [.int (nI t)]) (rest := []) ⟨hx, hb, hml, hown, hts⟩ (kc_stateOf l D ad cI cT cJ _ S t ht) (cwV 1 hts gL_unlocks_X2_stateOf rfl rfl rfl (by decide +kernel) ⟨Nat.le_of_ble_eq_true rfl, Nat.le_of_ble_eq_true rfl⟩) (fk_rvK hK hP) hK hP hD hS hA rfl hl.1 rfl (Nat.le_of_ble_eq_true rfl) dL_unlocks_55 ⟨Nat.le_of_ble_eq_true rfl, Nat.le_of_ble_eq_true rfl⟩ (fun H locs hP hD hS => ?_)
        refine W.eq (g2 := F0 m 58 ls [.int (S 1 t)]) rfl ?_
        refine W.eq (g2 := F0 m 58 ls [.int 0]) (by rw [show (S 1 t) = (0 : Int32) from hs0]) ?_
        refine lv_if_ne (tgt := 71) hx hb dL_unlocks_58 (by decide) (fun c => absurd c (by decide)) (fun _ => ?_)
        refine lv_iload_n hx hb dL_unlocks_61 rfl (lv_at hl 1 rfl) ?_
        refine lv_iload hx hb dL_unlocks_62 (lv_at hl 0 rfl) ?_
        refine lv_icmp_ne (tgt := 71) hx hb dL_unlocks_64 (by decide) (fun c_32 => ?_) (fun c9 => absurd c9 howt)
        refine lv_iconst (v := 0) hx hb dL_unlocks_71 (by decide) ?_
        refine lv_istore (lv' := [(5, .int 0), (4, .int (nI t)), (3, .int (pl_own (S 0 a))), (2, .int (nI a)), (0, .ref (ad 0)), (1, .int y)]) hx hb dL_unlocks_72 hl (by decide) rfl (fun ls hl => ?_)
        refine lv_aload_n hx hb dL_unlocks_74 rfl (lv_at hl 4 rfl) ?_
        refine fk_callS (As := [.ref (ad 0)]) (rest := []) ⟨hx, hb, hml, hown, hts⟩ (kl_last l D ad cI cT cJ _ S) (va_cwS 1 hts gL_unlocks_L_last rfl rfl rfl (by decide +kernel) ⟨Nat.le_of_ble_eq_true rfl, Nat.le_of_ble_eq_true rfl⟩) hK hP hD hS hA rfl hl.1 rfl (Nat.le_of_ble_eq_true rfl) dL_unlocks_75 ⟨Nat.le_of_ble_eq_true rfl, Nat.le_of_ble_eq_true rfl⟩ (fun H locs hP hD hS => ?_)
        refine W.eq (g2 := F0 m 78 ls [.int (pl_last S)]) rfl ?_
        refine lv_istore (lv' := [(6, .int (pl_last S)), (5, .int 0), (4, .int (nI t)), (3, .int (pl_own (S 0 a))), (2, .int (nI a)), (0, .ref (ad 0)), (1, .int y)]) hx hb dL_unlocks_78 hl (by decide) rfl (fun ls hl => ?_)
        refine lv_iconst (v := (-1)) hx hb dL_unlocks_80 (by decide) ?_
        refine lv_istore (lv' := [(7, .int (-1)), (6, .int (pl_last S)), (5, .int 0), (4, .int (nI t)), (3, .int (pl_own (S 0 a))), (2, .int (nI a)), (0, .ref (ad 0)), (1, .int y)]) hx hb dL_unlocks_81 hl (by decide) rfl (fun ls hl => ?_)
        refine lv_iconst (v := 0) hx hb dL_unlocks_83 (by decide) ?_
        refine lv_istore (lv' := [(8, .int 0), (7, .int (-1)), (6, .int (pl_last S)), (5, .int 0), (4, .int (nI t)), (3, .int (pl_own (S 0 a))), (2, .int (nI a)), (0, .ref (ad 0)), (1, .int y)]) hx hb dL_unlocks_84 hl (by decide) rfl (fun ls hl => ?_)
        refine lv_iconst (v := 0) hx hb dL_unlocks_86 (by decide) ?_
        refine lv_istore (lv' := [(9, .int 0), (8, .int 0), (7, .int (-1)), (6, .int (pl_last S)), (5, .int 0), (4, .int (nI t)), (3, .int (pl_own (S 0 a))), (2, .int (nI a)), (0, .ref (ad 0)), (1, .int y)]) hx hb dL_unlocks_87 hl (by decide) rfl (fun ls hl => ?_)
        have loop1 : ∀ (n1 : Nat) (k ot : Nat) (nx : Option Nat), k + n1 = (kq_A S a).length → ot + (((kq_A S a).drop k).filter (fun t => decide (S 1 t = 2))).length = (kq_lk S a).length → nx.or (((kq_A S a).drop k).filter (fun t => decide (S 1 t = 2))).head? = (kq_lk S a).head? → (∀ v, nx = some v → v < 2 ^ 31) → ∀ (H : Heap) (locs : List Loc) (ls : Array Slot), va_P D vwCl (fk_kW ad cI cT S ++ (q, fk_pr cI P) :: X) H → va_D A (fk_kW ad cI cT S ++ (q, fk_pr cI P) :: X) → va_S A s.heap H locs → lv_has ls 14 [(9, .int (nI k)), (8, .int (nI ot)), (7, .int (fk_oI nx)), (6, .int (pl_last S)), (5, .int 0), (4, .int (nI t)), (3, .int (pl_own (S 0 a))), (0, .ref (ad 0)), (1, .int y), (2, .int (nI a))] → W p l e rm_E s m ([.ref (ad 0), .int y] : List Value).toArray below meth c H locs 0 0 (MQ below (fk_QE D (fk_ty cI cT cJ) A (kq_Phi ad cI cT q X (n + 20))) ([.ref (ad 0), .int y] : List Value).toArray s 2 12 A) (F0 m 89 ls []) := by
          intro n1
          induction n1 with
          | zero =>
            intro k ot nx hk h1 h2 hnx9 H locs ls hP hD hS hl
            have h8 := kq_A8 S a
            rw [(kq_stop hk).2] at h1 h2
            have hot : ot = (kq_lk S a).length := by simpa using h1
            have hnx : nx = (kq_lk S a).head? := by rw [← h2]; cases nx <;> rfl
            have hl : lv_has ls 14 [(9, .int (nI k)), (8, .int (nI ((kq_lk S a).length))), (7, .int (fk_oI (kq_lk S a).head?)), (6, .int (pl_last S)), (5, .int 0), (4, .int (nI t)), (3, .int (pl_own (S 0 a))), (0, .ref (ad 0)), (1, .int y), (2, .int (nI a))] := by rw [hot, hnx] at hl; exact hl
            refine lv_iload hx hb dL_unlocks_89 (lv_at hl 0 rfl) ?_
            refine lv_aload_n hx hb dL_unlocks_91 rfl (lv_at hl 7 rfl) ?_
            refine lv_iload_n hx hb dL_unlocks_92 rfl (lv_at hl 9 rfl) ?_
            refine fk_callV (As := [.int (nI a)]) (rest := [.int (nI k)]) ⟨hx, hb, hml, hown, hts⟩ (kc_waiters l D ad cI cT cJ _ S a ha) (cwV 1 hts gL_unlocks_X2_waiters rfl rfl rfl (by decide +kernel) ⟨Nat.le_of_ble_eq_true rfl, Nat.le_of_ble_eq_true rfl⟩) (fk_rvK hK hP) hK hP hD hS hA rfl hl.1 rfl (Nat.le_of_ble_eq_true rfl) dL_unlocks_93 ⟨Nat.le_of_ble_eq_true rfl, Nat.le_of_ble_eq_true rfl⟩ (fun H locs hP hD hS => ?_)
            refine W.eq (g2 := F0 m 96 ls [.int (kk_waiters S (nI a)), .int (nI k)]) rfl ?_
            refine W.eq (g2 := F0 m 96 ls [.int (nI ((kq_A S a).length)), .int (nI k)]) (by rw [show (kk_waiters S (nI a)) = (nI ((kq_A S a).length)) from (kq_waiters _ _)]) ?_
            refine lv_icmp_ge (tgt := 159) hx hb dL_unlocks_96 (by decide) (fun c_33 => ?_) (fun c_33 => absurd (nI_le (a := (kq_A S a).length) (b := k) (by omega) (by omega)) c_33)
            refine lv_aload_n hx hb dL_unlocks_159 rfl (lv_at hl 7 rfl) ?_
            refine lv_iconst (v := (-1)) hx hb dL_unlocks_160 (by decide) ?_
            refine fk_callS (As := [.ref (ad 0), .int (-1)]) (rest := []) ⟨hx, hb, hml, hown, hts⟩ (kl_threads l D ad cI cT cJ _ S hG.1.sz hG.1.J (-1)) (va_cwS 2 hts gL_unlocks_L_threads rfl rfl rfl (by decide +kernel) ⟨Nat.le_of_ble_eq_true rfl, Nat.le_of_ble_eq_true rfl⟩) hK hP hD hS hA rfl hl.1 rfl (Nat.le_of_ble_eq_true rfl) dL_unlocks_161 ⟨Nat.le_of_ble_eq_true rfl, Nat.le_of_ble_eq_true rfl⟩ (fun H locs hP hD hS => ?_)
            refine W.eq (g2 := F0 m 164 ls [.long (pl_thr S (-1))]) rfl ?_
            refine lv_lstore (lv' := [(9, .long (pl_thr S (-1))), (8, .int (nI ((kq_lk S a).length))), (7, .int (fk_oI (kq_lk S a).head?)), (6, .int (pl_last S)), (5, .int 0), (4, .int (nI t)), (3, .int (pl_own (S 0 a))), (0, .ref (ad 0)), (1, .int y), (2, .int (nI a))]) hx hb dL_unlocks_164 hl (by decide) rfl (fun ls hl => ?_)
            refine lv_aload_n hx hb dL_unlocks_166 rfl (lv_at hl 7 rfl) ?_
            refine lv_iconst (v := 1) hx hb dL_unlocks_167 (by decide) ?_
            refine lv_iload hx hb dL_unlocks_168 (lv_at hl 5 rfl) ?_
            refine lv_iload_n hx hb dL_unlocks_170 rfl (lv_at hl 9 rfl) ?_
            refine lv_iconst (v := 0) hx hb dL_unlocks_171 (by decide) ?_
            refine lv_iconst (v := 0) hx hb dL_unlocks_172 (by decide) ?_
            refine fk_lcallS (As := [.ref (ad 0), .int 1, .int (nI t), .int (nI a), .int 0, .int 0]) (rest := []) ⟨hx, hb, hml, hown, hts⟩ (Lx_unlock_IS l D ad cI cT cJ _ S _ _ _ _ (fun X => kx_unlock_4 l D ad cI cT cJ X S hst t ht a ha hs0 (fun h9 => howt ((kk_owner_own S ha ht).mp h9)))) (vx_cwSW 6 hts gL_unlocks_L_acts rfl rfl rfl (by decide +kernel) ⟨Nat.le_of_ble_eq_true rfl, Nat.le_of_ble_eq_true rfl⟩) hK hP hD hS hA hZ hN rfl hl.1 rfl (Nat.le_of_ble_eq_true rfl) dL_unlocks_173 ⟨Nat.le_of_ble_eq_true rfl, Nat.le_of_ble_eq_true rfl⟩ (fun H locs hP hD hS => ?_)
            refine W.eq (g2 := F0 m 176 ls [.int (-2147483203)]) rfl ?_
            refine lv_istore (lv' := [(11, .int (-2147483203)), (9, .long (pl_thr S (-1))), (8, .int (nI ((kq_lk S a).length))), (7, .int (fk_oI (kq_lk S a).head?)), (6, .int (pl_last S)), (5, .int 0), (4, .int (nI t)), (3, .int (pl_own (S 0 a))), (0, .ref (ad 0)), (1, .int y), (2, .int (nI a))]) hx hb dL_unlocks_176 hl (by decide) rfl (fun ls hl => ?_)
            refine lv_iload hx hb dL_unlocks_178 (lv_at hl 5 rfl) ?_
            refine lv_if_ne (tgt := 207) hx hb dL_unlocks_180 (by decide) (fun c => absurd c (by decide)) (fun _ => ?_)
            refine lv_iload hx hb dL_unlocks_183 (lv_at hl 0 rfl) ?_
            refine lv_ldc (own := RL) (v := (-2147483203)) hx hb hown (hts (.constant RL 23 (-2147483203)) (List.mem_of_getElem? (i := 1) rfl)) dL_unlocks_185 ?_
            refine lv_icmp_ne (tgt := 205) hx hb dL_unlocks_187 (by decide) (fun c => absurd c (by decide)) (fun _ => ?_)
            refine lv_aload_n hx hb dL_unlocks_190 rfl (lv_at hl 8 rfl) ?_
            refine lv_iconst (v := (-1)) hx hb dL_unlocks_191 (by decide) ?_
            refine fk_callS (As := [.ref (ad 0), .int (-1)]) (rest := []) ⟨hx, hb, hml, hown, hts⟩ (kl_threads l D ad cI cT cJ _ S hG.1.sz hG.1.J (-1)) (va_cwS 2 hts gL_unlocks_L_threads rfl rfl rfl (by decide +kernel) ⟨Nat.le_of_ble_eq_true rfl, Nat.le_of_ble_eq_true rfl⟩) hK hP hD hS hA rfl hl.1 rfl (Nat.le_of_ble_eq_true rfl) dL_unlocks_192 ⟨Nat.le_of_ble_eq_true rfl, Nat.le_of_ble_eq_true rfl⟩ (fun H locs hP hD hS => ?_)
            refine W.eq (g2 := F0 m 195 ls [.long (pl_thr S (-1))]) rfl ?_
            refine lv_lload hx hb dL_unlocks_195 (lv_at hl 1 rfl) ?_
            refine W.lcmp hx hb dL_unlocks_197 ?_
            refine W.eq (g2 := F0 m 198 ls [.int 0]) (by rw [fk_cmp_self]) ?_
            refine lv_if_ne (tgt := 205) hx hb dL_unlocks_198 (by decide) (fun c => absurd c (by decide)) (fun _ => ?_)
            refine lv_iconst (v := 1) hx hb dL_unlocks_201 (by decide) ?_
            refine lv_goto (tgt := 206) hx hb dL_unlocks_202 (by decide) ?_
            exact fk_zretE (Nat.le_of_ble_eq_true rfl) (Nat.le_of_ble_eq_true rfl) hx hb hr hlocks hP hK hD hS rfl ⟨rfl, _, _, rfl, (hG).wk (by omega)⟩ dL_unlocks_206
          | succ n1 ih1 =>
            intro k ot nx hk h1 h2 hnx9 H locs ls hP hD hS hl
            have h8 := kq_A8 S a
            obtain ⟨u, hgu, hdu⟩ := kq_step hk
            have hu9 := kq_A_lt hgu
            refine lv_iload hx hb dL_unlocks_89 (lv_at hl 0 rfl) ?_
            refine lv_aload_n hx hb dL_unlocks_91 rfl (lv_at hl 7 rfl) ?_
            refine lv_iload_n hx hb dL_unlocks_92 rfl (lv_at hl 9 rfl) ?_
            refine fk_callV (As := [.int (nI a)]) (rest := [.int (nI k)]) ⟨hx, hb, hml, hown, hts⟩ (kc_waiters l D ad cI cT cJ _ S a ha) (cwV 1 hts gL_unlocks_X2_waiters rfl rfl rfl (by decide +kernel) ⟨Nat.le_of_ble_eq_true rfl, Nat.le_of_ble_eq_true rfl⟩) (fk_rvK hK hP) hK hP hD hS hA rfl hl.1 rfl (Nat.le_of_ble_eq_true rfl) dL_unlocks_93 ⟨Nat.le_of_ble_eq_true rfl, Nat.le_of_ble_eq_true rfl⟩ (fun H locs hP hD hS => ?_)
            refine W.eq (g2 := F0 m 96 ls [.int (kk_waiters S (nI a)), .int (nI k)]) rfl ?_
            refine W.eq (g2 := F0 m 96 ls [.int (nI ((kq_A S a).length)), .int (nI k)]) (by rw [show (kk_waiters S (nI a)) = (nI ((kq_A S a).length)) from (kq_waiters _ _)]) ?_
            refine lv_icmp_ge (tgt := 159) hx hb dL_unlocks_96 (by decide) (fun c_37 => absurd c_37 (nI_ge (a := k) (b := (kq_A S a).length) (by omega) (by omega))) (fun c_37 => ?_)
            refine lv_aload_n hx hb dL_unlocks_99 rfl (lv_at hl 7 rfl) ?_
            refine lv_iload_n hx hb dL_unlocks_100 rfl (lv_at hl 9 rfl) ?_
            refine lv_iload hx hb dL_unlocks_101 (lv_at hl 0 rfl) ?_
            refine fk_callV (As := [.int (nI a), .int (nI k)]) (rest := []) ⟨hx, hb, hml, hown, hts⟩ (kc_waiterAt l D ad cI cT cJ _ S a ha (nI k) u (by rw [kq_wAt hG.1.J (by omega) (by omega)]; exact hgu)) (cwV 2 hts gL_unlocks_X2_waiterAt rfl rfl rfl (by decide +kernel) ⟨Nat.le_of_ble_eq_true rfl, Nat.le_of_ble_eq_true rfl⟩) (fk_rvK hK hP) hK hP hD hS hA rfl hl.1 rfl (Nat.le_of_ble_eq_true rfl) dL_unlocks_103 ⟨Nat.le_of_ble_eq_true rfl, Nat.le_of_ble_eq_true rfl⟩ (fun H locs hP hD hS => ?_)
            refine W.eq (g2 := F0 m 106 ls [.int (nI u)]) rfl ?_
            refine lv_istore (lv' := [(10, .int (nI u)), (9, .int (nI k)), (8, .int (nI ot)), (7, .int (fk_oI nx)), (6, .int (pl_last S)), (5, .int 0), (4, .int (nI t)), (3, .int (pl_own (S 0 a))), (0, .ref (ad 0)), (1, .int y), (2, .int (nI a))]) hx hb dL_unlocks_106 hl (by decide) rfl (fun ls hl => ?_)
            by_cases hlk : S 1 u = 2
            · have hnv : ∀ v, nx = some v → v < 2 ^ 31 := hnx9
              rcases nx with _ | v
              · have hl : lv_has ls 14 [(10, .int (nI u)), (9, .int (nI k)), (8, .int (nI ot)), (7, .int (-1)), (6, .int (pl_last S)), (5, .int 0), (4, .int (nI t)), (3, .int (pl_own (S 0 a))), (0, .ref (ad 0)), (1, .int y), (2, .int (nI a))] := hl
                refine lv_iload hx hb dL_unlocks_108 (lv_at hl 2 rfl) ?_
                refine lv_aload_n hx hb dL_unlocks_110 rfl (lv_at hl 8 rfl) ?_
                refine lv_iload hx hb dL_unlocks_111 (lv_at hl 0 rfl) ?_
                refine fk_callV (As := [.int (nI u)]) (rest := [.int (nI ot)]) ⟨hx, hb, hml, hown, hts⟩ (kc_stateOf l D ad cI cT cJ _ S u hu9) (cwV 1 hts gL_unlocks_X2_stateOf rfl rfl rfl (by decide +kernel) ⟨Nat.le_of_ble_eq_true rfl, Nat.le_of_ble_eq_true rfl⟩) (fk_rvK hK hP) hK hP hD hS hA rfl hl.1 rfl (Nat.le_of_ble_eq_true rfl) dL_unlocks_113 ⟨Nat.le_of_ble_eq_true rfl, Nat.le_of_ble_eq_true rfl⟩ (fun H locs hP hD hS => ?_)
                refine W.eq (g2 := F0 m 116 ls [.int (S 1 u), .int (nI ot)]) rfl ?_
                refine W.eq (g2 := F0 m 116 ls [.int 2, .int (nI ot)]) (by rw [show (S 1 u) = (2 : Int32) from hlk]) ?_
                refine lv_iconst (v := 2) hx hb dL_unlocks_116 (by decide) ?_
                refine lv_icmp_ne (tgt := 124) hx hb dL_unlocks_117 (by decide) (fun c => absurd c (by decide)) (fun _ => ?_)
                refine lv_iconst (v := 1) hx hb dL_unlocks_120 (by decide) ?_
                refine lv_goto (tgt := 125) hx hb dL_unlocks_121 (by decide) ?_
                refine lv_iadd hx hb dL_unlocks_125 ?_
                refine W.eq (g2 := F0 m 126 ls [.int (nI (ot + 1))]) (by rw [nI_1]) ?_
                refine lv_istore (lv' := [(8, .int (nI (ot + 1))), (10, .int (nI u)), (9, .int (nI k)), (7, .int (-1)), (6, .int (pl_last S)), (5, .int 0), (4, .int (nI t)), (3, .int (pl_own (S 0 a))), (0, .ref (ad 0)), (1, .int y), (2, .int (nI a))]) hx hb dL_unlocks_126 hl (by decide) rfl (fun ls hl => ?_)
                refine lv_aload_n hx hb dL_unlocks_128 rfl (lv_at hl 8 rfl) ?_
                refine lv_iload hx hb dL_unlocks_129 (lv_at hl 1 rfl) ?_
                refine fk_callV (As := [.int (nI u)]) (rest := []) ⟨hx, hb, hml, hown, hts⟩ (kc_stateOf l D ad cI cT cJ _ S u hu9) (cwV 1 hts gL_unlocks_X2_stateOf rfl rfl rfl (by decide +kernel) ⟨Nat.le_of_ble_eq_true rfl, Nat.le_of_ble_eq_true rfl⟩) (fk_rvK hK hP) hK hP hD hS hA rfl hl.1 rfl (Nat.le_of_ble_eq_true rfl) dL_unlocks_131 ⟨Nat.le_of_ble_eq_true rfl, Nat.le_of_ble_eq_true rfl⟩ (fun H locs hP hD hS => ?_)
                refine W.eq (g2 := F0 m 134 ls [.int (S 1 u)]) rfl ?_
                refine W.eq (g2 := F0 m 134 ls [.int 2]) (by rw [show (S 1 u) = (2 : Int32) from hlk]) ?_
                refine lv_iconst (v := 2) hx hb dL_unlocks_134 (by decide) ?_
                refine lv_icmp_ne (tgt := 149) hx hb dL_unlocks_135 (by decide) (fun c => absurd c (by decide)) (fun _ => ?_)
                refine lv_iload hx hb dL_unlocks_138 (lv_at hl 3 rfl) ?_
                refine lv_iconst (v := (-1)) hx hb dL_unlocks_140 (by decide) ?_
                refine lv_icmp_ne (tgt := 149) hx hb dL_unlocks_141 (by decide) (fun c => absurd c (by decide)) (fun _ => ?_)
                refine lv_iload hx hb dL_unlocks_144 (lv_at hl 1 rfl) ?_
                refine lv_goto (tgt := 151) hx hb dL_unlocks_146 (by decide) ?_
                refine lv_istore (lv' := [(7, .int (nI u)), (8, .int (nI (ot + 1))), (10, .int (nI u)), (9, .int (nI k)), (6, .int (pl_last S)), (5, .int 0), (4, .int (nI t)), (3, .int (pl_own (S 0 a))), (0, .ref (ad 0)), (1, .int y), (2, .int (nI a))]) hx hb dL_unlocks_151 hl (by decide) rfl (fun ls hl => ?_)
                refine lv_iinc (v := (nI (k + 1))) (lv' := [(9, .int (nI (k + 1))), (7, .int (nI u)), (8, .int (nI (ot + 1))), (10, .int (nI u)), (6, .int (pl_last S)), (5, .int 0), (4, .int (nI t)), (3, .int (pl_own (S 0 a))), (0, .ref (ad 0)), (1, .int y), (2, .int (nI a))]) hx hb dL_unlocks_153 hl (k := 3) rfl (nI_1 k) (by decide) rfl (fun ls hl => ?_)
                refine lv_goto (tgt := 89) hx hb dL_unlocks_156 (by decide) ?_
                exact ih1 (k + 1) (ot + 1) (some u) (by omega) ((kq_lkS hgu hdu h1 h2).1 hlk).1 ((kq_lkS hgu hdu h1 h2).1 hlk).2 (by intro w hw; cases hw; omega) _ _ _ hP hD hS (lv_sub hl [0, 2, 1, 4, 5, 6, 7, 8, 9, 10] rfl)
              · have hv8 : v < 2 ^ 31 := hnv v rfl
                have hl : lv_has ls 14 [(10, .int (nI u)), (9, .int (nI k)), (8, .int (nI ot)), (7, .int (nI v)), (6, .int (pl_last S)), (5, .int 0), (4, .int (nI t)), (3, .int (pl_own (S 0 a))), (0, .ref (ad 0)), (1, .int y), (2, .int (nI a))] := hl
                refine lv_iload hx hb dL_unlocks_108 (lv_at hl 2 rfl) ?_
                refine lv_aload_n hx hb dL_unlocks_110 rfl (lv_at hl 8 rfl) ?_
                refine lv_iload hx hb dL_unlocks_111 (lv_at hl 0 rfl) ?_
                refine fk_callV (As := [.int (nI u)]) (rest := [.int (nI ot)]) ⟨hx, hb, hml, hown, hts⟩ (kc_stateOf l D ad cI cT cJ _ S u hu9) (cwV 1 hts gL_unlocks_X2_stateOf rfl rfl rfl (by decide +kernel) ⟨Nat.le_of_ble_eq_true rfl, Nat.le_of_ble_eq_true rfl⟩) (fk_rvK hK hP) hK hP hD hS hA rfl hl.1 rfl (Nat.le_of_ble_eq_true rfl) dL_unlocks_113 ⟨Nat.le_of_ble_eq_true rfl, Nat.le_of_ble_eq_true rfl⟩ (fun H locs hP hD hS => ?_)
                refine W.eq (g2 := F0 m 116 ls [.int (S 1 u), .int (nI ot)]) rfl ?_
                refine W.eq (g2 := F0 m 116 ls [.int 2, .int (nI ot)]) (by rw [show (S 1 u) = (2 : Int32) from hlk]) ?_
                refine lv_iconst (v := 2) hx hb dL_unlocks_116 (by decide) ?_
                refine lv_icmp_ne (tgt := 124) hx hb dL_unlocks_117 (by decide) (fun c => absurd c (by decide)) (fun _ => ?_)
                refine lv_iconst (v := 1) hx hb dL_unlocks_120 (by decide) ?_
                refine lv_goto (tgt := 125) hx hb dL_unlocks_121 (by decide) ?_
                refine lv_iadd hx hb dL_unlocks_125 ?_
                refine W.eq (g2 := F0 m 126 ls [.int (nI (ot + 1))]) (by rw [nI_1]) ?_
                refine lv_istore (lv' := [(8, .int (nI (ot + 1))), (10, .int (nI u)), (9, .int (nI k)), (7, .int (nI v)), (6, .int (pl_last S)), (5, .int 0), (4, .int (nI t)), (3, .int (pl_own (S 0 a))), (0, .ref (ad 0)), (1, .int y), (2, .int (nI a))]) hx hb dL_unlocks_126 hl (by decide) rfl (fun ls hl => ?_)
                refine lv_aload_n hx hb dL_unlocks_128 rfl (lv_at hl 8 rfl) ?_
                refine lv_iload hx hb dL_unlocks_129 (lv_at hl 1 rfl) ?_
                refine fk_callV (As := [.int (nI u)]) (rest := []) ⟨hx, hb, hml, hown, hts⟩ (kc_stateOf l D ad cI cT cJ _ S u hu9) (cwV 1 hts gL_unlocks_X2_stateOf rfl rfl rfl (by decide +kernel) ⟨Nat.le_of_ble_eq_true rfl, Nat.le_of_ble_eq_true rfl⟩) (fk_rvK hK hP) hK hP hD hS hA rfl hl.1 rfl (Nat.le_of_ble_eq_true rfl) dL_unlocks_131 ⟨Nat.le_of_ble_eq_true rfl, Nat.le_of_ble_eq_true rfl⟩ (fun H locs hP hD hS => ?_)
                refine W.eq (g2 := F0 m 134 ls [.int (S 1 u)]) rfl ?_
                refine W.eq (g2 := F0 m 134 ls [.int 2]) (by rw [show (S 1 u) = (2 : Int32) from hlk]) ?_
                refine lv_iconst (v := 2) hx hb dL_unlocks_134 (by decide) ?_
                refine lv_icmp_ne (tgt := 149) hx hb dL_unlocks_135 (by decide) (fun c => absurd c (by decide)) (fun _ => ?_)
                refine lv_iload hx hb dL_unlocks_138 (lv_at hl 3 rfl) ?_
                refine lv_iconst (v := (-1)) hx hb dL_unlocks_140 (by decide) ?_
                refine lv_icmp_ne (tgt := 149) hx hb dL_unlocks_141 (by decide) (fun _ => ?_) (fun c => absurd c (fk_nI_m1 (by omega)))
                refine lv_iload hx hb dL_unlocks_149 (lv_at hl 3 rfl) ?_
                refine lv_istore (lv' := [(7, .int (nI v)), (8, .int (nI (ot + 1))), (10, .int (nI u)), (9, .int (nI k)), (6, .int (pl_last S)), (5, .int 0), (4, .int (nI t)), (3, .int (pl_own (S 0 a))), (0, .ref (ad 0)), (1, .int y), (2, .int (nI a))]) hx hb dL_unlocks_151 hl (by decide) rfl (fun ls hl => ?_)
                refine lv_iinc (v := (nI (k + 1))) (lv' := [(9, .int (nI (k + 1))), (7, .int (nI v)), (8, .int (nI (ot + 1))), (10, .int (nI u)), (6, .int (pl_last S)), (5, .int 0), (4, .int (nI t)), (3, .int (pl_own (S 0 a))), (0, .ref (ad 0)), (1, .int y), (2, .int (nI a))]) hx hb dL_unlocks_153 hl (k := 3) rfl (nI_1 k) (by decide) rfl (fun ls hl => ?_)
                refine lv_goto (tgt := 89) hx hb dL_unlocks_156 (by decide) ?_
                exact ih1 (k + 1) (ot + 1) (some v) (by omega) ((kq_lkS hgu hdu h1 h2).1 hlk).1 ((kq_lkS hgu hdu h1 h2).1 hlk).2 (by intro w hw; cases hw; omega) _ _ _ hP hD hS (lv_sub hl [0, 2, 1, 4, 5, 6, 7, 8, 9, 10] rfl)
            · refine lv_iload hx hb dL_unlocks_108 (lv_at hl 2 rfl) ?_
              refine lv_aload_n hx hb dL_unlocks_110 rfl (lv_at hl 8 rfl) ?_
              refine lv_iload hx hb dL_unlocks_111 (lv_at hl 0 rfl) ?_
              refine fk_callV (As := [.int (nI u)]) (rest := [.int (nI ot)]) ⟨hx, hb, hml, hown, hts⟩ (kc_stateOf l D ad cI cT cJ _ S u hu9) (cwV 1 hts gL_unlocks_X2_stateOf rfl rfl rfl (by decide +kernel) ⟨Nat.le_of_ble_eq_true rfl, Nat.le_of_ble_eq_true rfl⟩) (fk_rvK hK hP) hK hP hD hS hA rfl hl.1 rfl (Nat.le_of_ble_eq_true rfl) dL_unlocks_113 ⟨Nat.le_of_ble_eq_true rfl, Nat.le_of_ble_eq_true rfl⟩ (fun H locs hP hD hS => ?_)
              refine W.eq (g2 := F0 m 116 ls [.int (S 1 u), .int (nI ot)]) rfl ?_
              refine lv_iconst (v := 2) hx hb dL_unlocks_116 (by decide) ?_
              refine lv_icmp_ne (tgt := 124) hx hb dL_unlocks_117 (by decide) (fun c_43 => ?_) (fun c9 => absurd c9 hlk)
              refine lv_iconst (v := 0) hx hb dL_unlocks_124 (by decide) ?_
              refine lv_iadd hx hb dL_unlocks_125 ?_
              refine W.eq (g2 := F0 m 126 ls [.int (nI ot)]) (by rw [show (0 : Int32) = nI 0 from rfl, nI_add]; rfl) ?_
              refine lv_istore (lv' := [(8, .int (nI ot)), (10, .int (nI u)), (9, .int (nI k)), (7, .int (fk_oI nx)), (6, .int (pl_last S)), (5, .int 0), (4, .int (nI t)), (3, .int (pl_own (S 0 a))), (0, .ref (ad 0)), (1, .int y), (2, .int (nI a))]) hx hb dL_unlocks_126 hl (by decide) rfl (fun ls hl => ?_)
              refine lv_aload_n hx hb dL_unlocks_128 rfl (lv_at hl 8 rfl) ?_
              refine lv_iload hx hb dL_unlocks_129 (lv_at hl 1 rfl) ?_
              refine fk_callV (As := [.int (nI u)]) (rest := []) ⟨hx, hb, hml, hown, hts⟩ (kc_stateOf l D ad cI cT cJ _ S u hu9) (cwV 1 hts gL_unlocks_X2_stateOf rfl rfl rfl (by decide +kernel) ⟨Nat.le_of_ble_eq_true rfl, Nat.le_of_ble_eq_true rfl⟩) (fk_rvK hK hP) hK hP hD hS hA rfl hl.1 rfl (Nat.le_of_ble_eq_true rfl) dL_unlocks_131 ⟨Nat.le_of_ble_eq_true rfl, Nat.le_of_ble_eq_true rfl⟩ (fun H locs hP hD hS => ?_)
              refine W.eq (g2 := F0 m 134 ls [.int (S 1 u)]) rfl ?_
              refine lv_iconst (v := 2) hx hb dL_unlocks_134 (by decide) ?_
              refine lv_icmp_ne (tgt := 149) hx hb dL_unlocks_135 (by decide) (fun c_44 => ?_) (fun c9 => absurd c9 hlk)
              refine lv_iload hx hb dL_unlocks_149 (lv_at hl 3 rfl) ?_
              refine lv_istore (lv' := [(7, .int (fk_oI nx)), (8, .int (nI ot)), (10, .int (nI u)), (9, .int (nI k)), (6, .int (pl_last S)), (5, .int 0), (4, .int (nI t)), (3, .int (pl_own (S 0 a))), (0, .ref (ad 0)), (1, .int y), (2, .int (nI a))]) hx hb dL_unlocks_151 hl (by decide) rfl (fun ls hl => ?_)
              refine lv_iinc (v := (nI (k + 1))) (lv' := [(9, .int (nI (k + 1))), (7, .int (fk_oI nx)), (8, .int (nI ot)), (10, .int (nI u)), (6, .int (pl_last S)), (5, .int 0), (4, .int (nI t)), (3, .int (pl_own (S 0 a))), (0, .ref (ad 0)), (1, .int y), (2, .int (nI a))]) hx hb dL_unlocks_153 hl (k := 3) rfl (nI_1 k) (by decide) rfl (fun ls hl => ?_)
              refine lv_goto (tgt := 89) hx hb dL_unlocks_156 (by decide) ?_
              exact ih1 (k + 1) ot nx (by omega) ((kq_lkS hgu hdu h1 h2).2 hlk).1 ((kq_lkS hgu hdu h1 h2).2 hlk).2 hnx9 _ _ _ hP hD hS (lv_sub hl [0, 2, 1, 4, 5, 6, 7, 8, 9, 10] rfl)
        exact loop1 (kq_A S a).length 0 0 none (by omega) (by rw [Nat.zero_add]; rfl) rfl (by intro w hw; cases hw) _ _ _ hP hD hS (lv_sub hl [0, 1, 2, 3, 4, 5, 6, 8, 9, 7] rfl)
    · refine lv_aload_n hx hb dL_unlocks_52 rfl (lv_at hl 3 rfl) ?_
      refine lv_iload hx hb dL_unlocks_53 (lv_at hl 0 rfl) ?_
      refine fk_callV (As := [.int (nI t)]) (rest := []) ⟨hx, hb, hml, hown, hts⟩ (kc_stateOf l D ad cI cT cJ _ S t ht) (cwV 1 hts gL_unlocks_X2_stateOf rfl rfl rfl (by decide +kernel) ⟨Nat.le_of_ble_eq_true rfl, Nat.le_of_ble_eq_true rfl⟩) (fk_rvK hK hP) hK hP hD hS hA rfl hl.1 rfl (Nat.le_of_ble_eq_true rfl) dL_unlocks_55 ⟨Nat.le_of_ble_eq_true rfl, Nat.le_of_ble_eq_true rfl⟩ (fun H locs hP hD hS => ?_)
      refine W.eq (g2 := F0 m 58 ls [.int (S 1 t)]) rfl ?_
      refine lv_if_ne (tgt := 71) hx hb dL_unlocks_58 (by decide) (fun c_45 => ?_) (fun c9 => absurd c9 hs0)
      refine lv_iconst (v := 0) hx hb dL_unlocks_71 (by decide) ?_
      refine lv_istore (lv' := [(5, .int 0), (4, .int (nI t)), (3, .int (pl_own (S 0 a))), (2, .int (nI a)), (0, .ref (ad 0)), (1, .int y)]) hx hb dL_unlocks_72 hl (by decide) rfl (fun ls hl => ?_)
      refine lv_aload_n hx hb dL_unlocks_74 rfl (lv_at hl 4 rfl) ?_
      refine fk_callS (As := [.ref (ad 0)]) (rest := []) ⟨hx, hb, hml, hown, hts⟩ (kl_last l D ad cI cT cJ _ S) (va_cwS 1 hts gL_unlocks_L_last rfl rfl rfl (by decide +kernel) ⟨Nat.le_of_ble_eq_true rfl, Nat.le_of_ble_eq_true rfl⟩) hK hP hD hS hA rfl hl.1 rfl (Nat.le_of_ble_eq_true rfl) dL_unlocks_75 ⟨Nat.le_of_ble_eq_true rfl, Nat.le_of_ble_eq_true rfl⟩ (fun H locs hP hD hS => ?_)
      refine W.eq (g2 := F0 m 78 ls [.int (pl_last S)]) rfl ?_
      refine lv_istore (lv' := [(6, .int (pl_last S)), (5, .int 0), (4, .int (nI t)), (3, .int (pl_own (S 0 a))), (2, .int (nI a)), (0, .ref (ad 0)), (1, .int y)]) hx hb dL_unlocks_78 hl (by decide) rfl (fun ls hl => ?_)
      refine lv_iconst (v := (-1)) hx hb dL_unlocks_80 (by decide) ?_
      refine lv_istore (lv' := [(7, .int (-1)), (6, .int (pl_last S)), (5, .int 0), (4, .int (nI t)), (3, .int (pl_own (S 0 a))), (2, .int (nI a)), (0, .ref (ad 0)), (1, .int y)]) hx hb dL_unlocks_81 hl (by decide) rfl (fun ls hl => ?_)
      refine lv_iconst (v := 0) hx hb dL_unlocks_83 (by decide) ?_
      refine lv_istore (lv' := [(8, .int 0), (7, .int (-1)), (6, .int (pl_last S)), (5, .int 0), (4, .int (nI t)), (3, .int (pl_own (S 0 a))), (2, .int (nI a)), (0, .ref (ad 0)), (1, .int y)]) hx hb dL_unlocks_84 hl (by decide) rfl (fun ls hl => ?_)
      refine lv_iconst (v := 0) hx hb dL_unlocks_86 (by decide) ?_
      refine lv_istore (lv' := [(9, .int 0), (8, .int 0), (7, .int (-1)), (6, .int (pl_last S)), (5, .int 0), (4, .int (nI t)), (3, .int (pl_own (S 0 a))), (2, .int (nI a)), (0, .ref (ad 0)), (1, .int y)]) hx hb dL_unlocks_87 hl (by decide) rfl (fun ls hl => ?_)
      have loop1 : ∀ (n1 : Nat) (k ot : Nat) (nx : Option Nat), k + n1 = (kq_A S a).length → ot + (((kq_A S a).drop k).filter (fun t => decide (S 1 t = 2))).length = (kq_lk S a).length → nx.or (((kq_A S a).drop k).filter (fun t => decide (S 1 t = 2))).head? = (kq_lk S a).head? → (∀ v, nx = some v → v < 2 ^ 31) → ∀ (H : Heap) (locs : List Loc) (ls : Array Slot), va_P D vwCl (fk_kW ad cI cT S ++ (q, fk_pr cI P) :: X) H → va_D A (fk_kW ad cI cT S ++ (q, fk_pr cI P) :: X) → va_S A s.heap H locs → lv_has ls 14 [(9, .int (nI k)), (8, .int (nI ot)), (7, .int (fk_oI nx)), (6, .int (pl_last S)), (5, .int 0), (4, .int (nI t)), (3, .int (pl_own (S 0 a))), (0, .ref (ad 0)), (1, .int y), (2, .int (nI a))] → W p l e rm_E s m ([.ref (ad 0), .int y] : List Value).toArray below meth c H locs 0 0 (MQ below (fk_QE D (fk_ty cI cT cJ) A (kq_Phi ad cI cT q X (n + 20))) ([.ref (ad 0), .int y] : List Value).toArray s 2 12 A) (F0 m 89 ls []) := by
        intro n1
        induction n1 with
        | zero =>
          intro k ot nx hk h1 h2 hnx9 H locs ls hP hD hS hl
          have h8 := kq_A8 S a
          rw [(kq_stop hk).2] at h1 h2
          have hot : ot = (kq_lk S a).length := by simpa using h1
          have hnx : nx = (kq_lk S a).head? := by rw [← h2]; cases nx <;> rfl
          have hl : lv_has ls 14 [(9, .int (nI k)), (8, .int (nI ((kq_lk S a).length))), (7, .int (fk_oI (kq_lk S a).head?)), (6, .int (pl_last S)), (5, .int 0), (4, .int (nI t)), (3, .int (pl_own (S 0 a))), (0, .ref (ad 0)), (1, .int y), (2, .int (nI a))] := by rw [hot, hnx] at hl; exact hl
          refine lv_iload hx hb dL_unlocks_89 (lv_at hl 0 rfl) ?_
          refine lv_aload_n hx hb dL_unlocks_91 rfl (lv_at hl 7 rfl) ?_
          refine lv_iload_n hx hb dL_unlocks_92 rfl (lv_at hl 9 rfl) ?_
          refine fk_callV (As := [.int (nI a)]) (rest := [.int (nI k)]) ⟨hx, hb, hml, hown, hts⟩ (kc_waiters l D ad cI cT cJ _ S a ha) (cwV 1 hts gL_unlocks_X2_waiters rfl rfl rfl (by decide +kernel) ⟨Nat.le_of_ble_eq_true rfl, Nat.le_of_ble_eq_true rfl⟩) (fk_rvK hK hP) hK hP hD hS hA rfl hl.1 rfl (Nat.le_of_ble_eq_true rfl) dL_unlocks_93 ⟨Nat.le_of_ble_eq_true rfl, Nat.le_of_ble_eq_true rfl⟩ (fun H locs hP hD hS => ?_)
          refine W.eq (g2 := F0 m 96 ls [.int (kk_waiters S (nI a)), .int (nI k)]) rfl ?_
          refine W.eq (g2 := F0 m 96 ls [.int (nI ((kq_A S a).length)), .int (nI k)]) (by rw [show (kk_waiters S (nI a)) = (nI ((kq_A S a).length)) from (kq_waiters _ _)]) ?_
          refine lv_icmp_ge (tgt := 159) hx hb dL_unlocks_96 (by decide) (fun c_46 => ?_) (fun c_46 => absurd (nI_le (a := (kq_A S a).length) (b := k) (by omega) (by omega)) c_46)
          refine lv_aload_n hx hb dL_unlocks_159 rfl (lv_at hl 7 rfl) ?_
          refine lv_iconst (v := (-1)) hx hb dL_unlocks_160 (by decide) ?_
          refine fk_callS (As := [.ref (ad 0), .int (-1)]) (rest := []) ⟨hx, hb, hml, hown, hts⟩ (kl_threads l D ad cI cT cJ _ S hG.1.sz hG.1.J (-1)) (va_cwS 2 hts gL_unlocks_L_threads rfl rfl rfl (by decide +kernel) ⟨Nat.le_of_ble_eq_true rfl, Nat.le_of_ble_eq_true rfl⟩) hK hP hD hS hA rfl hl.1 rfl (Nat.le_of_ble_eq_true rfl) dL_unlocks_161 ⟨Nat.le_of_ble_eq_true rfl, Nat.le_of_ble_eq_true rfl⟩ (fun H locs hP hD hS => ?_)
          refine W.eq (g2 := F0 m 164 ls [.long (pl_thr S (-1))]) rfl ?_
          refine lv_lstore (lv' := [(9, .long (pl_thr S (-1))), (8, .int (nI ((kq_lk S a).length))), (7, .int (fk_oI (kq_lk S a).head?)), (6, .int (pl_last S)), (5, .int 0), (4, .int (nI t)), (3, .int (pl_own (S 0 a))), (0, .ref (ad 0)), (1, .int y), (2, .int (nI a))]) hx hb dL_unlocks_164 hl (by decide) rfl (fun ls hl => ?_)
          refine lv_aload_n hx hb dL_unlocks_166 rfl (lv_at hl 7 rfl) ?_
          refine lv_iconst (v := 1) hx hb dL_unlocks_167 (by decide) ?_
          refine lv_iload hx hb dL_unlocks_168 (lv_at hl 5 rfl) ?_
          refine lv_iload_n hx hb dL_unlocks_170 rfl (lv_at hl 9 rfl) ?_
          refine lv_iconst (v := 0) hx hb dL_unlocks_171 (by decide) ?_
          refine lv_iconst (v := 0) hx hb dL_unlocks_172 (by decide) ?_
          refine fk_lcallS (As := [.ref (ad 0), .int 1, .int (nI t), .int (nI a), .int 0, .int 0]) (rest := []) ⟨hx, hb, hml, hown, hts⟩ (Lx_unlock_IS l D ad cI cT cJ _ S _ _ _ _ (fun X => kx_unlock_3 l D ad cI cT cJ X S hst t ht a ha hs0)) (vx_cwSW 6 hts gL_unlocks_L_acts rfl rfl rfl (by decide +kernel) ⟨Nat.le_of_ble_eq_true rfl, Nat.le_of_ble_eq_true rfl⟩) hK hP hD hS hA hZ hN rfl hl.1 rfl (Nat.le_of_ble_eq_true rfl) dL_unlocks_173 ⟨Nat.le_of_ble_eq_true rfl, Nat.le_of_ble_eq_true rfl⟩ (fun H locs hP hD hS => ?_)
          refine W.eq (g2 := F0 m 176 ls [.int (-2147483203)]) rfl ?_
          refine lv_istore (lv' := [(11, .int (-2147483203)), (9, .long (pl_thr S (-1))), (8, .int (nI ((kq_lk S a).length))), (7, .int (fk_oI (kq_lk S a).head?)), (6, .int (pl_last S)), (5, .int 0), (4, .int (nI t)), (3, .int (pl_own (S 0 a))), (0, .ref (ad 0)), (1, .int y), (2, .int (nI a))]) hx hb dL_unlocks_176 hl (by decide) rfl (fun ls hl => ?_)
          refine lv_iload hx hb dL_unlocks_178 (lv_at hl 5 rfl) ?_
          refine lv_if_ne (tgt := 207) hx hb dL_unlocks_180 (by decide) (fun c => absurd c (by decide)) (fun _ => ?_)
          refine lv_iload hx hb dL_unlocks_183 (lv_at hl 0 rfl) ?_
          refine lv_ldc (own := RL) (v := (-2147483203)) hx hb hown (hts (.constant RL 23 (-2147483203)) (List.mem_of_getElem? (i := 1) rfl)) dL_unlocks_185 ?_
          refine lv_icmp_ne (tgt := 205) hx hb dL_unlocks_187 (by decide) (fun c => absurd c (by decide)) (fun _ => ?_)
          refine lv_aload_n hx hb dL_unlocks_190 rfl (lv_at hl 8 rfl) ?_
          refine lv_iconst (v := (-1)) hx hb dL_unlocks_191 (by decide) ?_
          refine fk_callS (As := [.ref (ad 0), .int (-1)]) (rest := []) ⟨hx, hb, hml, hown, hts⟩ (kl_threads l D ad cI cT cJ _ S hG.1.sz hG.1.J (-1)) (va_cwS 2 hts gL_unlocks_L_threads rfl rfl rfl (by decide +kernel) ⟨Nat.le_of_ble_eq_true rfl, Nat.le_of_ble_eq_true rfl⟩) hK hP hD hS hA rfl hl.1 rfl (Nat.le_of_ble_eq_true rfl) dL_unlocks_192 ⟨Nat.le_of_ble_eq_true rfl, Nat.le_of_ble_eq_true rfl⟩ (fun H locs hP hD hS => ?_)
          refine W.eq (g2 := F0 m 195 ls [.long (pl_thr S (-1))]) rfl ?_
          refine lv_lload hx hb dL_unlocks_195 (lv_at hl 1 rfl) ?_
          refine W.lcmp hx hb dL_unlocks_197 ?_
          refine W.eq (g2 := F0 m 198 ls [.int 0]) (by rw [fk_cmp_self]) ?_
          refine lv_if_ne (tgt := 205) hx hb dL_unlocks_198 (by decide) (fun c => absurd c (by decide)) (fun _ => ?_)
          refine lv_iconst (v := 1) hx hb dL_unlocks_201 (by decide) ?_
          refine lv_goto (tgt := 206) hx hb dL_unlocks_202 (by decide) ?_
          exact fk_zretE (Nat.le_of_ble_eq_true rfl) (Nat.le_of_ble_eq_true rfl) hx hb hr hlocks hP hK hD hS rfl ⟨rfl, _, _, rfl, (hG).wk (by omega)⟩ dL_unlocks_206
        | succ n1 ih1 =>
          intro k ot nx hk h1 h2 hnx9 H locs ls hP hD hS hl
          have h8 := kq_A8 S a
          obtain ⟨u, hgu, hdu⟩ := kq_step hk
          have hu9 := kq_A_lt hgu
          refine lv_iload hx hb dL_unlocks_89 (lv_at hl 0 rfl) ?_
          refine lv_aload_n hx hb dL_unlocks_91 rfl (lv_at hl 7 rfl) ?_
          refine lv_iload_n hx hb dL_unlocks_92 rfl (lv_at hl 9 rfl) ?_
          refine fk_callV (As := [.int (nI a)]) (rest := [.int (nI k)]) ⟨hx, hb, hml, hown, hts⟩ (kc_waiters l D ad cI cT cJ _ S a ha) (cwV 1 hts gL_unlocks_X2_waiters rfl rfl rfl (by decide +kernel) ⟨Nat.le_of_ble_eq_true rfl, Nat.le_of_ble_eq_true rfl⟩) (fk_rvK hK hP) hK hP hD hS hA rfl hl.1 rfl (Nat.le_of_ble_eq_true rfl) dL_unlocks_93 ⟨Nat.le_of_ble_eq_true rfl, Nat.le_of_ble_eq_true rfl⟩ (fun H locs hP hD hS => ?_)
          refine W.eq (g2 := F0 m 96 ls [.int (kk_waiters S (nI a)), .int (nI k)]) rfl ?_
          refine W.eq (g2 := F0 m 96 ls [.int (nI ((kq_A S a).length)), .int (nI k)]) (by rw [show (kk_waiters S (nI a)) = (nI ((kq_A S a).length)) from (kq_waiters _ _)]) ?_
          refine lv_icmp_ge (tgt := 159) hx hb dL_unlocks_96 (by decide) (fun c_50 => absurd c_50 (nI_ge (a := k) (b := (kq_A S a).length) (by omega) (by omega))) (fun c_50 => ?_)
          refine lv_aload_n hx hb dL_unlocks_99 rfl (lv_at hl 7 rfl) ?_
          refine lv_iload_n hx hb dL_unlocks_100 rfl (lv_at hl 9 rfl) ?_
          refine lv_iload hx hb dL_unlocks_101 (lv_at hl 0 rfl) ?_
          refine fk_callV (As := [.int (nI a), .int (nI k)]) (rest := []) ⟨hx, hb, hml, hown, hts⟩ (kc_waiterAt l D ad cI cT cJ _ S a ha (nI k) u (by rw [kq_wAt hG.1.J (by omega) (by omega)]; exact hgu)) (cwV 2 hts gL_unlocks_X2_waiterAt rfl rfl rfl (by decide +kernel) ⟨Nat.le_of_ble_eq_true rfl, Nat.le_of_ble_eq_true rfl⟩) (fk_rvK hK hP) hK hP hD hS hA rfl hl.1 rfl (Nat.le_of_ble_eq_true rfl) dL_unlocks_103 ⟨Nat.le_of_ble_eq_true rfl, Nat.le_of_ble_eq_true rfl⟩ (fun H locs hP hD hS => ?_)
          refine W.eq (g2 := F0 m 106 ls [.int (nI u)]) rfl ?_
          refine lv_istore (lv' := [(10, .int (nI u)), (9, .int (nI k)), (8, .int (nI ot)), (7, .int (fk_oI nx)), (6, .int (pl_last S)), (5, .int 0), (4, .int (nI t)), (3, .int (pl_own (S 0 a))), (0, .ref (ad 0)), (1, .int y), (2, .int (nI a))]) hx hb dL_unlocks_106 hl (by decide) rfl (fun ls hl => ?_)
          by_cases hlk : S 1 u = 2
          · have hnv : ∀ v, nx = some v → v < 2 ^ 31 := hnx9
            rcases nx with _ | v
            · have hl : lv_has ls 14 [(10, .int (nI u)), (9, .int (nI k)), (8, .int (nI ot)), (7, .int (-1)), (6, .int (pl_last S)), (5, .int 0), (4, .int (nI t)), (3, .int (pl_own (S 0 a))), (0, .ref (ad 0)), (1, .int y), (2, .int (nI a))] := hl
              refine lv_iload hx hb dL_unlocks_108 (lv_at hl 2 rfl) ?_
              refine lv_aload_n hx hb dL_unlocks_110 rfl (lv_at hl 8 rfl) ?_
              refine lv_iload hx hb dL_unlocks_111 (lv_at hl 0 rfl) ?_
              refine fk_callV (As := [.int (nI u)]) (rest := [.int (nI ot)]) ⟨hx, hb, hml, hown, hts⟩ (kc_stateOf l D ad cI cT cJ _ S u hu9) (cwV 1 hts gL_unlocks_X2_stateOf rfl rfl rfl (by decide +kernel) ⟨Nat.le_of_ble_eq_true rfl, Nat.le_of_ble_eq_true rfl⟩) (fk_rvK hK hP) hK hP hD hS hA rfl hl.1 rfl (Nat.le_of_ble_eq_true rfl) dL_unlocks_113 ⟨Nat.le_of_ble_eq_true rfl, Nat.le_of_ble_eq_true rfl⟩ (fun H locs hP hD hS => ?_)
              refine W.eq (g2 := F0 m 116 ls [.int (S 1 u), .int (nI ot)]) rfl ?_
              refine W.eq (g2 := F0 m 116 ls [.int 2, .int (nI ot)]) (by rw [show (S 1 u) = (2 : Int32) from hlk]) ?_
              refine lv_iconst (v := 2) hx hb dL_unlocks_116 (by decide) ?_
              refine lv_icmp_ne (tgt := 124) hx hb dL_unlocks_117 (by decide) (fun c => absurd c (by decide)) (fun _ => ?_)
              refine lv_iconst (v := 1) hx hb dL_unlocks_120 (by decide) ?_
              refine lv_goto (tgt := 125) hx hb dL_unlocks_121 (by decide) ?_
              refine lv_iadd hx hb dL_unlocks_125 ?_
              refine W.eq (g2 := F0 m 126 ls [.int (nI (ot + 1))]) (by rw [nI_1]) ?_
              refine lv_istore (lv' := [(8, .int (nI (ot + 1))), (10, .int (nI u)), (9, .int (nI k)), (7, .int (-1)), (6, .int (pl_last S)), (5, .int 0), (4, .int (nI t)), (3, .int (pl_own (S 0 a))), (0, .ref (ad 0)), (1, .int y), (2, .int (nI a))]) hx hb dL_unlocks_126 hl (by decide) rfl (fun ls hl => ?_)
              refine lv_aload_n hx hb dL_unlocks_128 rfl (lv_at hl 8 rfl) ?_
              refine lv_iload hx hb dL_unlocks_129 (lv_at hl 1 rfl) ?_
              refine fk_callV (As := [.int (nI u)]) (rest := []) ⟨hx, hb, hml, hown, hts⟩ (kc_stateOf l D ad cI cT cJ _ S u hu9) (cwV 1 hts gL_unlocks_X2_stateOf rfl rfl rfl (by decide +kernel) ⟨Nat.le_of_ble_eq_true rfl, Nat.le_of_ble_eq_true rfl⟩) (fk_rvK hK hP) hK hP hD hS hA rfl hl.1 rfl (Nat.le_of_ble_eq_true rfl) dL_unlocks_131 ⟨Nat.le_of_ble_eq_true rfl, Nat.le_of_ble_eq_true rfl⟩ (fun H locs hP hD hS => ?_)
              refine W.eq (g2 := F0 m 134 ls [.int (S 1 u)]) rfl ?_
              refine W.eq (g2 := F0 m 134 ls [.int 2]) (by rw [show (S 1 u) = (2 : Int32) from hlk]) ?_
              refine lv_iconst (v := 2) hx hb dL_unlocks_134 (by decide) ?_
              refine lv_icmp_ne (tgt := 149) hx hb dL_unlocks_135 (by decide) (fun c => absurd c (by decide)) (fun _ => ?_)
              refine lv_iload hx hb dL_unlocks_138 (lv_at hl 3 rfl) ?_
              refine lv_iconst (v := (-1)) hx hb dL_unlocks_140 (by decide) ?_
              refine lv_icmp_ne (tgt := 149) hx hb dL_unlocks_141 (by decide) (fun c => absurd c (by decide)) (fun _ => ?_)
              refine lv_iload hx hb dL_unlocks_144 (lv_at hl 1 rfl) ?_
              refine lv_goto (tgt := 151) hx hb dL_unlocks_146 (by decide) ?_
              refine lv_istore (lv' := [(7, .int (nI u)), (8, .int (nI (ot + 1))), (10, .int (nI u)), (9, .int (nI k)), (6, .int (pl_last S)), (5, .int 0), (4, .int (nI t)), (3, .int (pl_own (S 0 a))), (0, .ref (ad 0)), (1, .int y), (2, .int (nI a))]) hx hb dL_unlocks_151 hl (by decide) rfl (fun ls hl => ?_)
              refine lv_iinc (v := (nI (k + 1))) (lv' := [(9, .int (nI (k + 1))), (7, .int (nI u)), (8, .int (nI (ot + 1))), (10, .int (nI u)), (6, .int (pl_last S)), (5, .int 0), (4, .int (nI t)), (3, .int (pl_own (S 0 a))), (0, .ref (ad 0)), (1, .int y), (2, .int (nI a))]) hx hb dL_unlocks_153 hl (k := 3) rfl (nI_1 k) (by decide) rfl (fun ls hl => ?_)
              refine lv_goto (tgt := 89) hx hb dL_unlocks_156 (by decide) ?_
              exact ih1 (k + 1) (ot + 1) (some u) (by omega) ((kq_lkS hgu hdu h1 h2).1 hlk).1 ((kq_lkS hgu hdu h1 h2).1 hlk).2 (by intro w hw; cases hw; omega) _ _ _ hP hD hS (lv_sub hl [0, 2, 1, 4, 5, 6, 7, 8, 9, 10] rfl)
            · have hv8 : v < 2 ^ 31 := hnv v rfl
              have hl : lv_has ls 14 [(10, .int (nI u)), (9, .int (nI k)), (8, .int (nI ot)), (7, .int (nI v)), (6, .int (pl_last S)), (5, .int 0), (4, .int (nI t)), (3, .int (pl_own (S 0 a))), (0, .ref (ad 0)), (1, .int y), (2, .int (nI a))] := hl
              refine lv_iload hx hb dL_unlocks_108 (lv_at hl 2 rfl) ?_
              refine lv_aload_n hx hb dL_unlocks_110 rfl (lv_at hl 8 rfl) ?_
              refine lv_iload hx hb dL_unlocks_111 (lv_at hl 0 rfl) ?_
              refine fk_callV (As := [.int (nI u)]) (rest := [.int (nI ot)]) ⟨hx, hb, hml, hown, hts⟩ (kc_stateOf l D ad cI cT cJ _ S u hu9) (cwV 1 hts gL_unlocks_X2_stateOf rfl rfl rfl (by decide +kernel) ⟨Nat.le_of_ble_eq_true rfl, Nat.le_of_ble_eq_true rfl⟩) (fk_rvK hK hP) hK hP hD hS hA rfl hl.1 rfl (Nat.le_of_ble_eq_true rfl) dL_unlocks_113 ⟨Nat.le_of_ble_eq_true rfl, Nat.le_of_ble_eq_true rfl⟩ (fun H locs hP hD hS => ?_)
              refine W.eq (g2 := F0 m 116 ls [.int (S 1 u), .int (nI ot)]) rfl ?_
              refine W.eq (g2 := F0 m 116 ls [.int 2, .int (nI ot)]) (by rw [show (S 1 u) = (2 : Int32) from hlk]) ?_
              refine lv_iconst (v := 2) hx hb dL_unlocks_116 (by decide) ?_
              refine lv_icmp_ne (tgt := 124) hx hb dL_unlocks_117 (by decide) (fun c => absurd c (by decide)) (fun _ => ?_)
              refine lv_iconst (v := 1) hx hb dL_unlocks_120 (by decide) ?_
              refine lv_goto (tgt := 125) hx hb dL_unlocks_121 (by decide) ?_
              refine lv_iadd hx hb dL_unlocks_125 ?_
              refine W.eq (g2 := F0 m 126 ls [.int (nI (ot + 1))]) (by rw [nI_1]) ?_
              refine lv_istore (lv' := [(8, .int (nI (ot + 1))), (10, .int (nI u)), (9, .int (nI k)), (7, .int (nI v)), (6, .int (pl_last S)), (5, .int 0), (4, .int (nI t)), (3, .int (pl_own (S 0 a))), (0, .ref (ad 0)), (1, .int y), (2, .int (nI a))]) hx hb dL_unlocks_126 hl (by decide) rfl (fun ls hl => ?_)
              refine lv_aload_n hx hb dL_unlocks_128 rfl (lv_at hl 8 rfl) ?_
              refine lv_iload hx hb dL_unlocks_129 (lv_at hl 1 rfl) ?_
              refine fk_callV (As := [.int (nI u)]) (rest := []) ⟨hx, hb, hml, hown, hts⟩ (kc_stateOf l D ad cI cT cJ _ S u hu9) (cwV 1 hts gL_unlocks_X2_stateOf rfl rfl rfl (by decide +kernel) ⟨Nat.le_of_ble_eq_true rfl, Nat.le_of_ble_eq_true rfl⟩) (fk_rvK hK hP) hK hP hD hS hA rfl hl.1 rfl (Nat.le_of_ble_eq_true rfl) dL_unlocks_131 ⟨Nat.le_of_ble_eq_true rfl, Nat.le_of_ble_eq_true rfl⟩ (fun H locs hP hD hS => ?_)
              refine W.eq (g2 := F0 m 134 ls [.int (S 1 u)]) rfl ?_
              refine W.eq (g2 := F0 m 134 ls [.int 2]) (by rw [show (S 1 u) = (2 : Int32) from hlk]) ?_
              refine lv_iconst (v := 2) hx hb dL_unlocks_134 (by decide) ?_
              refine lv_icmp_ne (tgt := 149) hx hb dL_unlocks_135 (by decide) (fun c => absurd c (by decide)) (fun _ => ?_)
              refine lv_iload hx hb dL_unlocks_138 (lv_at hl 3 rfl) ?_
              refine lv_iconst (v := (-1)) hx hb dL_unlocks_140 (by decide) ?_
              refine lv_icmp_ne (tgt := 149) hx hb dL_unlocks_141 (by decide) (fun _ => ?_) (fun c => absurd c (fk_nI_m1 (by omega)))
              refine lv_iload hx hb dL_unlocks_149 (lv_at hl 3 rfl) ?_
              refine lv_istore (lv' := [(7, .int (nI v)), (8, .int (nI (ot + 1))), (10, .int (nI u)), (9, .int (nI k)), (6, .int (pl_last S)), (5, .int 0), (4, .int (nI t)), (3, .int (pl_own (S 0 a))), (0, .ref (ad 0)), (1, .int y), (2, .int (nI a))]) hx hb dL_unlocks_151 hl (by decide) rfl (fun ls hl => ?_)
              refine lv_iinc (v := (nI (k + 1))) (lv' := [(9, .int (nI (k + 1))), (7, .int (nI v)), (8, .int (nI (ot + 1))), (10, .int (nI u)), (6, .int (pl_last S)), (5, .int 0), (4, .int (nI t)), (3, .int (pl_own (S 0 a))), (0, .ref (ad 0)), (1, .int y), (2, .int (nI a))]) hx hb dL_unlocks_153 hl (k := 3) rfl (nI_1 k) (by decide) rfl (fun ls hl => ?_)
              refine lv_goto (tgt := 89) hx hb dL_unlocks_156 (by decide) ?_
              exact ih1 (k + 1) (ot + 1) (some v) (by omega) ((kq_lkS hgu hdu h1 h2).1 hlk).1 ((kq_lkS hgu hdu h1 h2).1 hlk).2 (by intro w hw; cases hw; omega) _ _ _ hP hD hS (lv_sub hl [0, 2, 1, 4, 5, 6, 7, 8, 9, 10] rfl)
          · refine lv_iload hx hb dL_unlocks_108 (lv_at hl 2 rfl) ?_
            refine lv_aload_n hx hb dL_unlocks_110 rfl (lv_at hl 8 rfl) ?_
            refine lv_iload hx hb dL_unlocks_111 (lv_at hl 0 rfl) ?_
            refine fk_callV (As := [.int (nI u)]) (rest := [.int (nI ot)]) ⟨hx, hb, hml, hown, hts⟩ (kc_stateOf l D ad cI cT cJ _ S u hu9) (cwV 1 hts gL_unlocks_X2_stateOf rfl rfl rfl (by decide +kernel) ⟨Nat.le_of_ble_eq_true rfl, Nat.le_of_ble_eq_true rfl⟩) (fk_rvK hK hP) hK hP hD hS hA rfl hl.1 rfl (Nat.le_of_ble_eq_true rfl) dL_unlocks_113 ⟨Nat.le_of_ble_eq_true rfl, Nat.le_of_ble_eq_true rfl⟩ (fun H locs hP hD hS => ?_)
            refine W.eq (g2 := F0 m 116 ls [.int (S 1 u), .int (nI ot)]) rfl ?_
            refine lv_iconst (v := 2) hx hb dL_unlocks_116 (by decide) ?_
            refine lv_icmp_ne (tgt := 124) hx hb dL_unlocks_117 (by decide) (fun c_56 => ?_) (fun c9 => absurd c9 hlk)
            refine lv_iconst (v := 0) hx hb dL_unlocks_124 (by decide) ?_
            refine lv_iadd hx hb dL_unlocks_125 ?_
            refine W.eq (g2 := F0 m 126 ls [.int (nI ot)]) (by rw [show (0 : Int32) = nI 0 from rfl, nI_add]; rfl) ?_
            refine lv_istore (lv' := [(8, .int (nI ot)), (10, .int (nI u)), (9, .int (nI k)), (7, .int (fk_oI nx)), (6, .int (pl_last S)), (5, .int 0), (4, .int (nI t)), (3, .int (pl_own (S 0 a))), (0, .ref (ad 0)), (1, .int y), (2, .int (nI a))]) hx hb dL_unlocks_126 hl (by decide) rfl (fun ls hl => ?_)
            refine lv_aload_n hx hb dL_unlocks_128 rfl (lv_at hl 8 rfl) ?_
            refine lv_iload hx hb dL_unlocks_129 (lv_at hl 1 rfl) ?_
            refine fk_callV (As := [.int (nI u)]) (rest := []) ⟨hx, hb, hml, hown, hts⟩ (kc_stateOf l D ad cI cT cJ _ S u hu9) (cwV 1 hts gL_unlocks_X2_stateOf rfl rfl rfl (by decide +kernel) ⟨Nat.le_of_ble_eq_true rfl, Nat.le_of_ble_eq_true rfl⟩) (fk_rvK hK hP) hK hP hD hS hA rfl hl.1 rfl (Nat.le_of_ble_eq_true rfl) dL_unlocks_131 ⟨Nat.le_of_ble_eq_true rfl, Nat.le_of_ble_eq_true rfl⟩ (fun H locs hP hD hS => ?_)
            refine W.eq (g2 := F0 m 134 ls [.int (S 1 u)]) rfl ?_
            refine lv_iconst (v := 2) hx hb dL_unlocks_134 (by decide) ?_
            refine lv_icmp_ne (tgt := 149) hx hb dL_unlocks_135 (by decide) (fun c_57 => ?_) (fun c9 => absurd c9 hlk)
            refine lv_iload hx hb dL_unlocks_149 (lv_at hl 3 rfl) ?_
            refine lv_istore (lv' := [(7, .int (fk_oI nx)), (8, .int (nI ot)), (10, .int (nI u)), (9, .int (nI k)), (6, .int (pl_last S)), (5, .int 0), (4, .int (nI t)), (3, .int (pl_own (S 0 a))), (0, .ref (ad 0)), (1, .int y), (2, .int (nI a))]) hx hb dL_unlocks_151 hl (by decide) rfl (fun ls hl => ?_)
            refine lv_iinc (v := (nI (k + 1))) (lv' := [(9, .int (nI (k + 1))), (7, .int (fk_oI nx)), (8, .int (nI ot)), (10, .int (nI u)), (6, .int (pl_last S)), (5, .int 0), (4, .int (nI t)), (3, .int (pl_own (S 0 a))), (0, .ref (ad 0)), (1, .int y), (2, .int (nI a))]) hx hb dL_unlocks_153 hl (k := 3) rfl (nI_1 k) (by decide) rfl (fun ls hl => ?_)
            refine lv_goto (tgt := 89) hx hb dL_unlocks_156 (by decide) ?_
            exact ih1 (k + 1) ot nx (by omega) ((kq_lkS hgu hdu h1 h2).2 hlk).1 ((kq_lkS hgu hdu h1 h2).2 hlk).2 hnx9 _ _ _ hP hD hS (lv_sub hl [0, 2, 1, 4, 5, 6, 7, 8, 9, 10] rfl)
      exact loop1 (kq_A S a).length 0 0 none (by omega) (by rw [Nat.zero_add]; rfl) rfl (by intro w hw; cases hw) _ _ _ hP hD hS (lv_sub hl [0, 1, 2, 3, 4, 5, 6, 8, 9, 7] rfl)
  refine lv_iload_n hx hb dL_unlocks_18 rfl (lv_at hl 0 rfl) ?_
  refine lv_if_lt (tgt := 42) hx hb dL_unlocks_19 (by decide) (fun c_58 => ?_) (fun c_58 => ?_)
  · refine lv_iload_n hx hb dL_unlocks_42 rfl (lv_at hl 3 rfl) ?_
    refine lv_iconst (v := 5) hx hb dL_unlocks_43 (by decide) ?_
    refine lv_ishr hx hb dL_unlocks_44 ?_
    refine lv_bipush (v := 8) hx hb dL_unlocks_45 (by decide) ?_
    refine fk_callS (As := [.int (y >>> (5 &&& 31)), .int 8]) (rest := []) ⟨hx, hb, hml, hown, hts⟩ (kl_some l D ad cI cT cJ _ S (y >>> (5 &&& 31)) 8 (by decide)) (va_cwS 2 hts gL_unlocks_L_some rfl rfl rfl (by decide +kernel) ⟨Nat.le_of_ble_eq_true rfl, Nat.le_of_ble_eq_true rfl⟩) hK hP hD hS hA rfl hl.1 rfl (Nat.le_of_ble_eq_true rfl) dL_unlocks_47 ⟨Nat.le_of_ble_eq_true rfl, Nat.le_of_ble_eq_true rfl⟩ (fun H locs hP hD hS => ?_)
    refine W.eq (g2 := F0 m 50 ls [.int (pl_some (y >>> (5 &&& 31)) 8)]) rfl ?_
    exact jn50 (pl_some (y >>> (5 &&& 31)) 8) (by first | exact fk_own8 (by assumption) (by assumption) | exact pl_some_N _ (k := 8) (by decide) (by decide)) _ _ _ hP hD hS hl
  · refine lv_iload_n hx hb dL_unlocks_22 rfl (lv_at hl 0 rfl) ?_
    refine lv_bipush (v := 8) hx hb dL_unlocks_23 (by decide) ?_
    refine lv_icmp_ge (tgt := 42) hx hb dL_unlocks_25 (by decide) (fun c_59 => ?_) (fun c_59 => ?_)
    · refine lv_iload_n hx hb dL_unlocks_42 rfl (lv_at hl 3 rfl) ?_
      refine lv_iconst (v := 5) hx hb dL_unlocks_43 (by decide) ?_
      refine lv_ishr hx hb dL_unlocks_44 ?_
      refine lv_bipush (v := 8) hx hb dL_unlocks_45 (by decide) ?_
      refine fk_callS (As := [.int (y >>> (5 &&& 31)), .int 8]) (rest := []) ⟨hx, hb, hml, hown, hts⟩ (kl_some l D ad cI cT cJ _ S (y >>> (5 &&& 31)) 8 (by decide)) (va_cwS 2 hts gL_unlocks_L_some rfl rfl rfl (by decide +kernel) ⟨Nat.le_of_ble_eq_true rfl, Nat.le_of_ble_eq_true rfl⟩) hK hP hD hS hA rfl hl.1 rfl (Nat.le_of_ble_eq_true rfl) dL_unlocks_47 ⟨Nat.le_of_ble_eq_true rfl, Nat.le_of_ble_eq_true rfl⟩ (fun H locs hP hD hS => ?_)
      refine W.eq (g2 := F0 m 50 ls [.int (pl_some (y >>> (5 &&& 31)) 8)]) rfl ?_
      exact jn50 (pl_some (y >>> (5 &&& 31)) 8) (by first | exact fk_own8 (by assumption) (by assumption) | exact pl_some_N _ (k := 8) (by decide) (by decide)) _ _ _ hP hD hS hl
    · refine lv_iload_n hx hb dL_unlocks_28 rfl (lv_at hl 3 rfl) ?_
      refine lv_iconst (v := 3) hx hb dL_unlocks_29 (by decide) ?_
      refine lv_ishr hx hb dL_unlocks_30 ?_
      refine lv_iconst (v := 5) hx hb dL_unlocks_31 (by decide) ?_
      refine fk_callS (As := [.int (y >>> (3 &&& 31)), .int 5]) (rest := []) ⟨hx, hb, hml, hown, hts⟩ (kl_some l D ad cI cT cJ _ S (y >>> (3 &&& 31)) 5 (by decide)) (va_cwS 2 hts gL_unlocks_L_some rfl rfl rfl (by decide +kernel) ⟨Nat.le_of_ble_eq_true rfl, Nat.le_of_ble_eq_true rfl⟩) hK hP hD hS hA rfl hl.1 rfl (Nat.le_of_ble_eq_true rfl) dL_unlocks_32 ⟨Nat.le_of_ble_eq_true rfl, Nat.le_of_ble_eq_true rfl⟩ (fun H locs hP hD hS => ?_)
      refine W.eq (g2 := F0 m 35 ls [.int (pl_some (y >>> (3 &&& 31)) 5)]) rfl ?_
      refine lv_if_le (tgt := 42) hx hb dL_unlocks_35 (by decide) (fun c_60 => ?_) (fun c_60 => ?_)
      · refine lv_iload_n hx hb dL_unlocks_42 rfl (lv_at hl 3 rfl) ?_
        refine lv_iconst (v := 5) hx hb dL_unlocks_43 (by decide) ?_
        refine lv_ishr hx hb dL_unlocks_44 ?_
        refine lv_bipush (v := 8) hx hb dL_unlocks_45 (by decide) ?_
        refine fk_callS (As := [.int (y >>> (5 &&& 31)), .int 8]) (rest := []) ⟨hx, hb, hml, hown, hts⟩ (kl_some l D ad cI cT cJ _ S (y >>> (5 &&& 31)) 8 (by decide)) (va_cwS 2 hts gL_unlocks_L_some rfl rfl rfl (by decide +kernel) ⟨Nat.le_of_ble_eq_true rfl, Nat.le_of_ble_eq_true rfl⟩) hK hP hD hS hA rfl hl.1 rfl (Nat.le_of_ble_eq_true rfl) dL_unlocks_47 ⟨Nat.le_of_ble_eq_true rfl, Nat.le_of_ble_eq_true rfl⟩ (fun H locs hP hD hS => ?_)
        refine W.eq (g2 := F0 m 50 ls [.int (pl_some (y >>> (5 &&& 31)) 8)]) rfl ?_
        exact jn50 (pl_some (y >>> (5 &&& 31)) 8) (by first | exact fk_own8 (by assumption) (by assumption) | exact pl_some_N _ (k := 8) (by decide) (by decide)) _ _ _ hP hD hS hl
      · refine lv_iload_n hx hb dL_unlocks_38 rfl (lv_at hl 0 rfl) ?_
        refine lv_goto (tgt := 50) hx hb dL_unlocks_39 (by decide) ?_
        exact jn50 (pl_own (S 0 a)) (by first | exact fk_own8 (by assumption) (by assumption) | exact pl_some_N _ (k := 8) (by decide) (by decide)) _ _ _ hP hD hS hl
