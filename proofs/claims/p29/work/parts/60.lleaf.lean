theorem fk_cmp_self (x : Int64) : lg_cmp x x = 0 := (lg_cmp_eq x x).mpr rfl
def pl_some (x n : Int32) : Int32 := (x.toUInt32 >>> ((1 : Int32).toUInt32 &&& Int32.toUInt32 31)).toInt32 - (x.toUInt32 >>> ((1 : Int32).toUInt32 &&& Int32.toUInt32 31)).toInt32 / n * n
theorem pl_some_N (x : Int32) {k : Nat} (h0 : 0 < k) (hk : k < 2 ^ 31) : ∃ j, j < k ∧ pl_some x (nI k) = nI j := by
  have h := pk_ushr x 1 1 (by decide +kernel)
  have h2 : (x.toUInt32 >>> ((1 : Int32).toUInt32 &&& Int32.toUInt32 31)).toInt32 = nI (x.toBitVec.toNat / 2) := by
    refine Int32.toBitVec_inj.mp (BitVec.eq_of_toNat_eq ?_)
    have hx := x.toBitVec.isLt
    rw [h, pk_tn (by omega)]
  have hx := x.toBitVec.isLt
  refine ⟨x.toBitVec.toNat / 2 % k, Nat.mod_lt _ h0, ?_⟩
  unfold pl_some
  rw [h2, pk_rem (by omega) h0 hk]
theorem kq_step {L : List Nat} {k n : Nat} (h : k + (n + 1) = L.length) : ∃ t, L[k]? = some t ∧ L.drop k = t :: L.drop (k + 1) := by
  have hk : k < L.length := by omega
  exact ⟨L[k], List.getElem?_eq_getElem hk, List.drop_eq_getElem_cons hk⟩
theorem kq_stop {L : List Nat} {k : Nat} (h : k + 0 = L.length) : L[k]? = none ∧ L.drop k = [] := ⟨List.getElem?_eq_none (by omega), List.drop_eq_nil_of_le (by omega)⟩
theorem kq_B8 (S : fk_S) (b : Nat) : (kq_B S b).length ≤ 8 := kq_len8 _ _
theorem kq_A8 (S : fk_S) (a : Nat) : (kq_A S a).length ≤ 8 := kq_len8 _ _
theorem kq_B_lt {S : fk_S} {b k t : Nat} (h : (kq_B S b)[k]? = some t) : t < 8 := (kq_mem.mp (List.mem_of_getElem? h)).1
theorem kq_A_lt {S : fk_S} {b k t : Nat} (h : (kq_A S b)[k]? = some t) : t < 8 := (kq_mem.mp (List.mem_of_getElem? h)).1
theorem kq_nd_ne {L : List Nat} (h : L.Nodup) {i j u v : Nat} (hi : L[i]? = some u) (hj : L[j]? = some v) (hn : i ≠ j) : u ≠ v := by
  intro e
  rw [← e] at hj
  exact hn ((List.getElem?_inj (List.getElem?_eq_some_iff.mp hi).1 h).mp (hi.trans hj.symm))

abbrev rmL_some : Room := { frames := 0, cells := 0, slots := 0, locals := 0 }
set_option maxHeartbeats 4000000 in
set_option maxRecDepth 100000 in
theorem kl_some (l : Launch) (D : va_G) (ad : Nat → Nat) (cI cT cJ : ClassId) (X : va_W) (S : fk_S) (x n : Int32) (hn : ¬ n = 0) : fk_C l D (fk_ty cI cT cJ) yL_some wsL_some rmL_some [.int x, .int n] (fk_kW ad cI cT S ++ X) (some (.int (pl_some x n))) (fk_kW ad cI cT S ++ X) := by
  refine fk_C_of (cc := cL_some) (maxL := 2) (ret := (some .int)) (own := RL) (by decide) rfl rfl (Nat.le_of_ble_eq_true rfl) ?_
  intro p e s m below meth c A ls hx hb hr hlocks hml hts hown hA hP hK hD hl
  have hS : va_S A s.heap s.heap [] := va_S.rf
  have hl : lv_has ls 2 [(0, .int x), (1, .int n)] := hl
  refine lv_iload_n hx hb dL_some_0 rfl (lv_at hl 0 rfl) ?_
  refine lv_iconst (v := 1) hx hb dL_some_1 (by decide) ?_
  refine lv_iushr hx hb dL_some_2 rfl ?_
  refine lv_iload_n hx hb dL_some_3 rfl (lv_at hl 1 rfl) ?_
  refine lv_irem hx hb dL_some_4 hn ?_
  exact fk_iret hx hb hr hlocks hP hK hD hS rfl (by rfl) dL_some_5

abbrev rmL_bucket : Room := { frames := 0, cells := 0, slots := 0, locals := 0 }
set_option maxHeartbeats 4000000 in
set_option maxRecDepth 100000 in
theorem kl_bucket (l : Launch) (D : va_G) (ad : Nat → Nat) (cI cT cJ : ClassId) (X : va_W) (S : fk_S) (a : Int32) : fk_C l D (fk_ty cI cT cJ) yL_bucket wsL_bucket rmL_bucket [.int a] (fk_kW ad cI cT S ++ X) (some (.int (fk_bkt a))) (fk_kW ad cI cT S ++ X) := by
  refine fk_C_of (cc := cL_bucket) (maxL := 1) (ret := (some .int)) (own := RL) (by decide) rfl rfl (Nat.le_of_ble_eq_true rfl) ?_
  intro p e s m below meth c A ls hx hb hr hlocks hml hts hown hA hP hK hD hl
  have hS : va_S A s.heap s.heap [] := va_S.rf
  have hl : lv_has ls 1 [(0, .int a)] := hl
  refine lv_iload_n hx hb dL_bucket_0 rfl (lv_at hl 0 rfl) ?_
  refine lv_iload_n hx hb dL_bucket_1 rfl (lv_at hl 0 rfl) ?_
  refine lv_iconst (v := 4) hx hb dL_bucket_2 (by decide) ?_
  refine lv_idiv hx hb dL_bucket_3 (by decide) ?_
  refine lv_iadd hx hb dL_bucket_4 ?_
  refine lv_iconst (v := 4) hx hb dL_bucket_5 (by decide) ?_
  refine lv_irem hx hb dL_bucket_6 (by decide) ?_
  exact fk_iret hx hb hr hlocks hP hK hD hS rfl (by rfl) dL_bucket_7

abbrev rmL_words : Room := { frames := 3, cells := 0, slots := 0, locals := 61 }
set_option maxHeartbeats 4000000 in
set_option maxRecDepth 100000 in
theorem kl_words (l : Launch) (D : va_G) (ad : Nat → Nat) (cI cT cJ : ClassId) (X : va_W) (S : fk_S) (but : Int32) : fk_C l D (fk_ty cI cT cJ) yL_words wsL_words rmL_words [.ref (ad 0), .int but] (fk_kW ad cI cT S ++ X) (some (.long (pl_wds S but))) (fk_kW ad cI cT S ++ X) := by
  refine fk_C_of (cc := cL_words) (maxL := 5) (ret := (some .long)) (own := RL) (by decide) rfl rfl (Nat.le_of_ble_eq_true rfl) ?_
  intro p e s m below meth c A ls hx hb hr hlocks hml hts hown hA hP hK hD hl
  have hS : va_S A s.heap s.heap [] := va_S.rf
  have hl : lv_has ls 5 [(0, .ref (ad 0)), (1, .int but)] := hl
  refine lv_lconst (v := 1) hx hb dL_words_0 (by decide) ?_
  refine lv_lstore_n (lv' := [(2, .long 1), (0, .ref (ad 0)), (1, .int but)]) hx hb dL_words_1 rfl hl (by decide) rfl (fun ls hl => ?_)
  refine lv_iconst (v := 0) hx hb dL_words_2 (by decide) ?_
  refine lv_istore (lv' := [(4, .int 0), (2, .long 1), (0, .ref (ad 0)), (1, .int but)]) hx hb dL_words_3 hl (by decide) rfl (fun ls hl => ?_)
  have loop : ∀ (n : Nat) (a : Nat) (h : Int64), a + n = 16 → fk_lp (pl_w1 S but) n a h = pl_wds S but → ∀ (H : Heap) (locs : List Loc) (ls : Array Slot), va_P D vwCl (fk_kW ad cI cT S ++ X) H → va_D A (fk_kW ad cI cT S ++ X) → va_S A s.heap H locs → lv_has ls 5 [(4, .int (nI a)), (2, .long h), (0, .ref (ad 0)), (1, .int but)] → W p l e rmL_words s m ([.ref (ad 0), .int but] : List Value).toArray below meth c H locs 0 0 (fk_Q below D (fk_ty cI cT cJ) [.ref (ad 0), .int but] s A (fk_kW ad cI cT S ++ X) (some (.long (pl_wds S but)))) (F0 m 5 ls []) := by
    intro n
    induction n with
    | zero =>
      intro a h hi hR H locs ls hP hD hS hl
      refine lv_iload hx hb dL_words_5 (lv_at hl 0 rfl) ?_
      refine lv_bipush (v := 16) hx hb dL_words_7 (by decide) ?_
      refine lv_icmp_ge (tgt := 42) hx hb dL_words_9 (by decide) (fun c_1 => ?_) (fun c_1 => absurd (nI_le (a := 16) (b := a) (by omega) (by omega)) c_1)
      refine lv_lload_n hx hb dL_words_42 rfl (lv_at hl 1 rfl) ?_
      exact fk_lret hx hb hr hlocks hP hK hD hS rfl (by rw [← hR]; rfl) dL_words_43
    | succ n ih =>
      intro a h hi hR H locs ls hP hD hS hl
      refine lv_iload hx hb dL_words_5 (lv_at hl 0 rfl) ?_
      refine lv_bipush (v := 16) hx hb dL_words_7 (by decide) ?_
      refine lv_icmp_ge (tgt := 42) hx hb dL_words_9 (by decide) (fun c_2 => absurd c_2 (nI_ge (a := a) (b := 16) (by omega) (by omega))) (fun c_2 => ?_)
      refine lv_iload hx hb dL_words_12 (lv_at hl 0 rfl) ?_
      refine lv_iload_n hx hb dL_words_14 rfl (lv_at hl 3 rfl) ?_
      refine lv_icmp_ne (tgt := 22) hx hb dL_words_15 (by decide) (fun c_3 => ?_) (fun c_3 => ?_)
      · refine lv_lload_n hx hb dL_words_22 rfl (lv_at hl 1 rfl) ?_
        refine lv_ldc2 (own := RL) (v := 1000003) hx hb hown (hts (.constantLong RL 104 (1000003)) (List.mem_of_getElem? (i := 1) rfl)) dL_words_23 ?_
        refine lv_lmul hx hb dL_words_26 ?_
        refine lv_aload_n hx hb dL_words_27 rfl (lv_at hl 2 rfl) ?_
        refine lv_iload hx hb dL_words_28 (lv_at hl 0 rfl) ?_
        refine fk_callV (As := [.int (nI a)]) (rest := [.long (h * 1000003)]) ⟨hx, hb, hml, hown, hts⟩ (kc_word l D ad cI cT cJ _ S a (by omega)) (cwV 1 hts gL_words_X2_word rfl rfl rfl (by decide +kernel) ⟨Nat.le_of_ble_eq_true rfl, Nat.le_of_ble_eq_true rfl⟩) (fk_rvK hK hP) hK hP hD hS hA rfl hl.1 rfl (Nat.le_of_ble_eq_true rfl) dL_words_30 ⟨Nat.le_of_ble_eq_true rfl, Nat.le_of_ble_eq_true rfl⟩ (fun H locs hP hD hS => ?_)
        refine W.eq (g2 := F0 m 33 ls [.int (S 0 a), .long (h * 1000003)]) rfl ?_
        refine lv_i2l hx hb dL_words_33 rfl ?_
        refine lv_ladd hx hb dL_words_34 ?_
        refine lv_lstore_n (lv' := [(2, .long ((h * 1000003) + ((S 0 a).toInt64))), (4, .int (nI a)), (0, .ref (ad 0)), (1, .int but)]) hx hb dL_words_35 rfl hl (by decide) rfl (fun ls hl => ?_)
        refine lv_iinc (v := (nI (a + 1))) (lv' := [(4, .int (nI (a + 1))), (2, .long ((h * 1000003) + ((S 0 a).toInt64))), (0, .ref (ad 0)), (1, .int but)]) hx hb dL_words_36 hl (k := 1) rfl (nI_1 a) (by decide) rfl (fun ls hl => ?_)
        refine lv_goto (tgt := 5) hx hb dL_words_39 (by decide) ?_
        exact ih (a + 1) ((h * 1000003) + ((S 0 a).toInt64)) (by omega) ((congrArg (fk_lp _ n (a + 1)) (show ((h * 1000003) + ((S 0 a).toInt64)) = pl_w1 S but a h from by simp [pl_w1, c_3])).trans hR) _ _ _ hP hD hS (lv_sub hl [0, 1, 2, 3] rfl)
      · refine lv_lload_n hx hb dL_words_18 rfl (lv_at hl 1 rfl) ?_
        refine lv_goto (tgt := 35) hx hb dL_words_19 (by decide) ?_
        refine lv_lstore_n (lv' := [(2, .long h), (4, .int (nI a)), (0, .ref (ad 0)), (1, .int but)]) hx hb dL_words_35 rfl hl (by decide) rfl (fun ls hl => ?_)
        refine lv_iinc (v := (nI (a + 1))) (lv' := [(4, .int (nI (a + 1))), (2, .long h), (0, .ref (ad 0)), (1, .int but)]) hx hb dL_words_36 hl (k := 1) rfl (nI_1 a) (by decide) rfl (fun ls hl => ?_)
        refine lv_goto (tgt := 5) hx hb dL_words_39 (by decide) ?_
        exact ih (a + 1) h (by omega) ((congrArg (fk_lp _ n (a + 1)) (show h = pl_w1 S but a h from by simp [pl_w1, c_3])).trans hR) _ _ _ hP hD hS (lv_sub hl [0, 1, 2, 3] rfl)
  exact loop 16 0 1 rfl rfl _ _ _ hP hD hS (lv_sub hl [0, 1, 2, 3] rfl)

abbrev rmL_last : Room := { frames := 2, cells := 0, slots := 0, locals := 42 }
set_option maxHeartbeats 4000000 in
set_option maxRecDepth 100000 in
theorem kl_last (l : Launch) (D : va_G) (ad : Nat → Nat) (cI cT cJ : ClassId) (X : va_W) (S : fk_S)  : fk_C l D (fk_ty cI cT cJ) yL_last wsL_last rmL_last [.ref (ad 0)] (fk_kW ad cI cT S ++ X) (some (.int (pl_last S))) (fk_kW ad cI cT S ++ X) := by
  refine fk_C_of (cc := cL_last) (maxL := 3) (ret := (some .int)) (own := RL) (by decide) rfl rfl (Nat.le_of_ble_eq_true rfl) ?_
  intro p e s m below meth c A ls hx hb hr hlocks hml hts hown hA hP hK hD hl
  have hS : va_S A s.heap s.heap [] := va_S.rf
  have hl : lv_has ls 3 [(0, .ref (ad 0))] := hl
  refine lv_iconst (v := 0) hx hb dL_last_0 (by decide) ?_
  refine lv_istore_n (lv' := [(1, .int 0), (0, .ref (ad 0))]) hx hb dL_last_1 rfl hl (by decide) rfl (fun ls hl => ?_)
  refine lv_iconst (v := 0) hx hb dL_last_2 (by decide) ?_
  refine lv_istore_n (lv' := [(2, .int 0), (1, .int 0), (0, .ref (ad 0))]) hx hb dL_last_3 rfl hl (by decide) rfl (fun ls hl => ?_)
  have loop : ∀ (n : Nat) (t : Nat) (x : Int32), t + n = 8 → fk_lp (pl_ls1 S) n t x = pl_last S → ∀ (H : Heap) (locs : List Loc) (ls : Array Slot), va_P D vwCl (fk_kW ad cI cT S ++ X) H → va_D A (fk_kW ad cI cT S ++ X) → va_S A s.heap H locs → lv_has ls 3 [(2, .int (nI t)), (1, .int x), (0, .ref (ad 0))] → W p l e rmL_last s m ([.ref (ad 0)] : List Value).toArray below meth c H locs 0 0 (fk_Q below D (fk_ty cI cT cJ) [.ref (ad 0)] s A (fk_kW ad cI cT S ++ X) (some (.int (pl_last S)))) (F0 m 4 ls []) := by
    intro n
    induction n with
    | zero =>
      intro t x hi hR H locs ls hP hD hS hl
      refine lv_iload_n hx hb dL_last_4 rfl (lv_at hl 0 rfl) ?_
      refine lv_bipush (v := 8) hx hb dL_last_5 (by decide) ?_
      refine lv_icmp_ge (tgt := 35) hx hb dL_last_7 (by decide) (fun c_1 => ?_) (fun c_1 => absurd (nI_le (a := 8) (b := t) (by omega) (by omega)) c_1)
      refine lv_iload_n hx hb dL_last_35 rfl (lv_at hl 1 rfl) ?_
      exact fk_iret hx hb hr hlocks hP hK hD hS rfl (by rw [← hR]; rfl) dL_last_36
    | succ n ih =>
      intro t x hi hR H locs ls hP hD hS hl
      refine lv_iload_n hx hb dL_last_4 rfl (lv_at hl 0 rfl) ?_
      refine lv_bipush (v := 8) hx hb dL_last_5 (by decide) ?_
      refine lv_icmp_ge (tgt := 35) hx hb dL_last_7 (by decide) (fun c_2 => absurd c_2 (nI_ge (a := t) (b := 8) (by omega) (by omega))) (fun c_2 => ?_)
      refine lv_aload_n hx hb dL_last_10 rfl (lv_at hl 2 rfl) ?_
      refine lv_iload_n hx hb dL_last_11 rfl (lv_at hl 0 rfl) ?_
      refine fk_callV (As := [.int (nI t)]) (rest := []) ⟨hx, hb, hml, hown, hts⟩ (kc_serialOf l D ad cI cT cJ _ S t (by omega)) (cwV 1 hts gL_last_X2_serialOf rfl rfl rfl (by decide +kernel) ⟨Nat.le_of_ble_eq_true rfl, Nat.le_of_ble_eq_true rfl⟩) (fk_rvK hK hP) hK hP hD hS hA rfl hl.1 rfl (Nat.le_of_ble_eq_true rfl) dL_last_12 ⟨Nat.le_of_ble_eq_true rfl, Nat.le_of_ble_eq_true rfl⟩ (fun H locs hP hD hS => ?_)
      refine W.eq (g2 := F0 m 15 ls [.int (S 9 t)]) rfl ?_
      refine lv_iload_n hx hb dL_last_15 rfl (lv_at hl 1 rfl) ?_
      refine lv_icmp_le (tgt := 27) hx hb dL_last_16 (by decide) (fun c_3 => ?_) (fun c_3 => ?_)
      · refine lv_iload_n hx hb dL_last_27 rfl (lv_at hl 1 rfl) ?_
        refine lv_istore_n (lv' := [(1, .int x), (2, .int (nI t)), (0, .ref (ad 0))]) hx hb dL_last_28 rfl hl (by decide) rfl (fun ls hl => ?_)
        refine lv_iinc (v := (nI (t + 1))) (lv' := [(2, .int (nI (t + 1))), (1, .int x), (0, .ref (ad 0))]) hx hb dL_last_29 hl (k := 1) rfl (nI_1 t) (by decide) rfl (fun ls hl => ?_)
        refine lv_goto (tgt := 4) hx hb dL_last_32 (by decide) ?_
        exact ih (t + 1) x (by omega) ((congrArg (fk_lp _ n (t + 1)) (show x = pl_ls1 S t x from by simp only [pl_ls1]; first | rw [if_pos (Int32.not_le.mp c_3)] | rw [if_neg (Int32.not_lt.mpr c_3)])).trans hR) _ _ _ hP hD hS (lv_sub hl [0, 1, 2] rfl)
      · refine lv_aload_n hx hb dL_last_19 rfl (lv_at hl 2 rfl) ?_
        refine lv_iload_n hx hb dL_last_20 rfl (lv_at hl 0 rfl) ?_
        refine fk_callV (As := [.int (nI t)]) (rest := []) ⟨hx, hb, hml, hown, hts⟩ (kc_serialOf l D ad cI cT cJ _ S t (by omega)) (cwV 1 hts gL_last_X2_serialOf rfl rfl rfl (by decide +kernel) ⟨Nat.le_of_ble_eq_true rfl, Nat.le_of_ble_eq_true rfl⟩) (fk_rvK hK hP) hK hP hD hS hA rfl hl.1 rfl (Nat.le_of_ble_eq_true rfl) dL_last_21 ⟨Nat.le_of_ble_eq_true rfl, Nat.le_of_ble_eq_true rfl⟩ (fun H locs hP hD hS => ?_)
        refine W.eq (g2 := F0 m 24 ls [.int (S 9 t)]) rfl ?_
        refine lv_goto (tgt := 28) hx hb dL_last_24 (by decide) ?_
        refine lv_istore_n (lv' := [(1, .int (S 9 t)), (2, .int (nI t)), (0, .ref (ad 0))]) hx hb dL_last_28 rfl hl (by decide) rfl (fun ls hl => ?_)
        refine lv_iinc (v := (nI (t + 1))) (lv' := [(2, .int (nI (t + 1))), (1, .int (S 9 t)), (0, .ref (ad 0))]) hx hb dL_last_29 hl (k := 1) rfl (nI_1 t) (by decide) rfl (fun ls hl => ?_)
        refine lv_goto (tgt := 4) hx hb dL_last_32 (by decide) ?_
        exact ih (t + 1) (S 9 t) (by omega) ((congrArg (fk_lp _ n (t + 1)) (show (S 9 t) = pl_ls1 S t x from by simp only [pl_ls1]; first | rw [if_pos (Int32.not_le.mp c_3)] | rw [if_neg (Int32.not_lt.mpr c_3)])).trans hR) _ _ _ hP hD hS (lv_sub hl [0, 1, 2] rfl)
  exact loop 8 0 0 rfl rfl _ _ _ hP hD hS (lv_sub hl [0, 1, 2] rfl)

abbrev rmL_threads : Room := { frames := 3, cells := 0, slots := 0, locals := 73 }
set_option maxHeartbeats 4000000 in
set_option maxRecDepth 100000 in
theorem kl_threads (l : Launch) (D : va_G) (ad : Nat → Nat) (cI cT cJ : ClassId) (X : va_W) (S : fk_S) (hsz : fk_sz S) (hJ : kq_J S) (but : Int32) : fk_C l D (fk_ty cI cT cJ) yL_threads wsL_threads rmL_threads [.ref (ad 0), .int but] (fk_kW ad cI cT S ++ X) (some (.long (pl_thr S but))) (fk_kW ad cI cT S ++ X) := by
  refine fk_C_of (cc := cL_threads) (maxL := 6) (ret := (some .long)) (own := RL) (by decide) rfl rfl (Nat.le_of_ble_eq_true rfl) ?_
  intro p e s m below meth c A ls hx hb hr hlocks hml hts hown hA hP hK hD hl
  have hS : va_S A s.heap s.heap [] := va_S.rf
  have hl : lv_has ls 6 [(0, .ref (ad 0)), (1, .int but)] := hl
  refine lv_aload_n hx hb dL_threads_0 rfl (lv_at hl 0 rfl) ?_
  refine fk_callV (As := []) (rest := []) ⟨hx, hb, hml, hown, hts⟩ (kc_now l D ad cI cT cJ _ S) (cwV 0 hts gL_threads_X2_now rfl rfl rfl (by decide +kernel) ⟨Nat.le_of_ble_eq_true rfl, Nat.le_of_ble_eq_true rfl⟩) (fk_rvK hK hP) hK hP hD hS hA rfl hl.1 rfl (Nat.le_of_ble_eq_true rfl) dL_threads_1 ⟨Nat.le_of_ble_eq_true rfl, Nat.le_of_ble_eq_true rfl⟩ (fun H locs hP hD hS => ?_)
  refine W.eq (g2 := F0 m 4 ls [.int (S 12 0)]) rfl ?_
  refine lv_i2l hx hb dL_threads_4 rfl ?_
  refine lv_lstore_n (lv' := [(2, .long ((S 12 0).toInt64)), (0, .ref (ad 0)), (1, .int but)]) hx hb dL_threads_5 rfl hl (by decide) rfl (fun ls hl => ?_)
  refine lv_iconst (v := 0) hx hb dL_threads_6 (by decide) ?_
  refine lv_istore (lv' := [(4, .int 0), (2, .long ((S 12 0).toInt64)), (0, .ref (ad 0)), (1, .int but)]) hx hb dL_threads_7 hl (by decide) rfl (fun ls hl => ?_)
  have loop : ∀ (n : Nat) (i : Nat) (h : Int64), i + n = 8 → fk_lp (pl_t1 S but) n i h = fk_lp (pl_t1 S but) 8 0 (S 12 0).toInt64 → ∀ (H : Heap) (locs : List Loc) (ls : Array Slot), va_P D vwCl (fk_kW ad cI cT S ++ X) H → va_D A (fk_kW ad cI cT S ++ X) → va_S A s.heap H locs → lv_has ls 6 [(4, .int (nI i)), (2, .long h), (0, .ref (ad 0)), (1, .int but)] → W p l e rmL_threads s m ([.ref (ad 0), .int but] : List Value).toArray below meth c H locs 0 0 (fk_Q below D (fk_ty cI cT cJ) [.ref (ad 0), .int but] s A (fk_kW ad cI cT S ++ X) (some (.long (pl_thr S but)))) (F0 m 9 ls []) := by
    intro n
    induction n with
    | zero =>
      intro i h hi hR H locs ls hP hD hS hl
      refine lv_iload hx hb dL_threads_9 (lv_at hl 0 rfl) ?_
      refine lv_bipush (v := 8) hx hb dL_threads_11 (by decide) ?_
      refine lv_icmp_ge (tgt := 114) hx hb dL_threads_13 (by decide) (fun c_1 => ?_) (fun c_1 => absurd (nI_le (a := 8) (b := i) (by omega) (by omega)) c_1)
      refine lv_iconst (v := 0) hx hb dL_threads_114 (by decide) ?_
      refine lv_istore (lv' := [(4, .int 0), (2, .long h), (0, .ref (ad 0)), (1, .int but)]) hx hb dL_threads_115 hl (by decide) rfl (fun ls hl => ?_)
      have loopB : ∀ (n : Nat) (b : Nat) (h : Int64), b + n = 4 → fk_lp (pl_qs S but) n b h = pl_thr S but → ∀ (H : Heap) (locs : List Loc) (ls : Array Slot), va_P D vwCl (fk_kW ad cI cT S ++ X) H → va_D A (fk_kW ad cI cT S ++ X) → va_S A s.heap H locs → lv_has ls 6 [(4, .int (nI b)), (2, .long h), (0, .ref (ad 0)), (1, .int but)] → W p l e rmL_threads s m ([.ref (ad 0), .int but] : List Value).toArray below meth c H locs 0 0 (fk_Q below D (fk_ty cI cT cJ) [.ref (ad 0), .int but] s A (fk_kW ad cI cT S ++ X) (some (.long (pl_thr S but)))) (F0 m 117 ls []) := by
        intro n
        induction n with
        | zero =>
          intro b h hb9 hR H locs ls hP hD hS hl
          refine lv_iload hx hb dL_threads_117 (lv_at hl 0 rfl) ?_
          refine lv_iconst (v := 4) hx hb dL_threads_119 (by decide) ?_
          refine lv_icmp_ge (tgt := 190) hx hb dL_threads_120 (by decide) (fun c_2 => ?_) (fun c_2 => absurd (nI_le (a := 4) (b := b) (by omega) (by omega)) c_2)
          refine lv_lload_n hx hb dL_threads_190 rfl (lv_at hl 1 rfl) ?_
          exact fk_lret hx hb hr hlocks hP hK hD hS rfl (by rw [← hR]; rfl) dL_threads_191
        | succ n ih =>
          intro b h hb9 hR H locs ls hP hD hS hl
          refine lv_iload hx hb dL_threads_117 (lv_at hl 0 rfl) ?_
          refine lv_iconst (v := 4) hx hb dL_threads_119 (by decide) ?_
          refine lv_icmp_ge (tgt := 190) hx hb dL_threads_120 (by decide) (fun c_3 => absurd c_3 (nI_ge (a := b) (b := 4) (by omega) (by omega))) (fun c_3 => ?_)
          refine lv_iconst (v := 0) hx hb dL_threads_123 (by decide) ?_
          refine lv_istore (lv' := [(5, .int 0), (4, .int (nI b)), (2, .long h), (0, .ref (ad 0)), (1, .int but)]) hx hb dL_threads_124 hl (by decide) rfl (fun ls hl => ?_)
          have loopQ : ∀ (n2 : Nat) (k : Nat) (x : Int64), k + n2 = (kq_B S b).length → ((kq_B S b).drop k).foldl (pl_q1 but b) x = pl_qs S but b h → ∀ (H : Heap) (locs : List Loc) (ls : Array Slot), va_P D vwCl (fk_kW ad cI cT S ++ X) H → va_D A (fk_kW ad cI cT S ++ X) → va_S A s.heap H locs → lv_has ls 6 [(5, .int (nI k)), (4, .int (nI b)), (2, .long x), (0, .ref (ad 0)), (1, .int but)] → W p l e rmL_threads s m ([.ref (ad 0), .int but] : List Value).toArray below meth c H locs 0 0 (fk_Q below D (fk_ty cI cT cJ) [.ref (ad 0), .int but] s A (fk_kW ad cI cT S ++ X) (some (.long (pl_thr S but)))) (F0 m 126 ls []) := by
            intro n2
            induction n2 with
            | zero =>
              intro k x hk hQ H locs ls hP hD hS hl
              have h8 := kq_B8 S b
              refine lv_aload_n hx hb dL_threads_126 rfl (lv_at hl 3 rfl) ?_
              refine lv_iload hx hb dL_threads_127 (lv_at hl 1 rfl) ?_
              refine lv_iload hx hb dL_threads_129 (lv_at hl 0 rfl) ?_
              refine fk_callV (As := [.int (nI b), .int (nI k)]) (rest := []) ⟨hx, hb, hml, hown, hts⟩ (kc_queueAt l D ad cI cT cJ _ S b (by omega) (nI k) (nI_pos' (by omega))) (cwV 2 hts gL_threads_X2_queueAt rfl rfl rfl (by decide +kernel) ⟨Nat.le_of_ble_eq_true rfl, Nat.le_of_ble_eq_true rfl⟩) (fk_rvK hK hP) hK hP hD hS hA rfl hl.1 rfl (Nat.le_of_ble_eq_true rfl) dL_threads_131 ⟨Nat.le_of_ble_eq_true rfl, Nat.le_of_ble_eq_true rfl⟩ (fun H locs hP hD hS => ?_)
              refine W.eq (g2 := F0 m 134 ls [.int (fk_oI (kk_qAt S (nI b) (nI k)))]) rfl ?_
              refine W.eq (g2 := F0 m 134 ls [.int (-1)]) (by rw [show (fk_oI (kk_qAt S (nI b) (nI k))) = ((-1) : Int32) from (by rw [kq_qAt hJ b (by omega), (kq_stop hk).1]; rfl)]) ?_
              refine lv_iconst (v := (-1)) hx hb dL_threads_134 (by decide) ?_
              refine lv_icmp_eq (tgt := 184) hx hb dL_threads_135 (by decide) (fun _ => ?_) (fun c => absurd c (by decide))
              refine lv_iinc (v := (nI (b + 1))) (lv' := [(4, .int (nI (b + 1))), (5, .int (nI k)), (2, .long x), (0, .ref (ad 0)), (1, .int but)]) hx hb dL_threads_184 hl (k := 1) rfl (nI_1 b) (by decide) rfl (fun ls hl => ?_)
              refine lv_goto (tgt := 117) hx hb dL_threads_187 (by decide) ?_
              exact ih (b + 1) x (by omega) ((congrArg (fk_lp _ n (b + 1)) (show x = pl_qs S but b h from by rw [← hQ, (kq_stop hk).2]; rfl)).trans hR) _ _ _ hP hD hS (lv_sub hl [0, 2, 3, 4] rfl)
            | succ n2 ih2 =>
              intro k x hk hQ H locs ls hP hD hS hl
              have h8 := kq_B8 S b
              obtain ⟨t, hgt, hdt⟩ := kq_step hk
              have ht := kq_B_lt hgt
              refine lv_aload_n hx hb dL_threads_126 rfl (lv_at hl 3 rfl) ?_
              refine lv_iload hx hb dL_threads_127 (lv_at hl 1 rfl) ?_
              refine lv_iload hx hb dL_threads_129 (lv_at hl 0 rfl) ?_
              refine fk_callV (As := [.int (nI b), .int (nI k)]) (rest := []) ⟨hx, hb, hml, hown, hts⟩ (kc_queueAt l D ad cI cT cJ _ S b (by omega) (nI k) (nI_pos' (by omega))) (cwV 2 hts gL_threads_X2_queueAt rfl rfl rfl (by decide +kernel) ⟨Nat.le_of_ble_eq_true rfl, Nat.le_of_ble_eq_true rfl⟩) (fk_rvK hK hP) hK hP hD hS hA rfl hl.1 rfl (Nat.le_of_ble_eq_true rfl) dL_threads_131 ⟨Nat.le_of_ble_eq_true rfl, Nat.le_of_ble_eq_true rfl⟩ (fun H locs hP hD hS => ?_)
              refine W.eq (g2 := F0 m 134 ls [.int (fk_oI (kk_qAt S (nI b) (nI k)))]) rfl ?_
              refine W.eq (g2 := F0 m 134 ls [.int (nI t)]) (by rw [show (fk_oI (kk_qAt S (nI b) (nI k))) = (nI t) from (by rw [kq_qAt hJ b (by omega), hgt]; rfl)]) ?_
              refine lv_iconst (v := (-1)) hx hb dL_threads_134 (by decide) ?_
              refine lv_icmp_eq (tgt := 184) hx hb dL_threads_135 (by decide) (fun c => absurd c (fk_nI_m1 (by omega))) (fun _ => ?_)
              refine lv_aload_n hx hb dL_threads_138 rfl (lv_at hl 3 rfl) ?_
              refine lv_iload hx hb dL_threads_139 (lv_at hl 1 rfl) ?_
              refine lv_iload hx hb dL_threads_141 (lv_at hl 0 rfl) ?_
              refine fk_callV (As := [.int (nI b), .int (nI k)]) (rest := []) ⟨hx, hb, hml, hown, hts⟩ (kc_queueAt l D ad cI cT cJ _ S b (by omega) (nI k) (nI_pos' (by omega))) (cwV 2 hts gL_threads_X2_queueAt rfl rfl rfl (by decide +kernel) ⟨Nat.le_of_ble_eq_true rfl, Nat.le_of_ble_eq_true rfl⟩) (fk_rvK hK hP) hK hP hD hS hA rfl hl.1 rfl (Nat.le_of_ble_eq_true rfl) dL_threads_143 ⟨Nat.le_of_ble_eq_true rfl, Nat.le_of_ble_eq_true rfl⟩ (fun H locs hP hD hS => ?_)
              refine W.eq (g2 := F0 m 146 ls [.int (fk_oI (kk_qAt S (nI b) (nI k)))]) rfl ?_
              refine W.eq (g2 := F0 m 146 ls [.int (nI t)]) (by rw [show (fk_oI (kk_qAt S (nI b) (nI k))) = (nI t) from (by rw [kq_qAt hJ b (by omega), hgt]; rfl)]) ?_
              refine lv_iload_n hx hb dL_threads_146 rfl (lv_at hl 4 rfl) ?_
              refine lv_icmp_ne (tgt := 154) hx hb dL_threads_147 (by decide) (fun c_5 => ?_) (fun c_5 => ?_)
              · refine lv_lload_n hx hb dL_threads_154 rfl (lv_at hl 2 rfl) ?_
                refine lv_ldc2 (own := RL) (v := 11) hx hb hown (hts (.constantLong RL 100 (11)) (List.mem_of_getElem? (i := 5) rfl)) dL_threads_155 ?_
                refine lv_lmul hx hb dL_threads_158 ?_
                refine lv_ldc2 (own := RL) (v := 3) hx hb hown (hts (.constantLong RL 102 (3)) (List.mem_of_getElem? (i := 6) rfl)) dL_threads_159 ?_
                refine lv_iload hx hb dL_threads_162 (lv_at hl 1 rfl) ?_
                refine lv_i2l hx hb dL_threads_164 rfl ?_
                refine lv_lmul hx hb dL_threads_165 ?_
                refine lv_ladd hx hb dL_threads_166 ?_
                refine lv_aload_n hx hb dL_threads_167 rfl (lv_at hl 3 rfl) ?_
                refine lv_iload hx hb dL_threads_168 (lv_at hl 1 rfl) ?_
                refine lv_iload hx hb dL_threads_170 (lv_at hl 0 rfl) ?_
                refine fk_callV (As := [.int (nI b), .int (nI k)]) (rest := [.long ((x * 11) + (3 * ((nI b).toInt64)))]) ⟨hx, hb, hml, hown, hts⟩ (kc_queueAt l D ad cI cT cJ _ S b (by omega) (nI k) (nI_pos' (by omega))) (cwV 2 hts gL_threads_X2_queueAt rfl rfl rfl (by decide +kernel) ⟨Nat.le_of_ble_eq_true rfl, Nat.le_of_ble_eq_true rfl⟩) (fk_rvK hK hP) hK hP hD hS hA rfl hl.1 rfl (Nat.le_of_ble_eq_true rfl) dL_threads_172 ⟨Nat.le_of_ble_eq_true rfl, Nat.le_of_ble_eq_true rfl⟩ (fun H locs hP hD hS => ?_)
                refine W.eq (g2 := F0 m 175 ls [.int (fk_oI (kk_qAt S (nI b) (nI k))), .long ((x * 11) + (3 * ((nI b).toInt64)))]) rfl ?_
                refine W.eq (g2 := F0 m 175 ls [.int (nI t), .long ((x * 11) + (3 * ((nI b).toInt64)))]) (by rw [show (fk_oI (kk_qAt S (nI b) (nI k))) = (nI t) from (by rw [kq_qAt hJ b (by omega), hgt]; rfl)]) ?_
                refine lv_i2l hx hb dL_threads_175 rfl ?_
                refine lv_ladd hx hb dL_threads_176 ?_
                refine lv_lstore_n (lv' := [(2, .long (((x * 11) + (3 * ((nI b).toInt64))) + ((nI t).toInt64))), (5, .int (nI k)), (4, .int (nI b)), (0, .ref (ad 0)), (1, .int but)]) hx hb dL_threads_177 rfl hl (by decide) rfl (fun ls hl => ?_)
                refine lv_iinc (v := (nI (k + 1))) (lv' := [(5, .int (nI (k + 1))), (2, .long (((x * 11) + (3 * ((nI b).toInt64))) + ((nI t).toInt64))), (4, .int (nI b)), (0, .ref (ad 0)), (1, .int but)]) hx hb dL_threads_178 hl (k := 1) rfl (nI_1 k) (by decide) rfl (fun ls hl => ?_)
                refine lv_goto (tgt := 126) hx hb dL_threads_181 (by decide) ?_
                exact ih2 (k + 1) (((x * 11) + (3 * ((nI b).toInt64))) + ((nI t).toInt64)) (by omega) (by rw [← hQ, hdt, List.foldl_cons]; exact congrArg (fun z => List.foldl (pl_q1 but b) z _) (show (((x * 11) + (3 * ((nI b).toInt64))) + ((nI t).toInt64)) = pl_q1 but b x t from by simp [pl_q1, c_5])) _ _ _ hP hD hS (lv_sub hl [0, 2, 1, 3, 4] rfl)
              · refine lv_lload_n hx hb dL_threads_150 rfl (lv_at hl 2 rfl) ?_
                refine lv_goto (tgt := 177) hx hb dL_threads_151 (by decide) ?_
                refine lv_lstore_n (lv' := [(2, .long x), (5, .int (nI k)), (4, .int (nI b)), (0, .ref (ad 0)), (1, .int but)]) hx hb dL_threads_177 rfl hl (by decide) rfl (fun ls hl => ?_)
                refine lv_iinc (v := (nI (k + 1))) (lv' := [(5, .int (nI (k + 1))), (2, .long x), (4, .int (nI b)), (0, .ref (ad 0)), (1, .int but)]) hx hb dL_threads_178 hl (k := 1) rfl (nI_1 k) (by decide) rfl (fun ls hl => ?_)
                refine lv_goto (tgt := 126) hx hb dL_threads_181 (by decide) ?_
                exact ih2 (k + 1) x (by omega) (by rw [← hQ, hdt, List.foldl_cons]; exact congrArg (fun z => List.foldl (pl_q1 but b) z _) (show x = pl_q1 but b x t from by simp [pl_q1, c_5])) _ _ _ hP hD hS (lv_sub hl [0, 2, 1, 3, 4] rfl)
          exact loopQ (kq_B S b).length 0 h (by omega) rfl _ _ _ hP hD hS (lv_sub hl [0, 1, 2, 3, 4] rfl)
      exact loopB 4 0 h rfl (by unfold pl_thr; rw [← hR]; rfl) _ _ _ hP hD hS (lv_sub hl [0, 1, 2, 3] rfl)
    | succ n ih =>
      intro i h hi hR H locs ls hP hD hS hl
      refine lv_iload hx hb dL_threads_9 (lv_at hl 0 rfl) ?_
      refine lv_bipush (v := 8) hx hb dL_threads_11 (by decide) ?_
      refine lv_icmp_ge (tgt := 114) hx hb dL_threads_13 (by decide) (fun c_6 => absurd c_6 (nI_ge (a := i) (b := 8) (by omega) (by omega))) (fun c_6 => ?_)
      refine lv_iload hx hb dL_threads_16 (lv_at hl 0 rfl) ?_
      refine lv_iload_n hx hb dL_threads_18 rfl (lv_at hl 3 rfl) ?_
      refine lv_icmp_eq (tgt := 108) hx hb dL_threads_19 (by decide) (fun c_7 => ?_) (fun c_7 => ?_)
      · refine lv_iinc (v := (nI (i + 1))) (lv' := [(4, .int (nI (i + 1))), (2, .long h), (0, .ref (ad 0)), (1, .int but)]) hx hb dL_threads_108 hl (k := 0) rfl (nI_1 i) (by decide) rfl (fun ls hl => ?_)
        refine lv_goto (tgt := 9) hx hb dL_threads_111 (by decide) ?_
        exact ih (i + 1) h (by omega) ((congrArg (fk_lp _ n (i + 1)) (show h = pl_t1 S but i h from by unfold pl_t1; rw [if_pos c_7])).trans hR) _ _ _ hP hD hS (lv_sub hl [0, 1, 2, 3] rfl)
      · refine lv_lload_n hx hb dL_threads_22 rfl (lv_at hl 1 rfl) ?_
        refine lv_ldc2 (own := RL) (v := 5) hx hb hown (hts (.constantLong RL 71 (5)) (List.mem_of_getElem? (i := 1) rfl)) dL_threads_23 ?_
        refine lv_lmul hx hb dL_threads_26 ?_
        refine lv_aload_n hx hb dL_threads_27 rfl (lv_at hl 2 rfl) ?_
        refine lv_iload hx hb dL_threads_28 (lv_at hl 0 rfl) ?_
        refine fk_callV (As := [.int (nI i)]) (rest := [.long (h * 5)]) ⟨hx, hb, hml, hown, hts⟩ (kc_stateOf l D ad cI cT cJ _ S i (by omega)) (cwV 1 hts gL_threads_X2_stateOf rfl rfl rfl (by decide +kernel) ⟨Nat.le_of_ble_eq_true rfl, Nat.le_of_ble_eq_true rfl⟩) (fk_rvK hK hP) hK hP hD hS hA rfl hl.1 rfl (Nat.le_of_ble_eq_true rfl) dL_threads_30 ⟨Nat.le_of_ble_eq_true rfl, Nat.le_of_ble_eq_true rfl⟩ (fun H locs hP hD hS => ?_)
        refine W.eq (g2 := F0 m 33 ls [.int (S 1 i), .long (h * 5)]) rfl ?_
        refine lv_i2l hx hb dL_threads_33 rfl ?_
        refine lv_ladd hx hb dL_threads_34 ?_
        refine lv_ldc2 (own := RL) (v := 17) hx hb hown (hts (.constantLong RL 76 (17)) (List.mem_of_getElem? (i := 2) rfl)) dL_threads_35 ?_
        refine lv_lmul hx hb dL_threads_38 ?_
        refine lv_aload_n hx hb dL_threads_39 rfl (lv_at hl 2 rfl) ?_
        refine lv_iload hx hb dL_threads_40 (lv_at hl 0 rfl) ?_
        refine fk_callV (As := [.int (nI i)]) (rest := [.long (((h * 5) + ((S 1 i).toInt64)) * 17)]) ⟨hx, hb, hml, hown, hts⟩ (kc_addressOf l D ad cI cT cJ _ S i (by omega)) (cwV 1 hts gL_threads_X2_addressOf rfl rfl rfl (by decide +kernel) ⟨Nat.le_of_ble_eq_true rfl, Nat.le_of_ble_eq_true rfl⟩) (fk_rvK hK hP) hK hP hD hS hA rfl hl.1 rfl (Nat.le_of_ble_eq_true rfl) dL_threads_42 ⟨Nat.le_of_ble_eq_true rfl, Nat.le_of_ble_eq_true rfl⟩ (fun H locs hP hD hS => ?_)
        refine W.eq (g2 := F0 m 45 ls [.int (S 3 i), .long (((h * 5) + ((S 1 i).toInt64)) * 17)]) rfl ?_
        refine lv_i2l hx hb dL_threads_45 rfl ?_
        refine lv_ladd hx hb dL_threads_46 ?_
        refine lv_ldc2 (own := RL) (v := 7) hx hb hown (hts (.constantLong RL 81 (7)) (List.mem_of_getElem? (i := 3) rfl)) dL_threads_47 ?_
        refine lv_lmul hx hb dL_threads_50 ?_
        refine lv_aload_n hx hb dL_threads_51 rfl (lv_at hl 2 rfl) ?_
        refine lv_iload hx hb dL_threads_52 (lv_at hl 0 rfl) ?_
        refine fk_callV (As := [.int (nI i)]) (rest := [.long (((((h * 5) + ((S 1 i).toInt64)) * 17) + ((S 3 i).toInt64)) * 7)]) ⟨hx, hb, hml, hown, hts⟩ (kc_resultOf l D ad cI cT cJ _ S i (by omega)) (cwV 1 hts gL_threads_X2_resultOf rfl rfl rfl (by decide +kernel) ⟨Nat.le_of_ble_eq_true rfl, Nat.le_of_ble_eq_true rfl⟩) (fk_rvK hK hP) hK hP hD hS hA rfl hl.1 rfl (Nat.le_of_ble_eq_true rfl) dL_threads_54 ⟨Nat.le_of_ble_eq_true rfl, Nat.le_of_ble_eq_true rfl⟩ (fun H locs hP hD hS => ?_)
        refine W.eq (g2 := F0 m 57 ls [.int (S 8 i), .long (((((h * 5) + ((S 1 i).toInt64)) * 17) + ((S 3 i).toInt64)) * 7)]) rfl ?_
        refine lv_i2l hx hb dL_threads_57 rfl ?_
        refine lv_ladd hx hb dL_threads_58 ?_
        refine lv_ldc2 (own := RL) (v := 1009) hx hb hown (hts (.constantLong RL 86 (1009)) (List.mem_of_getElem? (i := 4) rfl)) dL_threads_59 ?_
        refine lv_lmul hx hb dL_threads_62 ?_
        refine lv_aload_n hx hb dL_threads_63 rfl (lv_at hl 2 rfl) ?_
        refine lv_iload hx hb dL_threads_64 (lv_at hl 0 rfl) ?_
        refine fk_callV (As := [.int (nI i)]) (rest := [.long (((((((h * 5) + ((S 1 i).toInt64)) * 17) + ((S 3 i).toInt64)) * 7) + ((S 8 i).toInt64)) * 1009)]) ⟨hx, hb, hml, hown, hts⟩ (kc_serialOf l D ad cI cT cJ _ S i (by omega)) (cwV 1 hts gL_threads_X2_serialOf rfl rfl rfl (by decide +kernel) ⟨Nat.le_of_ble_eq_true rfl, Nat.le_of_ble_eq_true rfl⟩) (fk_rvK hK hP) hK hP hD hS hA rfl hl.1 rfl (Nat.le_of_ble_eq_true rfl) dL_threads_66 ⟨Nat.le_of_ble_eq_true rfl, Nat.le_of_ble_eq_true rfl⟩ (fun H locs hP hD hS => ?_)
        refine W.eq (g2 := F0 m 69 ls [.int (S 9 i), .long (((((((h * 5) + ((S 1 i).toInt64)) * 17) + ((S 3 i).toInt64)) * 7) + ((S 8 i).toInt64)) * 1009)]) rfl ?_
        refine lv_i2l hx hb dL_threads_69 rfl ?_
        refine lv_ladd hx hb dL_threads_70 ?_
        refine lv_lstore_n (lv' := [(2, .long ((((((((h * 5) + ((S 1 i).toInt64)) * 17) + ((S 3 i).toInt64)) * 7) + ((S 8 i).toInt64)) * 1009) + ((S 9 i).toInt64))), (4, .int (nI i)), (0, .ref (ad 0)), (1, .int but)]) hx hb dL_threads_71 rfl hl (by decide) rfl (fun ls hl => ?_)
        refine lv_iconst (v := 0) hx hb dL_threads_72 (by decide) ?_
        refine lv_istore (lv' := [(5, .int 0), (2, .long ((((((((h * 5) + ((S 1 i).toInt64)) * 17) + ((S 3 i).toInt64)) * 7) + ((S 8 i).toInt64)) * 1009) + ((S 9 i).toInt64))), (4, .int (nI i)), (0, .ref (ad 0)), (1, .int but)]) hx hb dL_threads_73 hl (by decide) rfl (fun ls hl => ?_)
        obtain ⟨K9, hK9, eK9⟩ := hsz i (by omega)
        have loop2 : ∀ (n2 : Nat) (k : Nat) (x : Int64), k + n2 = K9 → pl_lk S i n2 k x = pl_t1 S but i h → ∀ (H : Heap) (locs : List Loc) (ls : Array Slot), va_P D vwCl (fk_kW ad cI cT S ++ X) H → va_D A (fk_kW ad cI cT S ++ X) → va_S A s.heap H locs → lv_has ls 6 [(5, .int (nI k)), (4, .int (nI i)), (2, .long x), (0, .ref (ad 0)), (1, .int but)] → W p l e rmL_threads s m ([.ref (ad 0), .int but] : List Value).toArray below meth c H locs 0 0 (fk_Q below D (fk_ty cI cT cJ) [.ref (ad 0), .int but] s A (fk_kW ad cI cT S ++ X) (some (.long (pl_thr S but)))) (F0 m 75 ls []) := by
          intro n2
          induction n2 with
          | zero =>
            intro k x hk hQ H locs ls hP hD hS hl
            refine lv_iload hx hb dL_threads_75 (lv_at hl 0 rfl) ?_
            refine lv_aload_n hx hb dL_threads_77 rfl (lv_at hl 3 rfl) ?_
            refine lv_iload hx hb dL_threads_78 (lv_at hl 1 rfl) ?_
            refine fk_callV (As := [.int (nI i)]) (rest := [.int (nI k)]) ⟨hx, hb, hml, hown, hts⟩ (kc_locks l D ad cI cT cJ _ S i (by omega)) (cwV 1 hts gL_threads_X2_locks rfl rfl rfl (by decide +kernel) ⟨Nat.le_of_ble_eq_true rfl, Nat.le_of_ble_eq_true rfl⟩) (fk_rvK hK hP) hK hP hD hS hA rfl hl.1 rfl (Nat.le_of_ble_eq_true rfl) dL_threads_80 ⟨Nat.le_of_ble_eq_true rfl, Nat.le_of_ble_eq_true rfl⟩ (fun H locs hP hD hS => ?_)
            refine W.eq (g2 := F0 m 83 ls [.int (S 10 i), .int (nI k)]) rfl ?_
            refine W.eq (g2 := F0 m 83 ls [.int (nI K9), .int (nI k)]) (by rw [show (S 10 i) = (nI K9) from eK9]) ?_
            refine lv_icmp_ge (tgt := 108) hx hb dL_threads_83 (by decide) (fun c_8 => ?_) (fun c_8 => absurd (nI_le (a := K9) (b := k) (by omega) (by omega)) c_8)
            refine lv_iinc (v := (nI (i + 1))) (lv' := [(4, .int (nI (i + 1))), (5, .int (nI k)), (2, .long x), (0, .ref (ad 0)), (1, .int but)]) hx hb dL_threads_108 hl (k := 1) rfl (nI_1 i) (by decide) rfl (fun ls hl => ?_)
            refine lv_goto (tgt := 9) hx hb dL_threads_111 (by decide) ?_
            exact ih (i + 1) x (by omega) ((congrArg (fk_lp _ n (i + 1)) hQ).trans hR) _ _ _ hP hD hS (lv_sub hl [0, 2, 3, 4] rfl)
          | succ n2 ih2 =>
            intro k x hk hQ H locs ls hP hD hS hl
            refine lv_iload hx hb dL_threads_75 (lv_at hl 0 rfl) ?_
            refine lv_aload_n hx hb dL_threads_77 rfl (lv_at hl 3 rfl) ?_
            refine lv_iload hx hb dL_threads_78 (lv_at hl 1 rfl) ?_
            refine fk_callV (As := [.int (nI i)]) (rest := [.int (nI k)]) ⟨hx, hb, hml, hown, hts⟩ (kc_locks l D ad cI cT cJ _ S i (by omega)) (cwV 1 hts gL_threads_X2_locks rfl rfl rfl (by decide +kernel) ⟨Nat.le_of_ble_eq_true rfl, Nat.le_of_ble_eq_true rfl⟩) (fk_rvK hK hP) hK hP hD hS hA rfl hl.1 rfl (Nat.le_of_ble_eq_true rfl) dL_threads_80 ⟨Nat.le_of_ble_eq_true rfl, Nat.le_of_ble_eq_true rfl⟩ (fun H locs hP hD hS => ?_)
            refine W.eq (g2 := F0 m 83 ls [.int (S 10 i), .int (nI k)]) rfl ?_
            refine W.eq (g2 := F0 m 83 ls [.int (nI K9), .int (nI k)]) (by rw [show (S 10 i) = (nI K9) from eK9]) ?_
            refine lv_icmp_ge (tgt := 108) hx hb dL_threads_83 (by decide) (fun c_9 => absurd c_9 (nI_ge (a := k) (b := K9) (by omega) (by omega))) (fun c_9 => ?_)
            refine lv_lload_n hx hb dL_threads_86 rfl (lv_at hl 2 rfl) ?_
            refine lv_ldc2 (own := RL) (v := 17) hx hb hown (hts (.constantLong RL 76 (17)) (List.mem_of_getElem? (i := 2) rfl)) dL_threads_87 ?_
            refine lv_lmul hx hb dL_threads_90 ?_
            refine lv_aload_n hx hb dL_threads_91 rfl (lv_at hl 3 rfl) ?_
            refine lv_iload hx hb dL_threads_92 (lv_at hl 1 rfl) ?_
            refine lv_iload hx hb dL_threads_94 (lv_at hl 0 rfl) ?_
            refine fk_callV (As := [.int (nI i), .int (nI k)]) (rest := [.long (x * 17)]) ⟨hx, hb, hml, hown, hts⟩ (kc_lockAt l D ad cI cT cJ _ S i (by omega) (nI k) hsz ⟨nI_pos' (by omega), by rw [eK9]; exact nI_lt (by omega) (by omega)⟩) (cwV 2 hts gL_threads_X2_lockAt rfl rfl rfl (by decide +kernel) ⟨Nat.le_of_ble_eq_true rfl, Nat.le_of_ble_eq_true rfl⟩) (fk_rvK hK hP) hK hP hD hS hA rfl hl.1 rfl (Nat.le_of_ble_eq_true rfl) dL_threads_96 ⟨Nat.le_of_ble_eq_true rfl, Nat.le_of_ble_eq_true rfl⟩ (fun H locs hP hD hS => ?_)
            refine W.eq (g2 := F0 m 99 ls [.int (kk_addrAt S i (nI k)), .long (x * 17)]) rfl ?_
            refine lv_i2l hx hb dL_threads_99 rfl ?_
            refine lv_ladd hx hb dL_threads_100 ?_
            refine lv_lstore_n (lv' := [(2, .long ((x * 17) + ((kk_addrAt S i (nI k)).toInt64))), (5, .int (nI k)), (4, .int (nI i)), (0, .ref (ad 0)), (1, .int but)]) hx hb dL_threads_101 rfl hl (by decide) rfl (fun ls hl => ?_)
            refine lv_iinc (v := (nI (k + 1))) (lv' := [(5, .int (nI (k + 1))), (2, .long ((x * 17) + ((kk_addrAt S i (nI k)).toInt64))), (4, .int (nI i)), (0, .ref (ad 0)), (1, .int but)]) hx hb dL_threads_102 hl (k := 1) rfl (nI_1 k) (by decide) rfl (fun ls hl => ?_)
            refine lv_goto (tgt := 75) hx hb dL_threads_105 (by decide) ?_
            exact ih2 (k + 1) ((x * 17) + ((kk_addrAt S i (nI k)).toInt64)) (by omega) hQ _ _ _ hP hD hS (lv_sub hl [0, 2, 1, 3, 4] rfl)
        exact loop2 K9 0 ((((((((h * 5) + ((S 1 i).toInt64)) * 17) + ((S 3 i).toInt64)) * 7) + ((S 8 i).toInt64)) * 1009) + ((S 9 i).toInt64)) (by omega) (by unfold pl_t1; rw [if_neg c_7, eK9, nI_clamp (by omega)]) _ _ _ hP hD hS (lv_sub hl [0, 2, 1, 3, 4] rfl)
  exact loop 8 0 _ rfl rfl _ _ _ hP hD hS (lv_sub hl [0, 1, 2, 3] rfl)

abbrev rmL_joined : Room := { frames := 3, cells := 0, slots := 0, locals := 73 }
set_option maxHeartbeats 4000000 in
set_option maxRecDepth 100000 in
theorem kl_joined (l : Launch) (D : va_G) (ad : Nat → Nat) (cI cT cJ : ClassId) (X : va_W) (S : fk_S) (q : Nat) (P : Nat → Int32) (t a : Nat) (hJ : kq_J S) (hJd : kq_Jd S t a) (hp : ∀ u, u < 8 → P u = S 2 u) : fk_C l D (fk_ty cI cT cJ) yL_joined wsL_joined rmL_joined [.ref (ad 0), .ref q, .int (nI t), .int (nI a)] (fk_kW ad cI cT S ++ (q, fk_pr cI P) :: X) (some (.int 1)) (fk_kW ad cI cT S ++ (q, fk_pr cI P) :: X) := by
  refine fk_C_of (cc := cL_joined) (maxL := 8) (ret := (some .boolean)) (own := RL) (by decide) rfl rfl (Nat.le_of_ble_eq_true rfl) ?_
  intro p e s m below meth c A ls hx hb hr hlocks hml hts hown hA hP hK hD hl
  have hS : va_S A s.heap s.heap [] := va_S.rf
  have hl : lv_has ls 8 [(0, .ref (ad 0)), (1, .ref q), (2, .int (nI t)), (3, .int (nI a))] := hl
  obtain ⟨i0, hi0⟩ := List.getElem?_of_mem hJd.at
  have hil := (List.getElem?_eq_some_iff.mp hi0).1
  have h8 := kq_B8 S (pl_bkt a)
  have h89 := hJd.1
  have h16 := hJd.2.1
  refine lv_iload_n hx hb dL_joined_0 rfl (lv_at hl 3 rfl) ?_
  refine fk_callS (As := [.int (nI a)]) (rest := []) ⟨hx, hb, hml, hown, hts⟩ (kl_bucket l D ad cI cT cJ _ S (nI a)) (va_cwS 1 hts gL_joined_L_bucket rfl rfl rfl (by decide +kernel) ⟨Nat.le_of_ble_eq_true rfl, Nat.le_of_ble_eq_true rfl⟩) hK hP hD hS hA rfl hl.1 rfl (Nat.le_of_ble_eq_true rfl) dL_joined_1 ⟨Nat.le_of_ble_eq_true rfl, Nat.le_of_ble_eq_true rfl⟩ (fun H locs hP hD hS => ?_)
  refine W.eq (g2 := F0 m 4 ls [.int (fk_bkt (nI a))]) rfl ?_
  refine W.eq (g2 := F0 m 4 ls [.int (nI (pl_bkt a))]) (by rw [show (fk_bkt (nI a)) = (nI (pl_bkt a)) from (fk_bkt_N (by have := hJd.2.1; omega))]) ?_
  refine lv_istore (lv' := [(4, .int (nI (pl_bkt a))), (0, .ref (ad 0)), (1, .ref q), (2, .int (nI t)), (3, .int (nI a))]) hx hb dL_joined_4 hl (by decide) rfl (fun ls hl => ?_)
  refine lv_iconst (v := 0) hx hb dL_joined_6 (by decide) ?_
  refine lv_istore (lv' := [(5, .int 0), (4, .int (nI (pl_bkt a))), (0, .ref (ad 0)), (1, .ref q), (2, .int (nI t)), (3, .int (nI a))]) hx hb dL_joined_7 hl (by decide) rfl (fun ls hl => ?_)
  have loop : ∀ (n : Nat) (k : Nat), k + n = i0 → ∀ (H : Heap) (locs : List Loc) (ls : Array Slot), va_P D vwCl (fk_kW ad cI cT S ++ (q, fk_pr cI P) :: X) H → va_D A (fk_kW ad cI cT S ++ (q, fk_pr cI P) :: X) → va_S A s.heap H locs → lv_has ls 8 [(5, .int (nI k)), (4, .int (nI (pl_bkt a))), (0, .ref (ad 0)), (1, .ref q), (2, .int (nI t)), (3, .int (nI a))] → W p l e rmL_joined s m ([.ref (ad 0), .ref q, .int (nI t), .int (nI a)] : List Value).toArray below meth c H locs 0 0 (fk_Q below D (fk_ty cI cT cJ) [.ref (ad 0), .ref q, .int (nI t), .int (nI a)] s A (fk_kW ad cI cT S ++ (q, fk_pr cI P) :: X) (some (.int 1))) (F0 m 9 ls []) := by
    intro n
    induction n with
    | zero =>
      intro k hk H locs ls hP hD hS hl
      refine lv_aload_n hx hb dL_joined_9 rfl (lv_at hl 2 rfl) ?_
      refine lv_iload hx hb dL_joined_10 (lv_at hl 1 rfl) ?_
      refine lv_iload hx hb dL_joined_12 (lv_at hl 0 rfl) ?_
      refine fk_callV (As := [.int (nI (pl_bkt a)), .int (nI k)]) (rest := []) ⟨hx, hb, hml, hown, hts⟩ (kc_queueAt l D ad cI cT cJ _ S (pl_bkt a) (pl_bkt_lt a) (nI k) (nI_pos' (by omega))) (cwV 2 hts gL_joined_X2_queueAt rfl rfl rfl (by decide +kernel) ⟨Nat.le_of_ble_eq_true rfl, Nat.le_of_ble_eq_true rfl⟩) (fk_rvK hK hP) hK hP hD hS hA rfl hl.1 rfl (Nat.le_of_ble_eq_true rfl) dL_joined_14 ⟨Nat.le_of_ble_eq_true rfl, Nat.le_of_ble_eq_true rfl⟩ (fun H locs hP hD hS => ?_)
      refine W.eq (g2 := F0 m 17 ls [.int (fk_oI (kk_qAt S (nI (pl_bkt a)) (nI k)))]) rfl ?_
      refine W.eq (g2 := F0 m 17 ls [.int (nI t)]) (by rw [show (fk_oI (kk_qAt S (nI (pl_bkt a)) (nI k))) = (nI t) from (by rw [kq_qAt hJ _ (by omega), show k = i0 by omega, hi0]; rfl)]) ?_
      refine lv_iconst (v := (-1)) hx hb dL_joined_17 (by decide) ?_
      refine lv_icmp_eq (tgt := 39) hx hb dL_joined_18 (by decide) (fun c => absurd c (fk_nI_m1 (by omega))) (fun _ => ?_)
      refine lv_aload_n hx hb dL_joined_21 rfl (lv_at hl 2 rfl) ?_
      refine lv_iload hx hb dL_joined_22 (lv_at hl 1 rfl) ?_
      refine lv_iload hx hb dL_joined_24 (lv_at hl 0 rfl) ?_
      refine fk_callV (As := [.int (nI (pl_bkt a)), .int (nI k)]) (rest := []) ⟨hx, hb, hml, hown, hts⟩ (kc_queueAt l D ad cI cT cJ _ S (pl_bkt a) (pl_bkt_lt a) (nI k) (nI_pos' (by omega))) (cwV 2 hts gL_joined_X2_queueAt rfl rfl rfl (by decide +kernel) ⟨Nat.le_of_ble_eq_true rfl, Nat.le_of_ble_eq_true rfl⟩) (fk_rvK hK hP) hK hP hD hS hA rfl hl.1 rfl (Nat.le_of_ble_eq_true rfl) dL_joined_26 ⟨Nat.le_of_ble_eq_true rfl, Nat.le_of_ble_eq_true rfl⟩ (fun H locs hP hD hS => ?_)
      refine W.eq (g2 := F0 m 29 ls [.int (fk_oI (kk_qAt S (nI (pl_bkt a)) (nI k)))]) rfl ?_
      refine W.eq (g2 := F0 m 29 ls [.int (nI t)]) (by rw [show (fk_oI (kk_qAt S (nI (pl_bkt a)) (nI k))) = (nI t) from (by rw [kq_qAt hJ _ (by omega), show k = i0 by omega, hi0]; rfl)]) ?_
      refine lv_iload_n hx hb dL_joined_29 rfl (lv_at hl 4 rfl) ?_
      refine lv_icmp_eq (tgt := 39) hx hb dL_joined_30 (by decide) (fun _ => ?_) (fun c => absurd rfl c)
      refine lv_aload_n hx hb dL_joined_39 rfl (lv_at hl 2 rfl) ?_
      refine lv_iload hx hb dL_joined_40 (lv_at hl 1 rfl) ?_
      refine lv_iload hx hb dL_joined_42 (lv_at hl 0 rfl) ?_
      refine fk_callV (As := [.int (nI (pl_bkt a)), .int (nI k)]) (rest := []) ⟨hx, hb, hml, hown, hts⟩ (kc_queueAt l D ad cI cT cJ _ S (pl_bkt a) (pl_bkt_lt a) (nI k) (nI_pos' (by omega))) (cwV 2 hts gL_joined_X2_queueAt rfl rfl rfl (by decide +kernel) ⟨Nat.le_of_ble_eq_true rfl, Nat.le_of_ble_eq_true rfl⟩) (fk_rvK hK hP) hK hP hD hS hA rfl hl.1 rfl (Nat.le_of_ble_eq_true rfl) dL_joined_44 ⟨Nat.le_of_ble_eq_true rfl, Nat.le_of_ble_eq_true rfl⟩ (fun H locs hP hD hS => ?_)
      refine W.eq (g2 := F0 m 47 ls [.int (fk_oI (kk_qAt S (nI (pl_bkt a)) (nI k)))]) rfl ?_
      refine W.eq (g2 := F0 m 47 ls [.int (nI t)]) (by rw [show (fk_oI (kk_qAt S (nI (pl_bkt a)) (nI k))) = (nI t) from (by rw [kq_qAt hJ _ (by omega), show k = i0 by omega, hi0]; rfl)]) ?_
      refine lv_iload_n hx hb dL_joined_47 rfl (lv_at hl 4 rfl) ?_
      refine lv_icmp_ne (tgt := 64) hx hb dL_joined_48 (by decide) (fun c => absurd rfl c) (fun _ => ?_)
      refine lv_aload_n hx hb dL_joined_51 rfl (lv_at hl 2 rfl) ?_
      refine lv_iload_n hx hb dL_joined_52 rfl (lv_at hl 4 rfl) ?_
      refine fk_callV (As := [.int (nI t)]) (rest := []) ⟨hx, hb, hml, hown, hts⟩ (kc_addressOf l D ad cI cT cJ _ S t hJd.1) (cwV 1 hts gL_joined_X2_addressOf rfl rfl rfl (by decide +kernel) ⟨Nat.le_of_ble_eq_true rfl, Nat.le_of_ble_eq_true rfl⟩) (fk_rvK hK hP) hK hP hD hS hA rfl hl.1 rfl (Nat.le_of_ble_eq_true rfl) dL_joined_53 ⟨Nat.le_of_ble_eq_true rfl, Nat.le_of_ble_eq_true rfl⟩ (fun H locs hP hD hS => ?_)
      refine W.eq (g2 := F0 m 56 ls [.int (S 3 t)]) rfl ?_
      refine W.eq (g2 := F0 m 56 ls [.int (nI a)]) (by rw [show (S 3 t) = (nI a) from hJd.2.2.1]) ?_
      refine lv_iload_n hx hb dL_joined_56 rfl (lv_at hl 5 rfl) ?_
      refine lv_icmp_ne (tgt := 64) hx hb dL_joined_57 (by decide) (fun c => absurd rfl c) (fun _ => ?_)
      refine lv_iconst (v := 1) hx hb dL_joined_60 (by decide) ?_
      refine lv_goto (tgt := 65) hx hb dL_joined_61 (by decide) ?_
      refine lv_istore (lv' := [(6, .int 1), (5, .int (nI k)), (4, .int (nI (pl_bkt a))), (0, .ref (ad 0)), (1, .ref q), (2, .int (nI t)), (3, .int (nI a))]) hx hb dL_joined_65 hl (by decide) rfl (fun ls hl => ?_)
      refine lv_iload hx hb dL_joined_67 (lv_at hl 1 rfl) ?_
      refine lv_iconst (v := 1) hx hb dL_joined_69 (by decide) ?_
      refine lv_iadd hx hb dL_joined_70 ?_
      refine W.eq (g2 := F0 m 71 ls [.int (nI (k + 1))]) (by rw [nI_1]) ?_
      refine lv_istore (lv' := [(7, .int (nI (k + 1))), (6, .int 1), (5, .int (nI k)), (4, .int (nI (pl_bkt a))), (0, .ref (ad 0)), (1, .ref q), (2, .int (nI t)), (3, .int (nI a))]) hx hb dL_joined_71 hl (by decide) rfl (fun ls hl => ?_)
      have loop2 : ∀ (n2 : Nat) (j : Nat), i0 < j → j + n2 = (kq_B S (pl_bkt a)).length → ∀ (H : Heap) (locs : List Loc) (ls : Array Slot), va_P D vwCl (fk_kW ad cI cT S ++ (q, fk_pr cI P) :: X) H → va_D A (fk_kW ad cI cT S ++ (q, fk_pr cI P) :: X) → va_S A s.heap H locs → lv_has ls 8 [(7, .int (nI j)), (6, .int 1), (4, .int (nI (pl_bkt a))), (0, .ref (ad 0)), (1, .ref q), (2, .int (nI t)), (3, .int (nI a))] → W p l e rmL_joined s m ([.ref (ad 0), .ref q, .int (nI t), .int (nI a)] : List Value).toArray below meth c H locs 0 0 (fk_Q below D (fk_ty cI cT cJ) [.ref (ad 0), .ref q, .int (nI t), .int (nI a)] s A (fk_kW ad cI cT S ++ (q, fk_pr cI P) :: X) (some (.int 1))) (F0 m 73 ls []) := by
        intro n2
        induction n2 with
        | zero =>
          intro j hj hjn H locs ls hP hD hS hl
          refine lv_aload_n hx hb dL_joined_73 rfl (lv_at hl 3 rfl) ?_
          refine lv_iload hx hb dL_joined_74 (lv_at hl 2 rfl) ?_
          refine lv_iload hx hb dL_joined_76 (lv_at hl 0 rfl) ?_
          refine fk_callV (As := [.int (nI (pl_bkt a)), .int (nI j)]) (rest := []) ⟨hx, hb, hml, hown, hts⟩ (kc_queueAt l D ad cI cT cJ _ S (pl_bkt a) (pl_bkt_lt a) (nI j) (nI_pos' (by omega))) (cwV 2 hts gL_joined_X2_queueAt rfl rfl rfl (by decide +kernel) ⟨Nat.le_of_ble_eq_true rfl, Nat.le_of_ble_eq_true rfl⟩) (fk_rvK hK hP) hK hP hD hS hA rfl hl.1 rfl (Nat.le_of_ble_eq_true rfl) dL_joined_78 ⟨Nat.le_of_ble_eq_true rfl, Nat.le_of_ble_eq_true rfl⟩ (fun H locs hP hD hS => ?_)
          refine W.eq (g2 := F0 m 81 ls [.int (fk_oI (kk_qAt S (nI (pl_bkt a)) (nI j)))]) rfl ?_
          refine W.eq (g2 := F0 m 81 ls [.int (-1)]) (by rw [show (fk_oI (kk_qAt S (nI (pl_bkt a)) (nI j))) = ((-1) : Int32) from (by rw [kq_qAt hJ _ (by omega), (kq_stop hjn).1]; rfl)]) ?_
          refine lv_iconst (v := (-1)) hx hb dL_joined_81 (by decide) ?_
          refine lv_icmp_eq (tgt := 119) hx hb dL_joined_82 (by decide) (fun _ => ?_) (fun c => absurd c (by decide))
          refine lv_iload hx hb dL_joined_119 (lv_at hl 1 rfl) ?_
          exact fk_zret hx hb hr hlocks hP hK hD hS rfl rfl (by rfl) dL_joined_121
        | succ n2 ih2 =>
          intro j hj hjn H locs ls hP hD hS hl
          obtain ⟨v, hv, -⟩ := kq_step hjn
          obtain ⟨hv8, hlt⟩ := hJd.behind hJ hi0 hv hj
          refine lv_aload_n hx hb dL_joined_73 rfl (lv_at hl 3 rfl) ?_
          refine lv_iload hx hb dL_joined_74 (lv_at hl 2 rfl) ?_
          refine lv_iload hx hb dL_joined_76 (lv_at hl 0 rfl) ?_
          refine fk_callV (As := [.int (nI (pl_bkt a)), .int (nI j)]) (rest := []) ⟨hx, hb, hml, hown, hts⟩ (kc_queueAt l D ad cI cT cJ _ S (pl_bkt a) (pl_bkt_lt a) (nI j) (nI_pos' (by omega))) (cwV 2 hts gL_joined_X2_queueAt rfl rfl rfl (by decide +kernel) ⟨Nat.le_of_ble_eq_true rfl, Nat.le_of_ble_eq_true rfl⟩) (fk_rvK hK hP) hK hP hD hS hA rfl hl.1 rfl (Nat.le_of_ble_eq_true rfl) dL_joined_78 ⟨Nat.le_of_ble_eq_true rfl, Nat.le_of_ble_eq_true rfl⟩ (fun H locs hP hD hS => ?_)
          refine W.eq (g2 := F0 m 81 ls [.int (fk_oI (kk_qAt S (nI (pl_bkt a)) (nI j)))]) rfl ?_
          refine W.eq (g2 := F0 m 81 ls [.int (nI v)]) (by rw [show (fk_oI (kk_qAt S (nI (pl_bkt a)) (nI j))) = (nI v) from (by rw [kq_qAt hJ _ (by omega), hv]; rfl)]) ?_
          refine lv_iconst (v := (-1)) hx hb dL_joined_81 (by decide) ?_
          refine lv_icmp_eq (tgt := 119) hx hb dL_joined_82 (by decide) (fun c => absurd c (fk_nI_m1 (by omega))) (fun _ => ?_)
          refine lv_iload hx hb dL_joined_85 (lv_at hl 1 rfl) ?_
          refine lv_if_eq (tgt := 119) hx hb dL_joined_87 (by decide) (fun c => absurd c (by decide)) (fun _ => ?_)
          refine lv_aload_n hx hb dL_joined_90 rfl (lv_at hl 4 rfl) ?_
          refine lv_aload_n hx hb dL_joined_91 rfl (lv_at hl 3 rfl) ?_
          refine lv_iload hx hb dL_joined_92 (lv_at hl 2 rfl) ?_
          refine lv_iload hx hb dL_joined_94 (lv_at hl 0 rfl) ?_
          refine fk_callV (As := [.int (nI (pl_bkt a)), .int (nI j)]) (rest := [.ref q]) ⟨hx, hb, hml, hown, hts⟩ (kc_queueAt l D ad cI cT cJ _ S (pl_bkt a) (pl_bkt_lt a) (nI j) (nI_pos' (by omega))) (cwV 2 hts gL_joined_X2_queueAt rfl rfl rfl (by decide +kernel) ⟨Nat.le_of_ble_eq_true rfl, Nat.le_of_ble_eq_true rfl⟩) (fk_rvK hK hP) hK hP hD hS hA rfl hl.1 rfl (Nat.le_of_ble_eq_true rfl) dL_joined_96 ⟨Nat.le_of_ble_eq_true rfl, Nat.le_of_ble_eq_true rfl⟩ (fun H locs hP hD hS => ?_)
          refine W.eq (g2 := F0 m 99 ls [.int (fk_oI (kk_qAt S (nI (pl_bkt a)) (nI j))), .ref q]) rfl ?_
          refine W.eq (g2 := F0 m 99 ls [.int (nI v), .ref q]) (by rw [show (fk_oI (kk_qAt S (nI (pl_bkt a)) (nI j))) = (nI v) from (by rw [kq_qAt hJ _ (by omega), hv]; rfl)]) ?_
          refine va_iald hx hb hK hP 27 0 fk_at27 rfl (vp_in_nI (show v < 16 from (by omega)) (by decide)) dL_joined_99 ?_
          refine W.eq (g2 := F0 m 100 ls [.int (P v)]) (by rw [nI_clamp (by omega)]) ?_
          refine lv_aload_n hx hb dL_joined_100 rfl (lv_at hl 4 rfl) ?_
          refine lv_iload_n hx hb dL_joined_101 rfl (lv_at hl 5 rfl) ?_
          refine va_iald hx hb hK hP 27 0 fk_at27 rfl (vp_in_nI (show t < 16 from (by omega)) (by decide)) dL_joined_102 ?_
          refine W.eq (g2 := F0 m 103 ls [.int (P t), .int (P v)]) (by rw [nI_clamp (by omega)]) ?_
          refine lv_icmp_ge (tgt := 110) hx hb dL_joined_103 (by decide) (fun c_3 => absurd c_3 (by rw [hp v hv8, hp t hJd.1]; exact Int32.not_le.mpr hlt)) (fun c_3 => ?_)
          refine lv_iconst (v := 1) hx hb dL_joined_106 (by decide) ?_
          refine lv_goto (tgt := 111) hx hb dL_joined_107 (by decide) ?_
          refine lv_istore (lv' := [(6, .int 1), (7, .int (nI j)), (4, .int (nI (pl_bkt a))), (0, .ref (ad 0)), (1, .ref q), (2, .int (nI t)), (3, .int (nI a))]) hx hb dL_joined_111 hl (by decide) rfl (fun ls hl => ?_)
          refine lv_iinc (v := (nI (j + 1))) (lv' := [(7, .int (nI (j + 1))), (6, .int 1), (4, .int (nI (pl_bkt a))), (0, .ref (ad 0)), (1, .ref q), (2, .int (nI t)), (3, .int (nI a))]) hx hb dL_joined_113 hl (k := 1) rfl (nI_1 j) (by decide) rfl (fun ls hl => ?_)
          refine lv_goto (tgt := 73) hx hb dL_joined_116 (by decide) ?_
          exact ih2 (j + 1) (by omega) (by omega) _ _ _ hP hD hS (lv_sub hl [0, 1, 2, 3, 4, 5, 6] rfl)
      exact loop2 ((kq_B S (pl_bkt a)).length - (k + 1)) (k + 1) (by omega) (by omega) _ _ _ hP hD hS (lv_sub hl [0, 1, 3, 4, 5, 6, 7] rfl)
    | succ n ih =>
      intro k hk H locs ls hP hD hS hl
      obtain ⟨v, hv, -⟩ := kq_step (L := kq_B S (pl_bkt a)) (k := k) (n := (kq_B S (pl_bkt a)).length - (k + 1)) (by omega)
      have hv8 := kq_B_lt hv
      have hvt : ¬ nI v = nI t := fun e9 => kq_nd_ne (kq_nd _ _) hv hi0 (by omega) ((nI_eq (by omega) (by have := hJd.1; omega)).mp e9)
      refine lv_aload_n hx hb dL_joined_9 rfl (lv_at hl 2 rfl) ?_
      refine lv_iload hx hb dL_joined_10 (lv_at hl 1 rfl) ?_
      refine lv_iload hx hb dL_joined_12 (lv_at hl 0 rfl) ?_
      refine fk_callV (As := [.int (nI (pl_bkt a)), .int (nI k)]) (rest := []) ⟨hx, hb, hml, hown, hts⟩ (kc_queueAt l D ad cI cT cJ _ S (pl_bkt a) (pl_bkt_lt a) (nI k) (nI_pos' (by omega))) (cwV 2 hts gL_joined_X2_queueAt rfl rfl rfl (by decide +kernel) ⟨Nat.le_of_ble_eq_true rfl, Nat.le_of_ble_eq_true rfl⟩) (fk_rvK hK hP) hK hP hD hS hA rfl hl.1 rfl (Nat.le_of_ble_eq_true rfl) dL_joined_14 ⟨Nat.le_of_ble_eq_true rfl, Nat.le_of_ble_eq_true rfl⟩ (fun H locs hP hD hS => ?_)
      refine W.eq (g2 := F0 m 17 ls [.int (fk_oI (kk_qAt S (nI (pl_bkt a)) (nI k)))]) rfl ?_
      refine W.eq (g2 := F0 m 17 ls [.int (nI v)]) (by rw [show (fk_oI (kk_qAt S (nI (pl_bkt a)) (nI k))) = (nI v) from (by rw [kq_qAt hJ _ (by omega), hv]; rfl)]) ?_
      refine lv_iconst (v := (-1)) hx hb dL_joined_17 (by decide) ?_
      refine lv_icmp_eq (tgt := 39) hx hb dL_joined_18 (by decide) (fun c => absurd c (fk_nI_m1 (by omega))) (fun _ => ?_)
      refine lv_aload_n hx hb dL_joined_21 rfl (lv_at hl 2 rfl) ?_
      refine lv_iload hx hb dL_joined_22 (lv_at hl 1 rfl) ?_
      refine lv_iload hx hb dL_joined_24 (lv_at hl 0 rfl) ?_
      refine fk_callV (As := [.int (nI (pl_bkt a)), .int (nI k)]) (rest := []) ⟨hx, hb, hml, hown, hts⟩ (kc_queueAt l D ad cI cT cJ _ S (pl_bkt a) (pl_bkt_lt a) (nI k) (nI_pos' (by omega))) (cwV 2 hts gL_joined_X2_queueAt rfl rfl rfl (by decide +kernel) ⟨Nat.le_of_ble_eq_true rfl, Nat.le_of_ble_eq_true rfl⟩) (fk_rvK hK hP) hK hP hD hS hA rfl hl.1 rfl (Nat.le_of_ble_eq_true rfl) dL_joined_26 ⟨Nat.le_of_ble_eq_true rfl, Nat.le_of_ble_eq_true rfl⟩ (fun H locs hP hD hS => ?_)
      refine W.eq (g2 := F0 m 29 ls [.int (fk_oI (kk_qAt S (nI (pl_bkt a)) (nI k)))]) rfl ?_
      refine W.eq (g2 := F0 m 29 ls [.int (nI v)]) (by rw [show (fk_oI (kk_qAt S (nI (pl_bkt a)) (nI k))) = (nI v) from (by rw [kq_qAt hJ _ (by omega), hv]; rfl)]) ?_
      refine lv_iload_n hx hb dL_joined_29 rfl (lv_at hl 4 rfl) ?_
      refine lv_icmp_eq (tgt := 39) hx hb dL_joined_30 (by decide) (fun c_4 => absurd c_4 hvt) (fun c_4 => ?_)
      refine lv_iinc (v := (nI (k + 1))) (lv' := [(5, .int (nI (k + 1))), (4, .int (nI (pl_bkt a))), (0, .ref (ad 0)), (1, .ref q), (2, .int (nI t)), (3, .int (nI a))]) hx hb dL_joined_33 hl (k := 0) rfl (nI_1 k) (by decide) rfl (fun ls hl => ?_)
      refine lv_goto (tgt := 9) hx hb dL_joined_36 (by decide) ?_
      exact ih (k + 1) (by omega) _ _ _ hP hD hS (lv_sub hl [0, 1, 2, 3, 4, 5] rfl)
  exact loop i0 0 (by omega) _ _ _ hP hD hS (lv_sub hl [0, 1, 2, 3, 4, 5] rfl)
