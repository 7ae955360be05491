theorem fk_isT_no1 {th : Int32} (h : th < 0) : fk_isT th = false := by
  unfold fk_isT
  rw [decide_eq_false (Int32.not_le.mpr h)]
  rfl
theorem fk_isT_no2 {th : Int32} (h : 7 < th) : fk_isT th = false := by
  cases c : fk_isT th with
  | false => rfl
  | true =>
    have := fk_oB (av := 0) h
    rw [c] at this
    exact absurd this (by decide)
theorem fk_isA_no1 {av : Int32} (h : av < 0) : fk_isA av = false := by
  unfold fk_isA
  rw [decide_eq_false (Int32.not_le.mpr h)]
  rfl
theorem fk_isA_no3 {av : Int32} (h : ¬ av ≤ 15) : fk_isA av = false := by
  cases c : fk_isA av with
  | false => rfl
  | true =>
    have := fk_oD (th := 0) h
    rw [c] at this
    exact absurd this (by decide)
theorem fk_isA_no2 {av : Int32} (h : 15 < av) : fk_isA av = false := fk_isA_no3 (Int32.not_le.mpr h)
theorem fk_isA_yes2 {av : Int32} (h1 : ¬ av < 0) (h2 : ¬ 15 < av) : fk_isA av = true := fk_isA_iff h1 (Int32.not_lt.mp h2)
theorem fk_ne1 (x : Int32) : ¬ x = x + 1 := by
  intro h
  have h2 := congrArg (fun z => z - x) h
  simp only [Int32.sub_self] at h2
  rw [Int32.add_comm, Int32.add_sub_cancel] at h2
  exact absurd h2 (by decide)
theorem kq_lastk {k m : Nat} (h : k < m) (hm : m ≤ 8) (c : ¬ nI k < nI m - 1) : k + 1 = m := by
  obtain ⟨q, rfl⟩ : ∃ q, m = q + 1 := ⟨m - 1, by omega⟩
  rw [nI_pred] at c
  by_cases z : k < q
  · exact absurd (nI_lt z (by omega)) c
  · omega
theorem pl_get4 {F : List Nat} {k u : Nat} (h : ∀ u ∈ F, u < 8) (hl : F.length ≤ 8) (hk : 1 ≤ k) (hi : F[k - 1]? = some u) : ((lN (pl_pk F) >>> ((nI (4 * k) - 4).toInt64 &&& 63)) &&& 15).toInt32 = nI u := by
  have hil := (List.getElem?_eq_some_iff.mp hi).1
  rw [show nI (4 * k) - 4 = nI (4 * (k - 1)) from by rw [show (4 : Int32) = nI 4 from rfl, pk_sub (by omega)]; exact congrArg nI (by omega)]
  exact pl_get h hl hi
section
variable {n : Nat} {S S' : fk_S} {P P' : Nat → Int32} {u t a b v : Nat} {mk : Int32}
theorem kq_mask (h : kq_I n S P) (hu : u < 8) (h1 : S 1 u = 1) : P (8 + u) = S 4 u ∧ fk_btw (S 4 u) 1 255 = true := by
  rcases (h.T hu).1 with x | x | x | x
  · rw [x.1] at h1; exact absurd h1 (by decide)
  · exact ⟨x.2.2.1, x.2.2.2⟩
  · rw [x.1] at h1; exact absurd h1 (by decide)
  · rw [x.1] at h1; exact absurd h1 (by decide)
theorem fk_mask255 {m : Int32} (h : fk_btw m 1 255 = true) : ¬ m &&& 255 = 0 := by
  obtain ⟨k, h1, h2, rfl⟩ := fk_btw_N (lo := 1) (hi := 255) h (by decide) (by decide)
  rw [pk_andN (by omega) 8 rfl, Nat.mod_eq_of_lt (by omega)]
  exact nI_ne0 (by omega) (by omega)
/-- where a further one goes -/
theorem kq_put {F W : List Nat} {D : List Nat} {p : Nat → Bool} (hd : F ++ (u :: D).filter p = W) : (p u = true → (F ++ [u]) ++ D.filter p = W) ∧ (p u = false → F ++ D.filter p = W) := by
  constructor
  · intro h
    rw [List.filter_cons_of_pos h] at hd
    rw [List.append_assoc]
    exact hd
  · intro h
    rw [List.filter_cons_of_neg (by rw [h]; decide)] at hd
    exact hd
theorem kq_wake_all (hG : kq_G n S P) (hn : n < 2 ^ 16) (ha : a < 16) (mk : Int32) {k : Nat} (hk : k ≤ 8) : ∃ E, (∀ i, i ≤ 8 → pl_last S < nI (E + i + 1)) ∧ E + 20 < 2 ^ 31 ∧ (kk_wake (nI a) mk k S).1 = ((kq_wt S a mk).take k).length ∧ kq_G (n + 16) (kk_wake (nI a) mk k S).2 P ∧
    (kk_wake (nI a) mk k S).2 0 a = S 0 a ∧ ∀ i u, ((kq_wt S a mk).take k)[i]? = some u → (kk_wake (nI a) mk k S).2 1 u = 0 ∧ (kk_wake (nI a) mk k S).2 8 u = 0 ∧ (kk_wake (nI a) mk k S).2 9 u = nI (E + i + 1) := by
  obtain ⟨L, E, l1, l2, l3, l4, -⟩ := hG.1.last (by omega)
  obtain ⟨i1, i2, i3, i4, i5, i6, i7⟩ := kq_wakeS ha mk k n S _ E hG (by omega) rfl l3 l2
  refine ⟨E, fun i hi => by rw [l4]; exact nI_lt (by omega) (by omega), by omega, by rw [i1, List.length_take], i2.wk (by omega), congrFun i3 a, fun i u h => ?_⟩
  have hl := (List.getElem?_eq_some_iff.mp h).1
  rw [List.length_take] at hl
  rw [List.getElem?_take] at h
  split at h
  · exact i6 i u h (by omega)
  · cases h
theorem kq_requeue_all (hG : kq_G n S P) (hn : n < 2 ^ 16) (ha : a < 16) (hb : b < 16) (hab : ¬ a = b) {k j : Nat} (hk : k ≤ 8) (hj : j ≤ 8) : ∃ E, (∀ i, i ≤ 8 → pl_last S < nI (E + i + 1)) ∧ E + 20 < 2 ^ 31 ∧
    kk_requeueR S a b (S 0 a) k j = nI (((kq_wt S a 255).take k).length + (((kq_wt S a 255).drop k).take j).length) ∧ kq_G (n + 16) (kk_requeue S a b (S 0 a) k j) P ∧ kk_requeue S a b (S 0 a) k j 0 a = S 0 a ∧
    (∀ i u, ((kq_wt S a 255).take k)[i]? = some u → kk_requeue S a b (S 0 a) k j 1 u = 0 ∧ kk_requeue S a b (S 0 a) k j 8 u = 0 ∧ kk_requeue S a b (S 0 a) k j 9 u = nI (E + i + 1)) ∧
    ∀ i u, (((kq_wt S a 255).drop k).take j)[i]? = some u → kk_requeue S a b (S 0 a) k j 1 u = 1 ∧ kk_requeue S a b (S 0 a) k j 3 u = nI b ∧ (i + 1 = (((kq_wt S a 255).drop k).take j).length → kq_Jd (kk_requeue S a b (S 0 a) k j) u b) := by
  obtain ⟨L, E, l1, l2, l3, l4, -⟩ := hG.1.last (by omega)
  obtain ⟨i1, i2, i3, i4, i5, i6, i7⟩ := kq_wakeS ha 255 k n S _ E hG (by omega) rfl l3 l2
  obtain ⟨m1, m2, m3, m4, m5, m6, m7⟩ := kq_moveS (P := P) ha hb hab j (n + k) _ _ i2 (by omega) i7
  unfold kk_requeueR kk_requeue
  rw [if_pos rfl, if_pos rfl]
  refine ⟨E, fun i hi => by rw [l4]; exact nI_lt (by omega) (by omega), by omega, ?_, m2.wk (by omega), ?_, fun i u h => ?_, fun i u h => ?_⟩
  · rw [i1, m1, List.length_take, List.length_take]
  · rw [m3 0 (by decide) (by decide) (by decide)]
    exact congrFun i3 a
  · have hl := (List.getElem?_eq_some_iff.mp h).1
    rw [List.length_take] at hl
    rw [List.getElem?_take] at h
    rw [m3 1 (by decide) (by decide) (by decide), m3 8 (by decide) (by decide) (by decide), m3 9 (by decide) (by decide) (by decide)]
    split at h
    · exact i6 i u h (by omega)
    · cases h
  · have hl := (List.getElem?_eq_some_iff.mp h).1
    rw [List.length_take] at hl
    have hm : u ∈ kq_wt S a 255 := List.mem_of_mem_drop (List.mem_of_mem_take (List.mem_of_getElem? h))
    have hnt : u ∉ (kq_wt S a 255).take k := by
      intro z
      obtain ⟨x, hx⟩ := List.getElem?_of_mem z
      rw [List.getElem?_take] at hx h
      split at hx
      · split at h
        · rw [List.getElem?_drop] at h
          exact kq_nd_ne (kq_wt_nd S a 255) hx h (by omega) rfl
        · cases h
      · cases hx
    have h9 : ((kq_wt S a 255).drop k)[i]? = some u := by
      rw [List.getElem?_take] at h
      split at h
      · exact h
      · cases h
    refine ⟨?_, m5 i u h9 (by omega), fun e => m7 i u h9 (by rw [e, List.length_take])⟩
    rw [m3 1 (by decide) (by decide) (by decide), i5 1 u (by decide) (by decide) hnt]
    exact (kq_wt_mem hm).2.2
end

set_option maxHeartbeats 8000000 in
set_option maxRecDepth 100000 in
theorem el_wakes (l : Launch) (D : va_G) (ad : Nat → Nat) (cI cT cJ : ClassId) (X : va_W) (S : fk_S) (q : Nat) (P : Nat → Int32) (n : Nat) (hst : l.stackTraces = false) (hG : kq_G n S P) (hn : n < 2 ^ 16) (od y : Int32)  : fk_E l D (fk_ty cI cT cJ) yL_wakes wsL_wakes rm_E [.ref (ad 0), .ref q, .int y, .int od] (fk_kW ad cI cT S ++ (q, fk_pr cI P) :: X) (kq_Phi ad cI cT q X (n + 20)) := by
  refine fk_E_of (cc := cL_wakes) (maxL := 29) (ret := (some .boolean)) (own := RL) (by decide) rfl rfl (Nat.le_of_ble_eq_true rfl) ?_
  intro p e s m below meth c A ls hx hb hr hlocks hml hts hown hA hP hK hD hZ hN hl
  have hS : va_S A s.heap s.heap [] := va_S.rf
  have hl : lv_has ls 29 [(0, .ref (ad 0)), (1, .ref q), (2, .int y), (3, .int od)] := hl
  refine lv_iload_n hx hb dL_wakes_0 rfl (lv_at hl 2 rfl) ?_
  refine lv_iconst (v := 2) hx hb dL_wakes_1 (by decide) ?_
  refine fk_callS (As := [.int y, .int 2]) (rest := []) ⟨hx, hb, hml, hown, hts⟩ (kl_some l D ad cI cT cJ _ S y 2 (by decide)) (va_cwS 2 hts gL_wakes_L_some rfl rfl rfl (by decide +kernel) ⟨Nat.le_of_ble_eq_true rfl, Nat.le_of_ble_eq_true rfl⟩) hK hP hD hS hA rfl hl.1 rfl (Nat.le_of_ble_eq_true rfl) dL_wakes_2 ⟨Nat.le_of_ble_eq_true rfl, Nat.le_of_ble_eq_true rfl⟩ (fun H locs hP hD hS => ?_)
  refine W.eq (g2 := F0 m 5 ls [.int (pl_some y 2)]) rfl ?_
  refine lv_if_ne (tgt := 12) hx hb dL_wakes_5 (by decide) (fun c_1 => ?_) (fun c_1 => ?_)
  · refine lv_iconst (v := 0) hx hb dL_wakes_12 (by decide) ?_
    refine lv_istore (lv' := [(4, .int 0), (0, .ref (ad 0)), (1, .ref q), (2, .int y), (3, .int od)]) hx hb dL_wakes_13 hl (by decide) rfl (fun ls hl => ?_)
    have jn40 : ∀ (th : Int32), ∀ (H : Heap) (locs : List Loc) (ls : Array Slot), va_P D vwCl (fk_kW ad cI cT S ++ (q, fk_pr cI P) :: X) H → va_D A (fk_kW ad cI cT S ++ (q, fk_pr cI P) :: X) → va_S A s.heap H locs → lv_has ls 29 [(4, .int 0), (0, .ref (ad 0)), (1, .ref q), (2, .int y), (3, .int od)] → W p l e rm_E s m ([.ref (ad 0), .ref q, .int y, .int od] : List Value).toArray below meth c H locs 0 0 (MQ below (fk_QE D (fk_ty cI cT cJ) A (kq_Phi ad cI cT q X (n + 20))) ([.ref (ad 0), .ref q, .int y, .int od] : List Value).toArray s 2 12 A) (F0 m 40 ls [.int th]) := by
      intro th H locs ls hP hD hS hl
      refine lv_istore (lv' := [(5, .int th), (4, .int 0), (0, .ref (ad 0)), (1, .ref q), (2, .int y), (3, .int od)]) hx hb dL_wakes_40 hl (by decide) rfl (fun ls hl => ?_)
      have jn68 : ∀ (av : Int32), ∀ (H : Heap) (locs : List Loc) (ls : Array Slot), va_P D vwCl (fk_kW ad cI cT S ++ (q, fk_pr cI P) :: X) H → va_D A (fk_kW ad cI cT S ++ (q, fk_pr cI P) :: X) → va_S A s.heap H locs → lv_has ls 29 [(5, .int th), (4, .int 0), (0, .ref (ad 0)), (1, .ref q), (2, .int y), (3, .int od)] → W p l e rm_E s m ([.ref (ad 0), .ref q, .int y, .int od] : List Value).toArray below meth c H locs 0 0 (MQ below (fk_QE D (fk_ty cI cT cJ) A (kq_Phi ad cI cT q X (n + 20))) ([.ref (ad 0), .ref q, .int y, .int od] : List Value).toArray s 2 12 A) (F0 m 68 ls [.int av]) := by
        intro av H locs ls hP hD hS hl
        refine lv_istore (lv' := [(6, .int av), (5, .int th), (4, .int 0), (0, .ref (ad 0)), (1, .ref q), (2, .int y), (3, .int od)]) hx hb dL_wakes_68 hl (by decide) rfl (fun ls hl => ?_)
        have jn105 : ∀ (bw : Int32), ∀ (H : Heap) (locs : List Loc) (ls : Array Slot), va_P D vwCl (fk_kW ad cI cT S ++ (q, fk_pr cI P) :: X) H → va_D A (fk_kW ad cI cT S ++ (q, fk_pr cI P) :: X) → va_S A s.heap H locs → lv_has ls 29 [(6, .int av), (5, .int th), (4, .int 0), (0, .ref (ad 0)), (1, .ref q), (2, .int y), (3, .int od)] → W p l e rm_E s m ([.ref (ad 0), .ref q, .int y, .int od] : List Value).toArray below meth c H locs 0 0 (MQ below (fk_QE D (fk_ty cI cT cJ) A (kq_Phi ad cI cT q X (n + 20))) ([.ref (ad 0), .ref q, .int y, .int od] : List Value).toArray s 2 12 A) (F0 m 105 ls [.int bw]) := by
          intro bw H locs ls hP hD hS hl
          refine lv_istore (lv' := [(7, .int bw), (6, .int av), (5, .int th), (4, .int 0), (0, .ref (ad 0)), (1, .ref q), (2, .int y), (3, .int od)]) hx hb dL_wakes_105 hl (by decide) rfl (fun ls hl => ?_)
          have jn133 : ∀ (ms : Int32), ∀ (H : Heap) (locs : List Loc) (ls : Array Slot), va_P D vwCl (fk_kW ad cI cT S ++ (q, fk_pr cI P) :: X) H → va_D A (fk_kW ad cI cT S ++ (q, fk_pr cI P) :: X) → va_S A s.heap H locs → lv_has ls 29 [(7, .int bw), (6, .int av), (5, .int th), (4, .int 0), (0, .ref (ad 0)), (1, .ref q), (2, .int y), (3, .int od)] → W p l e rm_E s m ([.ref (ad 0), .ref q, .int y, .int od] : List Value).toArray below meth c H locs 0 0 (MQ below (fk_QE D (fk_ty cI cT cJ) A (kq_Phi ad cI cT q X (n + 20))) ([.ref (ad 0), .ref q, .int y, .int od] : List Value).toArray s 2 12 A) (F0 m 133 ls [.int ms]) := by
            intro ms H locs ls hP hD hS hl
            refine lv_istore (lv' := [(8, .int ms), (7, .int bw), (6, .int av), (5, .int th), (4, .int 0), (0, .ref (ad 0)), (1, .ref q), (2, .int y), (3, .int od)]) hx hb dL_wakes_133 hl (by decide) rfl (fun ls hl => ?_)
            have jn161 : ∀ (fu : Int32), ∀ (H : Heap) (locs : List Loc) (ls : Array Slot), va_P D vwCl (fk_kW ad cI cT S ++ (q, fk_pr cI P) :: X) H → va_D A (fk_kW ad cI cT S ++ (q, fk_pr cI P) :: X) → va_S A s.heap H locs → lv_has ls 29 [(8, .int ms), (7, .int bw), (6, .int av), (5, .int th), (4, .int 0), (0, .ref (ad 0)), (1, .ref q), (2, .int y), (3, .int od)] → W p l e rm_E s m ([.ref (ad 0), .ref q, .int y, .int od] : List Value).toArray below meth c H locs 0 0 (MQ below (fk_QE D (fk_ty cI cT cJ) A (kq_Phi ad cI cT q X (n + 20))) ([.ref (ad 0), .ref q, .int y, .int od] : List Value).toArray s 2 12 A) (F0 m 161 ls [.int fu]) := by
              intro fu H locs ls hP hD hS hl
              refine lv_istore (lv' := [(9, .int fu), (8, .int ms), (7, .int bw), (6, .int av), (5, .int th), (4, .int 0), (0, .ref (ad 0)), (1, .ref q), (2, .int y), (3, .int od)]) hx hb dL_wakes_161 hl (by decide) rfl (fun ls hl => ?_)
              have jn205 : ∀ (mk : Int32), ∀ (H : Heap) (locs : List Loc) (ls : Array Slot), va_P D vwCl (fk_kW ad cI cT S ++ (q, fk_pr cI P) :: X) H → va_D A (fk_kW ad cI cT S ++ (q, fk_pr cI P) :: X) → va_S A s.heap H locs → lv_has ls 29 [(9, .int fu), (8, .int ms), (7, .int bw), (6, .int av), (5, .int th), (4, .int 0), (0, .ref (ad 0)), (1, .ref q), (2, .int y), (3, .int od)] → W p l e rm_E s m ([.ref (ad 0), .ref q, .int y, .int od] : List Value).toArray below meth c H locs 0 0 (MQ below (fk_QE D (fk_ty cI cT cJ) A (kq_Phi ad cI cT q X (n + 20))) ([.ref (ad 0), .ref q, .int y, .int od] : List Value).toArray s 2 12 A) (F0 m 205 ls [.int mk]) := by
                intro mk H locs ls hP hD hS hl
                refine lv_istore (lv' := [(10, .int mk), (9, .int fu), (8, .int ms), (7, .int bw), (6, .int av), (5, .int th), (4, .int 0), (0, .ref (ad 0)), (1, .ref q), (2, .int y), (3, .int od)]) hx hb dL_wakes_205 hl (by decide) rfl (fun ls hl => ?_)
                have jn253 : ∀ (ov : Int32), ov = fk_b (!(fk_isT th && fk_isA av)) → ∀ (H : Heap) (locs : List Loc) (ls : Array Slot), va_P D vwCl (fk_kW ad cI cT S ++ (q, fk_pr cI P) :: X) H → va_D A (fk_kW ad cI cT S ++ (q, fk_pr cI P) :: X) → va_S A s.heap H locs → lv_has ls 29 [(10, .int mk), (9, .int fu), (8, .int ms), (7, .int bw), (6, .int av), (5, .int th), (4, .int 0), (0, .ref (ad 0)), (1, .ref q), (2, .int y), (3, .int od)] → W p l e rm_E s m ([.ref (ad 0), .ref q, .int y, .int od] : List Value).toArray below meth c H locs 0 0 (MQ below (fk_QE D (fk_ty cI cT cJ) A (kq_Phi ad cI cT q X (n + 20))) ([.ref (ad 0), .ref q, .int y, .int od] : List Value).toArray s 2 12 A) (F0 m 253 ls [.int ov]) := by
                  intro ov h_ov H locs ls hP hD hS hl
                  refine lv_istore (lv' := [(11, .int ov), (10, .int mk), (9, .int fu), (8, .int ms), (7, .int bw), (6, .int av), (5, .int th), (4, .int 0), (0, .ref (ad 0)), (1, .ref q), (2, .int y), (3, .int od)]) hx hb dL_wakes_253 hl (by decide) rfl (fun ls hl => ?_)
                  by_cases hout : (fk_isT th && fk_isA av) = true
                  · have hov : ov = 0 := by rw [h_ov, hout]; rfl
                    simp only [Bool.and_eq_true] at hout
                    obtain ⟨t, ht, eth⟩ := fk_isT_of hout.1
                    obtain ⟨a, ha, eav⟩ := fk_isA_of hout.2
                    have hl : lv_has ls 29 [(11, .int 0), (10, .int mk), (9, .int fu), (8, .int ms), (7, .int bw), (6, .int (nI a)), (5, .int (nI t)), (4, .int 0), (0, .ref (ad 0)), (1, .ref q), (2, .int y), (3, .int od)] := by rw [hov, eth, eav] at hl; exact hl
                    have jn331 : ∀ (bv : Int32), bv = fk_b (!(fk_btw ms 1 8 && fk_btw mk 1 255)) → ∀ (H : Heap) (locs : List Loc) (ls : Array Slot), va_P D vwCl (fk_kW ad cI cT S ++ (q, fk_pr cI P) :: X) H → va_D A (fk_kW ad cI cT S ++ (q, fk_pr cI P) :: X) → va_S A s.heap H locs → lv_has ls 29 [(11, .int 0), (10, .int mk), (9, .int fu), (8, .int ms), (7, .int bw), (6, .int (nI a)), (5, .int (nI t)), (4, .int 0), (0, .ref (ad 0)), (1, .ref q), (2, .int y), (3, .int od)] → W p l e rm_E s m ([.ref (ad 0), .ref q, .int y, .int od] : List Value).toArray below meth c H locs 0 0 (MQ below (fk_QE D (fk_ty cI cT cJ) A (kq_Phi ad cI cT q X (n + 20))) ([.ref (ad 0), .ref q, .int y, .int od] : List Value).toArray s 2 12 A) (F0 m 331 ls [.int bv]) := by
                      intro bv h_bv H locs ls hP hD hS hl
                      refine lv_istore (lv' := [(12, .int bv), (11, .int 0), (10, .int mk), (9, .int fu), (8, .int ms), (7, .int bw), (6, .int (nI a)), (5, .int (nI t)), (4, .int 0), (0, .ref (ad 0)), (1, .ref q), (2, .int y), (3, .int od)]) hx hb dL_wakes_331 hl (by decide) rfl (fun ls hl => ?_)
                      by_cases hbad : (fk_btw ms 1 8 && fk_btw mk 1 255) = true
                      · have hbad9 : bv = 0 := by rw [h_bv, hbad]; rfl
                        have hl : lv_has ls 29 [(12, .int 0), (11, .int 0), (10, .int mk), (9, .int fu), (8, .int ms), (7, .int bw), (6, .int (nI a)), (5, .int (nI t)), (4, .int 0), (0, .ref (ad 0)), (1, .ref q), (2, .int y), (3, .int od)] := by rw [hbad9] at hl; exact hl
                        simp only [Bool.and_eq_true] at hbad
                        obtain ⟨w9, -, hw9, ews⟩ := fk_btw_N (lo := 1) (hi := 8) hbad.1 (by decide) (by decide)
                        have hm0 : fk_btw (nI w9) 1 8 = true := by rw [← ews]; exact hbad.1
                        have hm1 : fk_btw mk 1 255 = true := hbad.2
                        have hl : lv_has ls 29 [(12, .int 0), (11, .int 0), (10, .int mk), (9, .int fu), (8, .int (nI w9)), (7, .int bw), (6, .int (nI a)), (5, .int (nI t)), (4, .int 0), (0, .ref (ad 0)), (1, .ref q), (2, .int y), (3, .int od)] := by rw [ews] at hl; exact hl
                        by_cases hs0 : S 1 t = 0
                        · refine lv_aload_n hx hb dL_wakes_333 rfl (lv_at hl 9 rfl) ?_
                          refine fk_callS (As := [.ref (ad 0)]) (rest := []) ⟨hx, hb, hml, hown, hts⟩ (kl_last l D ad cI cT cJ _ S) (va_cwS 1 hts gL_wakes_L_last rfl rfl rfl (by decide +kernel) ⟨Nat.le_of_ble_eq_true rfl, Nat.le_of_ble_eq_true rfl⟩) hK hP hD hS hA rfl hl.1 rfl (Nat.le_of_ble_eq_true rfl) dL_wakes_334 ⟨Nat.le_of_ble_eq_true rfl, Nat.le_of_ble_eq_true rfl⟩ (fun H locs hP hD hS => ?_)
                          refine W.eq (g2 := F0 m 337 ls [.int (pl_last S)]) rfl ?_
                          refine lv_istore (lv' := [(13, .int (pl_last S)), (12, .int 0), (11, .int 0), (10, .int mk), (9, .int fu), (8, .int (nI w9)), (7, .int bw), (6, .int (nI a)), (5, .int (nI t)), (4, .int 0), (0, .ref (ad 0)), (1, .ref q), (2, .int y), (3, .int od)]) hx hb dL_wakes_337 hl (by decide) rfl (fun ls hl => ?_)
                          refine lv_iconst (v := 0) hx hb dL_wakes_339 (by decide) ?_
                          refine lv_istore (lv' := [(14, .int 0), (13, .int (pl_last S)), (12, .int 0), (11, .int 0), (10, .int mk), (9, .int fu), (8, .int (nI w9)), (7, .int bw), (6, .int (nI a)), (5, .int (nI t)), (4, .int 0), (0, .ref (ad 0)), (1, .ref q), (2, .int y), (3, .int od)]) hx hb dL_wakes_340 hl (by decide) rfl (fun ls hl => ?_)
                          refine lv_iconst (v := 0) hx hb dL_wakes_342 (by decide) ?_
                          refine lv_istore (lv' := [(15, .int 0), (14, .int 0), (13, .int (pl_last S)), (12, .int 0), (11, .int 0), (10, .int mk), (9, .int fu), (8, .int (nI w9)), (7, .int bw), (6, .int (nI a)), (5, .int (nI t)), (4, .int 0), (0, .ref (ad 0)), (1, .ref q), (2, .int y), (3, .int od)]) hx hb dL_wakes_343 hl (by decide) rfl (fun ls hl => ?_)
                          refine lv_lconst (v := 0) hx hb dL_wakes_345 (by decide) ?_
                          refine lv_lstore (lv' := [(16, .long 0), (15, .int 0), (14, .int 0), (13, .int (pl_last S)), (12, .int 0), (11, .int 0), (10, .int mk), (9, .int fu), (8, .int (nI w9)), (7, .int bw), (6, .int (nI a)), (5, .int (nI t)), (4, .int 0), (0, .ref (ad 0)), (1, .ref q), (2, .int y), (3, .int od)]) hx hb dL_wakes_346 hl (by decide) rfl (fun ls hl => ?_)
                          refine lv_lconst (v := 0) hx hb dL_wakes_348 (by decide) ?_
                          refine lv_lstore (lv' := [(18, .long 0), (16, .long 0), (15, .int 0), (14, .int 0), (13, .int (pl_last S)), (12, .int 0), (11, .int 0), (10, .int mk), (9, .int fu), (8, .int (nI w9)), (7, .int bw), (6, .int (nI a)), (5, .int (nI t)), (4, .int 0), (0, .ref (ad 0)), (1, .ref q), (2, .int y), (3, .int od)]) hx hb dL_wakes_349 hl (by decide) rfl (fun ls hl => ?_)
                          refine lv_iconst (v := 0) hx hb dL_wakes_351 (by decide) ?_
                          refine lv_istore (lv' := [(20, .int 0), (18, .long 0), (16, .long 0), (15, .int 0), (14, .int 0), (13, .int (pl_last S)), (12, .int 0), (11, .int 0), (10, .int mk), (9, .int fu), (8, .int (nI w9)), (7, .int bw), (6, .int (nI a)), (5, .int (nI t)), (4, .int 0), (0, .ref (ad 0)), (1, .ref q), (2, .int y), (3, .int od)]) hx hb dL_wakes_352 hl (by decide) rfl (fun ls hl => ?_)
                          have loop1 : ∀ (n1 : Nat) (k : Nat) (F : List Nat) (c1 : Nat) (f1 : Int64), k + n1 = (kq_A S a).length → F ++ ((kq_A S a).drop k).filter (fun t => decide (S 1 t = 1) && decide (S 4 t &&& mk ≠ 0)) = (kq_wt S a mk) → c1 = (F.take w9).length → f1 = lN (pl_pk (F.take w9)) → ∀ (H : Heap) (locs : List Loc) (ls : Array Slot), va_P D vwCl (fk_kW ad cI cT S ++ (q, fk_pr cI P) :: X) H → va_D A (fk_kW ad cI cT S ++ (q, fk_pr cI P) :: X) → va_S A s.heap H locs → lv_has ls 29 [(20, .int (nI k)), (14, .int (nI c1)), (16, .long f1), (18, .long 0), (15, .int 0), (13, .int (pl_last S)), (12, .int 0), (11, .int 0), (10, .int mk), (9, .int fu), (8, .int (nI w9)), (7, .int bw), (6, .int (nI a)), (5, .int (nI t)), (4, .int 0), (0, .ref (ad 0)), (2, .int y), (3, .int od), (1, .ref q)] → W p l e rm_E s m ([.ref (ad 0), .ref q, .int y, .int od] : List Value).toArray below meth c H locs 0 0 (MQ below (fk_QE D (fk_ty cI cT cJ) A (kq_Phi ad cI cT q X (n + 20))) ([.ref (ad 0), .ref q, .int y, .int od] : List Value).toArray s 2 12 A) (F0 m 354 ls []) := by
                            intro n1
                            induction n1 with
                            | zero =>
                              intro k F c1 f1 hk hF hc1 hf1 H locs ls hP hD hS hl
                              have h8 := kq_A8 S a
                              have hFW : F = (kq_wt S a mk) := by rw [← hF, (kq_stop hk).2]; simp
                              obtain ⟨WK, hWK⟩ : ∃ WK, WK = (kq_wt S a mk).take w9 := ⟨_, rfl⟩
                              rw [hFW, ← hWK] at hc1 hf1
                              have hWK8 : ∀ u ∈ WK, u < 8 := fun z hz => by rw [hWK] at hz; exact (kq_wt_mem (List.mem_of_mem_take hz)).1
                              have hWKl : WK.length ≤ 8 := by rw [hWK, List.length_take]; have := kq_wt8 S a mk; omega
                              have hl : lv_has ls 29 [(20, .int (nI k)), (14, .int (nI WK.length)), (16, .long (lN (pl_pk WK))), (18, .long 0), (15, .int 0), (13, .int (pl_last S)), (12, .int 0), (11, .int 0), (10, .int mk), (9, .int fu), (8, .int (nI w9)), (7, .int bw), (6, .int (nI a)), (5, .int (nI t)), (4, .int 0), (0, .ref (ad 0)), (2, .int y), (3, .int od), (1, .ref q)] := by rw [hc1, hf1] at hl; exact hl
                              refine lv_iload hx hb dL_wakes_354 (lv_at hl 7 rfl) ?_
                              refine lv_if_ne (tgt := 485) hx hb dL_wakes_356 (by decide) (fun c => absurd c (by decide)) (fun _ => ?_)
                              refine lv_iload hx hb dL_wakes_359 (lv_at hl 6 rfl) ?_
                              refine lv_if_ne (tgt := 485) hx hb dL_wakes_361 (by decide) (fun c => absurd c (by decide)) (fun _ => ?_)
                              refine lv_iload hx hb dL_wakes_364 (lv_at hl 0 rfl) ?_
                              refine lv_aload_n hx hb dL_wakes_366 rfl (lv_at hl 15 rfl) ?_
                              refine lv_iload hx hb dL_wakes_367 (lv_at hl 12 rfl) ?_
                              refine fk_callV (As := [.int (nI a)]) (rest := [.int (nI k)]) ⟨hx, hb, hml, hown, hts⟩ (kc_waiters l D ad cI cT cJ _ S a ha) (cwV 1 hts gL_wakes_X2_waiters rfl rfl rfl (by decide +kernel) ⟨Nat.le_of_ble_eq_true rfl, Nat.le_of_ble_eq_true rfl⟩) (fk_rvK hK hP) hK hP hD hS hA rfl hl.1 rfl (Nat.le_of_ble_eq_true rfl) dL_wakes_369 ⟨Nat.le_of_ble_eq_true rfl, Nat.le_of_ble_eq_true rfl⟩ (fun H locs hP hD hS => ?_)
                              refine W.eq (g2 := F0 m 372 ls [.int (kk_waiters S (nI a)), .int (nI k)]) rfl ?_
                              refine W.eq (g2 := F0 m 372 ls [.int (nI ((kq_A S a).length)), .int (nI k)]) (by rw [show (kk_waiters S (nI a)) = (nI ((kq_A S a).length)) from (kq_waiters _ _)]) ?_
                              refine lv_icmp_ge (tgt := 485) hx hb dL_wakes_372 (by decide) (fun c_4 => ?_) (fun c_4 => absurd (nI_le (a := (kq_A S a).length) (b := k) (by omega) (by omega)) c_4)
                              refine lv_aload_n hx hb dL_wakes_485 rfl (lv_at hl 15 rfl) ?_
                              refine lv_iconst (v := (-1)) hx hb dL_wakes_486 (by decide) ?_
                              refine fk_callS (As := [.ref (ad 0), .int (-1)]) (rest := []) ⟨hx, hb, hml, hown, hts⟩ (kl_threads l D ad cI cT cJ _ S hG.1.sz hG.1.J (-1)) (va_cwS 2 hts gL_wakes_L_threads rfl rfl rfl (by decide +kernel) ⟨Nat.le_of_ble_eq_true rfl, Nat.le_of_ble_eq_true rfl⟩) hK hP hD hS hA rfl hl.1 rfl (Nat.le_of_ble_eq_true rfl) dL_wakes_487 ⟨Nat.le_of_ble_eq_true rfl, Nat.le_of_ble_eq_true rfl⟩ (fun H locs hP hD hS => ?_)
                              refine W.eq (g2 := F0 m 490 ls [.long (pl_thr S (-1))]) rfl ?_
                              refine lv_lstore (lv' := [(20, .long (pl_thr S (-1))), (14, .int (nI WK.length)), (16, .long (lN (pl_pk WK))), (18, .long 0), (15, .int 0), (13, .int (pl_last S)), (12, .int 0), (11, .int 0), (10, .int mk), (9, .int fu), (8, .int (nI w9)), (7, .int bw), (6, .int (nI a)), (5, .int (nI t)), (4, .int 0), (0, .ref (ad 0)), (2, .int y), (3, .int od), (1, .ref q)]) hx hb dL_wakes_490 hl (by decide) rfl (fun ls hl => ?_)
                              refine lv_iload hx hb dL_wakes_492 (lv_at hl 7 rfl) ?_
                              refine lv_if_eq (tgt := 501) hx hb dL_wakes_494 (by decide) (fun _ => ?_) (fun c => absurd c (by decide))
                              refine lv_aload_n hx hb dL_wakes_501 rfl (lv_at hl 15 rfl) ?_
                              refine lv_iload hx hb dL_wakes_502 (lv_at hl 12 rfl) ?_
                              refine fk_callV (As := [.int (nI a)]) (rest := []) ⟨hx, hb, hml, hown, hts⟩ (kc_word l D ad cI cT cJ _ S a ha) (cwV 1 hts gL_wakes_X2_word rfl rfl rfl (by decide +kernel) ⟨Nat.le_of_ble_eq_true rfl, Nat.le_of_ble_eq_true rfl⟩) (fk_rvK hK hP) hK hP hD hS hA rfl hl.1 rfl (Nat.le_of_ble_eq_true rfl) dL_wakes_504 ⟨Nat.le_of_ble_eq_true rfl, Nat.le_of_ble_eq_true rfl⟩ (fun H locs hP hD hS => ?_)
                              refine W.eq (g2 := F0 m 507 ls [.int (S 0 a)]) rfl ?_
                              refine lv_istore (lv' := [(22, .int (S 0 a)), (20, .long (pl_thr S (-1))), (14, .int (nI WK.length)), (16, .long (lN (pl_pk WK))), (18, .long 0), (15, .int 0), (13, .int (pl_last S)), (12, .int 0), (11, .int 0), (10, .int mk), (9, .int fu), (8, .int (nI w9)), (7, .int bw), (6, .int (nI a)), (5, .int (nI t)), (4, .int 0), (0, .ref (ad 0)), (2, .int y), (3, .int od), (1, .ref q)]) hx hb dL_wakes_507 hl (by decide) rfl (fun ls hl => ?_)
                              refine lv_iload hx hb dL_wakes_509 (lv_at hl 8 rfl) ?_
                              refine lv_if_ne (tgt := 532) hx hb dL_wakes_511 (by decide) (fun c => absurd c (by decide)) (fun _ => ?_)
                              refine lv_iload hx hb dL_wakes_514 (lv_at hl 7 rfl) ?_
                              refine lv_if_ne (tgt := 532) hx hb dL_wakes_516 (by decide) (fun c => absurd c (by decide)) (fun _ => ?_)
                              refine lv_aload_n hx hb dL_wakes_519 rfl (lv_at hl 16 rfl) ?_
                              refine lv_iload hx hb dL_wakes_520 (lv_at hl 14 rfl) ?_
                              refine fk_callV (As := [.int (nI t)]) (rest := []) ⟨hx, hb, hml, hown, hts⟩ (kc_stateOf l D ad cI cT cJ _ S t ht) (cwV 1 hts gL_wakes_X2_stateOf rfl rfl rfl (by decide +kernel) ⟨Nat.le_of_ble_eq_true rfl, Nat.le_of_ble_eq_true rfl⟩) (fk_rvK hK hP) hK hP hD hS hA rfl hl.1 rfl (Nat.le_of_ble_eq_true rfl) dL_wakes_522 ⟨Nat.le_of_ble_eq_true rfl, Nat.le_of_ble_eq_true rfl⟩ (fun H locs hP hD hS => ?_)
                              refine W.eq (g2 := F0 m 525 ls [.int (S 1 t)]) rfl ?_
                              refine W.eq (g2 := F0 m 525 ls [.int 0]) (by rw [show (S 1 t) = (0 : Int32) from hs0]) ?_
                              refine lv_if_ne (tgt := 532) hx hb dL_wakes_525 (by decide) (fun c => absurd c (by decide)) (fun _ => ?_)
                              refine lv_iconst (v := 1) hx hb dL_wakes_528 (by decide) ?_
                              refine lv_goto (tgt := 533) hx hb dL_wakes_529 (by decide) ?_
                              refine lv_istore (lv' := [(23, .int 1), (22, .int (S 0 a)), (20, .long (pl_thr S (-1))), (14, .int (nI WK.length)), (16, .long (lN (pl_pk WK))), (18, .long 0), (15, .int 0), (13, .int (pl_last S)), (12, .int 0), (11, .int 0), (10, .int mk), (9, .int fu), (8, .int (nI w9)), (7, .int bw), (6, .int (nI a)), (5, .int (nI t)), (4, .int 0), (0, .ref (ad 0)), (2, .int y), (3, .int od), (1, .ref q)]) hx hb dL_wakes_533 hl (by decide) rfl (fun ls hl => ?_)
                              refine lv_iload hx hb dL_wakes_535 (lv_at hl 16 rfl) ?_
                              refine lv_if_eq (tgt := 566) hx hb dL_wakes_537 (by decide) (fun _ => ?_) (fun c => absurd c (by decide))
                              refine lv_iconst (v := (-1)) hx hb dL_wakes_566 (by decide) ?_
                              refine lv_istore (lv' := [(24, .int (-1)), (23, .int 1), (22, .int (S 0 a)), (20, .long (pl_thr S (-1))), (14, .int (nI WK.length)), (16, .long (lN (pl_pk WK))), (18, .long 0), (15, .int 0), (13, .int (pl_last S)), (12, .int 0), (11, .int 0), (10, .int mk), (9, .int fu), (8, .int (nI w9)), (7, .int bw), (6, .int (nI a)), (5, .int (nI t)), (4, .int 0), (0, .ref (ad 0)), (2, .int y), (3, .int od), (1, .ref q)]) hx hb dL_wakes_567 hl (by decide) rfl (fun ls hl => ?_)
                              refine lv_iload hx hb dL_wakes_569 (lv_at hl 0 rfl) ?_
                              refine lv_iconst (v := (-1)) hx hb dL_wakes_571 (by decide) ?_
                              refine lv_icmp_ne (tgt := 586) hx hb dL_wakes_572 (by decide) (fun c => absurd c (by decide)) (fun _ => ?_)
                              refine lv_aload_n hx hb dL_wakes_575 rfl (lv_at hl 18 rfl) ?_
                              refine lv_iconst (v := (-1)) hx hb dL_wakes_576 (by decide) ?_
                              refine fk_callS (As := [.ref (ad 0), .int (-1)]) (rest := []) ⟨hx, hb, hml, hown, hts⟩ (kl_threads l D ad cI cT cJ _ S hG.1.sz hG.1.J (-1)) (va_cwS 2 hts gL_wakes_L_threads rfl rfl rfl (by decide +kernel) ⟨Nat.le_of_ble_eq_true rfl, Nat.le_of_ble_eq_true rfl⟩) hK hP hD hS hA rfl hl.1 rfl (Nat.le_of_ble_eq_true rfl) dL_wakes_577 ⟨Nat.le_of_ble_eq_true rfl, Nat.le_of_ble_eq_true rfl⟩ (fun H locs hP hD hS => ?_)
                              refine W.eq (g2 := F0 m 580 ls [.long (pl_thr S (-1))]) rfl ?_
                              refine lv_lload hx hb dL_wakes_580 (lv_at hl 3 rfl) ?_
                              refine W.lcmp hx hb dL_wakes_582 ?_
                              refine W.eq (g2 := F0 m 583 ls [.int 0]) (by rw [fk_cmp_self]) ?_
                              refine lv_if_eq (tgt := 588) hx hb dL_wakes_583 (by decide) (fun _ => ?_) (fun c => absurd c (by decide))
                              refine lv_iload hx hb dL_wakes_588 (lv_at hl 17 rfl) ?_
                              refine lv_if_eq (tgt := 612) hx hb dL_wakes_590 (by decide) (fun _ => ?_) (fun c => absurd c (by decide))
                              refine lv_aload_n hx hb dL_wakes_612 rfl (lv_at hl 18 rfl) ?_
                              refine lv_iconst (v := 2) hx hb dL_wakes_613 (by decide) ?_
                              refine lv_iload hx hb dL_wakes_614 (lv_at hl 16 rfl) ?_
                              refine lv_iload hx hb dL_wakes_616 (lv_at hl 15 rfl) ?_
                              refine lv_iload hx hb dL_wakes_618 (lv_at hl 13 rfl) ?_
                              refine lv_iload hx hb dL_wakes_620 (lv_at hl 11 rfl) ?_
                              obtain ⟨E, hser, hE, heR, hG1, hword, hwk⟩ := kq_wake_all hG hn ha mk hw9
                              rw [← hWK] at heR
                              rw [← hWK] at hwk
                              refine fk_lcallS (As := [.ref (ad 0), .int 2, .int (nI t), .int (nI a), .int (nI w9), .int mk]) (rest := []) ⟨hx, hb, hml, hown, hts⟩ (Lc_wake l D ad cI cT cJ _ S _ _ _ _ ((kk_wake (nI a) mk w9 S).2) (nI WK.length) (fun X => by rw [← heR]; exact kc_wake l D ad cI cT cJ X S t ht a ha w9 hw9 mk hs0 hm0 hm1)) (vx_cwSW 6 hts gL_wakes_L_acts rfl rfl rfl (by decide +kernel) ⟨Nat.le_of_ble_eq_true rfl, Nat.le_of_ble_eq_true rfl⟩) hK hP hD hS hA hZ hN rfl hl.1 rfl (Nat.le_of_ble_eq_true rfl) dL_wakes_622 ⟨Nat.le_of_ble_eq_true rfl, Nat.le_of_ble_eq_true rfl⟩ (fun H locs hP hD hS => ?_)
                              refine W.eq (g2 := F0 m 625 ls [.int (nI WK.length)]) rfl ?_
                              refine lv_istore (lv' := [(25, .int (nI WK.length)), (24, .int (-1)), (23, .int 1), (22, .int (S 0 a)), (20, .long (pl_thr S (-1))), (14, .int (nI WK.length)), (16, .long (lN (pl_pk WK))), (18, .long 0), (15, .int 0), (13, .int (pl_last S)), (12, .int 0), (11, .int 0), (10, .int mk), (9, .int fu), (8, .int (nI w9)), (7, .int bw), (6, .int (nI a)), (5, .int (nI t)), (4, .int 0), (0, .ref (ad 0)), (2, .int y), (3, .int od), (1, .ref q)]) hx hb dL_wakes_625 hl (by decide) rfl (fun ls hl => ?_)
                              refine lv_iload hx hb dL_wakes_627 (lv_at hl 2 rfl) ?_
                              refine lv_if_ne (tgt := 676) hx hb dL_wakes_629 (by decide) (fun _ => ?_) (fun c => absurd c (by decide))
                              refine lv_iload hx hb dL_wakes_676 (lv_at hl 0 rfl) ?_
                              refine lv_iload hx hb dL_wakes_678 (lv_at hl 5 rfl) ?_
                              refine lv_iload hx hb dL_wakes_680 (lv_at hl 8 rfl) ?_
                              refine lv_iadd hx hb dL_wakes_682 ?_
                              refine W.eq (g2 := F0 m 683 ls [.int (nI WK.length), .int (nI WK.length)]) (by rw [show (0 : Int32) = nI 0 from rfl, nI_add]; rfl) ?_
                              refine lv_icmp_ne (tgt := 690) hx hb dL_wakes_683 (by decide) (fun c => absurd rfl c) (fun _ => ?_)
                              refine lv_iconst (v := 1) hx hb dL_wakes_686 (by decide) ?_
                              refine lv_goto (tgt := 691) hx hb dL_wakes_687 (by decide) ?_
                              refine lv_istore (lv' := [(26, .int 1), (25, .int (nI WK.length)), (24, .int (-1)), (23, .int 1), (22, .int (S 0 a)), (20, .long (pl_thr S (-1))), (14, .int (nI WK.length)), (16, .long (lN (pl_pk WK))), (18, .long 0), (15, .int 0), (13, .int (pl_last S)), (12, .int 0), (11, .int 0), (10, .int mk), (9, .int fu), (8, .int (nI w9)), (7, .int bw), (6, .int (nI a)), (5, .int (nI t)), (4, .int 0), (0, .ref (ad 0)), (2, .int y), (3, .int od), (1, .ref q)]) hx hb dL_wakes_691 hl (by decide) rfl (fun ls hl => ?_)
                              refine lv_iconst (v := 0) hx hb dL_wakes_693 (by decide) ?_
                              refine lv_istore (lv' := [(27, .int 0), (26, .int 1), (25, .int (nI WK.length)), (24, .int (-1)), (23, .int 1), (22, .int (S 0 a)), (20, .long (pl_thr S (-1))), (14, .int (nI WK.length)), (16, .long (lN (pl_pk WK))), (18, .long 0), (15, .int 0), (13, .int (pl_last S)), (12, .int 0), (11, .int 0), (10, .int mk), (9, .int fu), (8, .int (nI w9)), (7, .int bw), (6, .int (nI a)), (5, .int (nI t)), (4, .int 0), (0, .ref (ad 0)), (2, .int y), (3, .int od), (1, .ref q)]) hx hb dL_wakes_694 hl (by decide) rfl (fun ls hl => ?_)
                              have loop3 : ∀ (n1 : Nat) (k : Nat), k + n1 = WK.length → ∀ (H : Heap) (locs : List Loc) (ls : Array Slot), va_P D vwCl (fk_kW ad cI cT ((kk_wake (nI a) mk w9 S).2) ++ (q, fk_pr cI P) :: X) H → va_D A (fk_kW ad cI cT ((kk_wake (nI a) mk w9 S).2) ++ (q, fk_pr cI P) :: X) → va_S A s.heap H locs → lv_has ls 29 [(27, .int (nI k)), (26, .int 1), (22, .int (S 0 a)), (16, .long (lN (pl_pk WK))), (14, .int (nI WK.length)), (13, .int (pl_last S)), (6, .int (nI a)), (0, .ref (ad 0)), (1, .ref q), (15, .int 0)] → W p l e rm_E s m ([.ref (ad 0), .ref q, .int y, .int od] : List Value).toArray below meth c H locs (0 + 1) (0 + 6) (MQ below (fk_QE D (fk_ty cI cT cJ) A (kq_Phi ad cI cT q X (n + 20))) ([.ref (ad 0), .ref q, .int y, .int od] : List Value).toArray s 2 12 A) (F0 m 696 ls []) := by
                                intro n1
                                induction n1 with
                                | zero =>
                                  intro k hk H locs ls hP hD hS hl
                                  refine lv_iload hx hb dL_wakes_696 (lv_at hl 0 rfl) ?_
                                  refine lv_iload hx hb dL_wakes_698 (lv_at hl 4 rfl) ?_
                                  refine lv_icmp_ge (tgt := 801) hx hb dL_wakes_700 (by decide) (fun c_14 => ?_) (fun c_14 => absurd (nI_le (a := WK.length) (b := k) (by omega) (by omega)) c_14)
                                  refine lv_iconst (v := 0) hx hb dL_wakes_801 (by decide) ?_
                                  refine lv_istore (lv' := [(27, .int 0), (26, .int 1), (22, .int (S 0 a)), (16, .long (lN (pl_pk WK))), (14, .int (nI WK.length)), (13, .int (pl_last S)), (6, .int (nI a)), (0, .ref (ad 0)), (1, .ref q), (15, .int 0)]) hx hb dL_wakes_802 hl (by decide) rfl (fun ls hl => ?_)
                                  refine lv_iload hx hb dL_wakes_804 (lv_at hl 0 rfl) ?_
                                  refine lv_iload hx hb dL_wakes_806 (lv_at hl 9 rfl) ?_
                                  refine lv_icmp_ge (tgt := 901) hx hb dL_wakes_808 (by decide) (fun _ => ?_) (fun c => absurd c (by decide))
                                  refine lv_iload hx hb dL_wakes_901 (lv_at hl 1 rfl) ?_
                                  refine lv_if_eq (tgt := 921) hx hb dL_wakes_903 (by decide) (fun c => absurd c (by decide)) (fun _ => ?_)
                                  refine lv_aload_n hx hb dL_wakes_906 rfl (lv_at hl 7 rfl) ?_
                                  refine lv_iload hx hb dL_wakes_907 (lv_at hl 6 rfl) ?_
                                  refine fk_callV (As := [.int (nI a)]) (rest := []) ⟨hx, hb, hml, hown, hts⟩ (kc_word l D ad cI cT cJ _ ((kk_wake (nI a) mk w9 S).2) a ha) (cwV 1 hts gL_wakes_X2_word rfl rfl rfl (by decide +kernel) ⟨Nat.le_of_ble_eq_true rfl, Nat.le_of_ble_eq_true rfl⟩) (fk_rvK hK hP) hK hP hD hS hA rfl hl.1 rfl (Nat.le_of_ble_eq_true rfl) dL_wakes_909 ⟨Nat.le_of_ble_eq_true rfl, Nat.le_of_ble_eq_true rfl⟩ (fun H locs hP hD hS => ?_)
                                  refine W.eq (g2 := F0 m 912 ls [.int (((kk_wake (nI a) mk w9 S).2) 0 a)]) rfl ?_
                                  refine W.eq (g2 := F0 m 912 ls [.int (S 0 a)]) (by rw [show (((kk_wake (nI a) mk w9 S).2) 0 a) = (S 0 a) from hword]) ?_
                                  refine lv_iload hx hb dL_wakes_912 (lv_at hl 2 rfl) ?_
                                  refine lv_icmp_ne (tgt := 921) hx hb dL_wakes_914 (by decide) (fun c => absurd rfl c) (fun _ => ?_)
                                  refine lv_iconst (v := 1) hx hb dL_wakes_917 (by decide) ?_
                                  refine lv_goto (tgt := 922) hx hb dL_wakes_918 (by decide) ?_
                                  exact fk_zretE (Nat.le_of_ble_eq_true rfl) (Nat.le_of_ble_eq_true rfl) hx hb hr hlocks hP hK hD hS rfl ⟨rfl, _, _, rfl, (hG1).wk (by omega)⟩ dL_wakes_922
                                | succ n1 ih3 =>
                                  intro k hk H locs ls hP hD hS hl
                                  obtain ⟨u, hgu, -⟩ := kq_step hk
                                  have hu9 := hWK8 u (List.mem_of_getElem? hgu)
                                  obtain ⟨hk1, hk2, hk3⟩ := hwk k u hgu
                                  refine lv_iload hx hb dL_wakes_696 (lv_at hl 0 rfl) ?_
                                  refine lv_iload hx hb dL_wakes_698 (lv_at hl 4 rfl) ?_
                                  refine lv_icmp_ge (tgt := 801) hx hb dL_wakes_700 (by decide) (fun c_17 => absurd c_17 (nI_ge (a := k) (b := WK.length) (by omega) (by omega))) (fun c_17 => ?_)
                                  refine lv_iload hx hb dL_wakes_703 (lv_at hl 1 rfl) ?_
                                  refine lv_if_eq (tgt := 801) hx hb dL_wakes_705 (by decide) (fun c => absurd c (by decide)) (fun _ => ?_)
                                  refine lv_lload hx hb dL_wakes_708 (lv_at hl 3 rfl) ?_
                                  refine lv_iconst (v := 4) hx hb dL_wakes_710 (by decide) ?_
                                  refine lv_iload hx hb dL_wakes_711 (lv_at hl 0 rfl) ?_
                                  refine lv_imul hx hb dL_wakes_713 ?_
                                  refine W.eq (g2 := F0 m 714 ls [.int (nI (4 * k)), .long (lN (pl_pk WK))]) (by rw [show (4 : Int32) = nI 4 from rfl, pk_mul]) ?_
                                  refine lv_lshr hx hb dL_wakes_714 rfl ?_
                                  refine lv_ldc2 (own := RL) (v := 15) hx hb hown (hts (.constantLong RL 154 (15)) (List.mem_of_getElem? (i := 4) rfl)) dL_wakes_715 ?_
                                  refine lv_land hx hb dL_wakes_718 ?_
                                  refine lv_l2i hx hb dL_wakes_719 rfl ?_
                                  refine W.eq (g2 := F0 m 720 ls [.int (nI u)]) (by rw [pl_get hWK8 hWKl hgu]) ?_
                                  refine lv_istore (lv' := [(28, .int (nI u)), (27, .int (nI k)), (26, .int 1), (22, .int (S 0 a)), (16, .long (lN (pl_pk WK))), (14, .int (nI WK.length)), (13, .int (pl_last S)), (6, .int (nI a)), (0, .ref (ad 0)), (1, .ref q), (15, .int 0)]) hx hb dL_wakes_720 hl (by decide) rfl (fun ls hl => ?_)
                                  refine lv_aload_n hx hb dL_wakes_722 rfl (lv_at hl 8 rfl) ?_
                                  refine lv_iload hx hb dL_wakes_723 (lv_at hl 0 rfl) ?_
                                  refine fk_callV (As := [.int (nI u)]) (rest := []) ⟨hx, hb, hml, hown, hts⟩ (kc_stateOf l D ad cI cT cJ _ ((kk_wake (nI a) mk w9 S).2) u hu9) (cwV 1 hts gL_wakes_X2_stateOf rfl rfl rfl (by decide +kernel) ⟨Nat.le_of_ble_eq_true rfl, Nat.le_of_ble_eq_true rfl⟩) (fk_rvK hK hP) hK hP hD hS hA rfl hl.1 rfl (Nat.le_of_ble_eq_true rfl) dL_wakes_725 ⟨Nat.le_of_ble_eq_true rfl, Nat.le_of_ble_eq_true rfl⟩ (fun H locs hP hD hS => ?_)
                                  refine W.eq (g2 := F0 m 728 ls [.int (((kk_wake (nI a) mk w9 S).2) 1 u)]) rfl ?_
                                  refine W.eq (g2 := F0 m 728 ls [.int 0]) (by rw [show (((kk_wake (nI a) mk w9 S).2) 1 u) = (0 : Int32) from hk1]) ?_
                                  refine lv_if_ne (tgt := 792) hx hb dL_wakes_728 (by decide) (fun c => absurd c (by decide)) (fun _ => ?_)
                                  refine lv_aload_n hx hb dL_wakes_731 rfl (lv_at hl 8 rfl) ?_
                                  refine lv_iload hx hb dL_wakes_732 (lv_at hl 0 rfl) ?_
                                  refine fk_callV (As := [.int (nI u)]) (rest := []) ⟨hx, hb, hml, hown, hts⟩ (kc_resultOf l D ad cI cT cJ _ ((kk_wake (nI a) mk w9 S).2) u hu9) (cwV 1 hts gL_wakes_X2_resultOf rfl rfl rfl (by decide +kernel) ⟨Nat.le_of_ble_eq_true rfl, Nat.le_of_ble_eq_true rfl⟩) (fk_rvK hK hP) hK hP hD hS hA rfl hl.1 rfl (Nat.le_of_ble_eq_true rfl) dL_wakes_734 ⟨Nat.le_of_ble_eq_true rfl, Nat.le_of_ble_eq_true rfl⟩ (fun H locs hP hD hS => ?_)
                                  refine W.eq (g2 := F0 m 737 ls [.int (((kk_wake (nI a) mk w9 S).2) 8 u)]) rfl ?_
                                  refine W.eq (g2 := F0 m 737 ls [.int 0]) (by rw [show (((kk_wake (nI a) mk w9 S).2) 8 u) = (0 : Int32) from hk2]) ?_
                                  refine lv_if_ne (tgt := 792) hx hb dL_wakes_737 (by decide) (fun c => absurd c (by decide)) (fun _ => ?_)
                                  refine lv_iload hx hb dL_wakes_740 (lv_at hl 1 rfl) ?_
                                  refine lv_if_ne (tgt := 759) hx hb dL_wakes_742 (by decide) (fun c_21 => ?_) (fun c_21 => ?_)
                                  · have hk0 : 1 ≤ k := Nat.pos_of_ne_zero (fun z => c_21 (by rw [z]; rfl))
                                    obtain ⟨u2, hgu2, -⟩ := kq_step (L := WK) (k := k - 1) (n := n1 + 1) (by omega)
                                    have hu29 := hWK8 u2 (List.mem_of_getElem? hgu2)
                                    obtain ⟨-, -, hk4⟩ := hwk (k - 1) u2 hgu2
                                    refine lv_aload_n hx hb dL_wakes_759 rfl (lv_at hl 8 rfl) ?_
                                    refine lv_iload hx hb dL_wakes_760 (lv_at hl 0 rfl) ?_
                                    refine fk_callV (As := [.int (nI u)]) (rest := []) ⟨hx, hb, hml, hown, hts⟩ (kc_serialOf l D ad cI cT cJ _ ((kk_wake (nI a) mk w9 S).2) u hu9) (cwV 1 hts gL_wakes_X2_serialOf rfl rfl rfl (by decide +kernel) ⟨Nat.le_of_ble_eq_true rfl, Nat.le_of_ble_eq_true rfl⟩) (fk_rvK hK hP) hK hP hD hS hA rfl hl.1 rfl (Nat.le_of_ble_eq_true rfl) dL_wakes_762 ⟨Nat.le_of_ble_eq_true rfl, Nat.le_of_ble_eq_true rfl⟩ (fun H locs hP hD hS => ?_)
                                    refine W.eq (g2 := F0 m 765 ls [.int (((kk_wake (nI a) mk w9 S).2) 9 u)]) rfl ?_
                                    refine W.eq (g2 := F0 m 765 ls [.int (nI (E + k + 1))]) (by rw [show (((kk_wake (nI a) mk w9 S).2) 9 u) = (nI (E + k + 1)) from hk3]) ?_
                                    refine lv_aload_n hx hb dL_wakes_765 rfl (lv_at hl 8 rfl) ?_
                                    refine lv_lload hx hb dL_wakes_766 (lv_at hl 4 rfl) ?_
                                    refine lv_iconst (v := 4) hx hb dL_wakes_768 (by decide) ?_
                                    refine lv_iload hx hb dL_wakes_769 (lv_at hl 1 rfl) ?_
                                    refine lv_imul hx hb dL_wakes_771 ?_
                                    refine W.eq (g2 := F0 m 772 ls [.int (nI (4 * k)), .long (lN (pl_pk WK)), .ref (ad 0), .int (nI (E + k + 1))]) (by rw [show (4 : Int32) = nI 4 from rfl, pk_mul]) ?_
                                    refine lv_iconst (v := 4) hx hb dL_wakes_772 (by decide) ?_
                                    refine lv_isub hx hb dL_wakes_773 ?_
                                    refine lv_lshr hx hb dL_wakes_774 rfl ?_
                                    refine lv_ldc2 (own := RL) (v := 15) hx hb hown (hts (.constantLong RL 154 (15)) (List.mem_of_getElem? (i := 4) rfl)) dL_wakes_775 ?_
                                    refine lv_land hx hb dL_wakes_778 ?_
                                    refine lv_l2i hx hb dL_wakes_779 rfl ?_
                                    refine W.eq (g2 := F0 m 780 ls [.int (nI u2), .ref (ad 0), .int (nI (E + k + 1))]) (by rw [pl_get4 hWK8 hWKl hk0 hgu2]) ?_
                                    refine fk_callV (As := [.int (nI u2)]) (rest := [.int (nI (E + k + 1))]) ⟨hx, hb, hml, hown, hts⟩ (kc_serialOf l D ad cI cT cJ _ ((kk_wake (nI a) mk w9 S).2) u2 hu29) (cwV 1 hts gL_wakes_X2_serialOf rfl rfl rfl (by decide +kernel) ⟨Nat.le_of_ble_eq_true rfl, Nat.le_of_ble_eq_true rfl⟩) (fk_rvK hK hP) hK hP hD hS hA rfl hl.1 rfl (Nat.le_of_ble_eq_true rfl) dL_wakes_780 ⟨Nat.le_of_ble_eq_true rfl, Nat.le_of_ble_eq_true rfl⟩ (fun H locs hP hD hS => ?_)
                                    refine W.eq (g2 := F0 m 783 ls [.int (((kk_wake (nI a) mk w9 S).2) 9 u2), .int (nI (E + k + 1))]) rfl ?_
                                    refine W.eq (g2 := F0 m 783 ls [.int (nI (E + (k - 1) + 1)), .int (nI (E + k + 1))]) (by rw [show (((kk_wake (nI a) mk w9 S).2) 9 u2) = (nI (E + (k - 1) + 1)) from hk4]) ?_
                                    refine lv_iconst (v := 1) hx hb dL_wakes_783 (by decide) ?_
                                    refine lv_iadd hx hb dL_wakes_784 ?_
                                    refine W.eq (g2 := F0 m 785 ls [.int (nI (E + (k - 1) + 1 + 1)), .int (nI (E + k + 1))]) (by rw [nI_1]) ?_
                                    refine lv_icmp_ne (tgt := 792) hx hb dL_wakes_785 (by decide) (fun c_22 => absurd c_22 (fun h9 => h9 (congrArg nI (by omega)))) (fun c_22 => ?_)
                                    refine lv_iconst (v := 1) hx hb dL_wakes_788 (by decide) ?_
                                    refine lv_goto (tgt := 793) hx hb dL_wakes_789 (by decide) ?_
                                    refine lv_istore (lv' := [(26, .int 1), (28, .int (nI u)), (27, .int (nI k)), (22, .int (S 0 a)), (16, .long (lN (pl_pk WK))), (14, .int (nI WK.length)), (13, .int (pl_last S)), (6, .int (nI a)), (0, .ref (ad 0)), (1, .ref q), (15, .int 0)]) hx hb dL_wakes_793 hl (by decide) rfl (fun ls hl => ?_)
                                    refine lv_iinc (v := (nI (k + 1))) (lv' := [(27, .int (nI (k + 1))), (26, .int 1), (28, .int (nI u)), (22, .int (S 0 a)), (16, .long (lN (pl_pk WK))), (14, .int (nI WK.length)), (13, .int (pl_last S)), (6, .int (nI a)), (0, .ref (ad 0)), (1, .ref q), (15, .int 0)]) hx hb dL_wakes_795 hl (k := 2) rfl (nI_1 k) (by decide) rfl (fun ls hl => ?_)
                                    refine lv_goto (tgt := 696) hx hb dL_wakes_798 (by decide) ?_
                                    exact ih3 (k + 1) (by omega) _ _ _ hP hD hS (lv_sub hl [0, 1, 3, 4, 5, 6, 7, 8, 9, 10] rfl)
                                  · refine lv_aload_n hx hb dL_wakes_745 rfl (lv_at hl 8 rfl) ?_
                                    refine lv_iload hx hb dL_wakes_746 (lv_at hl 0 rfl) ?_
                                    refine fk_callV (As := [.int (nI u)]) (rest := []) ⟨hx, hb, hml, hown, hts⟩ (kc_serialOf l D ad cI cT cJ _ ((kk_wake (nI a) mk w9 S).2) u hu9) (cwV 1 hts gL_wakes_X2_serialOf rfl rfl rfl (by decide +kernel) ⟨Nat.le_of_ble_eq_true rfl, Nat.le_of_ble_eq_true rfl⟩) (fk_rvK hK hP) hK hP hD hS hA rfl hl.1 rfl (Nat.le_of_ble_eq_true rfl) dL_wakes_748 ⟨Nat.le_of_ble_eq_true rfl, Nat.le_of_ble_eq_true rfl⟩ (fun H locs hP hD hS => ?_)
                                    refine W.eq (g2 := F0 m 751 ls [.int (((kk_wake (nI a) mk w9 S).2) 9 u)]) rfl ?_
                                    refine W.eq (g2 := F0 m 751 ls [.int (nI (E + k + 1))]) (by rw [show (((kk_wake (nI a) mk w9 S).2) 9 u) = (nI (E + k + 1)) from hk3]) ?_
                                    refine lv_iload hx hb dL_wakes_751 (lv_at hl 6 rfl) ?_
                                    refine lv_icmp_le (tgt := 792) hx hb dL_wakes_753 (by decide) (fun c_23 => absurd c_23 (Int32.not_le.mpr (hser k (by omega)))) (fun c_23 => ?_)
                                    refine lv_goto (tgt := 788) hx hb dL_wakes_756 (by decide) ?_
                                    refine lv_iconst (v := 1) hx hb dL_wakes_788 (by decide) ?_
                                    refine lv_goto (tgt := 793) hx hb dL_wakes_789 (by decide) ?_
                                    refine lv_istore (lv' := [(26, .int 1), (28, .int (nI u)), (27, .int (nI k)), (22, .int (S 0 a)), (16, .long (lN (pl_pk WK))), (14, .int (nI WK.length)), (13, .int (pl_last S)), (6, .int (nI a)), (0, .ref (ad 0)), (1, .ref q), (15, .int 0)]) hx hb dL_wakes_793 hl (by decide) rfl (fun ls hl => ?_)
                                    refine lv_iinc (v := (nI (k + 1))) (lv' := [(27, .int (nI (k + 1))), (26, .int 1), (28, .int (nI u)), (22, .int (S 0 a)), (16, .long (lN (pl_pk WK))), (14, .int (nI WK.length)), (13, .int (pl_last S)), (6, .int (nI a)), (0, .ref (ad 0)), (1, .ref q), (15, .int 0)]) hx hb dL_wakes_795 hl (k := 2) rfl (nI_1 k) (by decide) rfl (fun ls hl => ?_)
                                    refine lv_goto (tgt := 696) hx hb dL_wakes_798 (by decide) ?_
                                    exact ih3 (k + 1) (by omega) _ _ _ hP hD hS (lv_sub hl [0, 1, 3, 4, 5, 6, 7, 8, 9, 10] rfl)
                              exact loop3 WK.length 0 (by omega) _ _ _ hP hD hS (lv_sub hl [0, 1, 5, 8, 7, 11, 18, 21, 24, 10] rfl)
                            | succ n1 ih1 =>
                              intro k F c1 f1 hk hF hc1 hf1 H locs ls hP hD hS hl
                              have h8 := kq_A8 S a
                              obtain ⟨u, hgu, hdu⟩ := kq_step hk
                              have hu9 := kq_A_lt hgu
                              rw [hdu] at hF
                              obtain ⟨hF1, hF0⟩ := kq_put hF
                              have hF8 : ∀ u ∈ F, u < 8 := fun z hz => (kq_wt_mem (show z ∈ (kq_wt S a mk) by rw [← hF]; exact List.mem_append_left _ hz)).1
                              have hFl : F.length ≤ 8 := by have h1 := congrArg List.length hF; rw [List.length_append] at h1; have := kq_wt8 S a mk; omega
                              refine lv_iload hx hb dL_wakes_354 (lv_at hl 7 rfl) ?_
                              refine lv_if_ne (tgt := 485) hx hb dL_wakes_356 (by decide) (fun c => absurd c (by decide)) (fun _ => ?_)
                              refine lv_iload hx hb dL_wakes_359 (lv_at hl 6 rfl) ?_
                              refine lv_if_ne (tgt := 485) hx hb dL_wakes_361 (by decide) (fun c => absurd c (by decide)) (fun _ => ?_)
                              refine lv_iload hx hb dL_wakes_364 (lv_at hl 0 rfl) ?_
                              refine lv_aload_n hx hb dL_wakes_366 rfl (lv_at hl 15 rfl) ?_
                              refine lv_iload hx hb dL_wakes_367 (lv_at hl 12 rfl) ?_
                              refine fk_callV (As := [.int (nI a)]) (rest := [.int (nI k)]) ⟨hx, hb, hml, hown, hts⟩ (kc_waiters l D ad cI cT cJ _ S a ha) (cwV 1 hts gL_wakes_X2_waiters rfl rfl rfl (by decide +kernel) ⟨Nat.le_of_ble_eq_true rfl, Nat.le_of_ble_eq_true rfl⟩) (fk_rvK hK hP) hK hP hD hS hA rfl hl.1 rfl (Nat.le_of_ble_eq_true rfl) dL_wakes_369 ⟨Nat.le_of_ble_eq_true rfl, Nat.le_of_ble_eq_true rfl⟩ (fun H locs hP hD hS => ?_)
                              refine W.eq (g2 := F0 m 372 ls [.int (kk_waiters S (nI a)), .int (nI k)]) rfl ?_
                              refine W.eq (g2 := F0 m 372 ls [.int (nI ((kq_A S a).length)), .int (nI k)]) (by rw [show (kk_waiters S (nI a)) = (nI ((kq_A S a).length)) from (kq_waiters _ _)]) ?_
                              refine lv_icmp_ge (tgt := 485) hx hb dL_wakes_372 (by decide) (fun c_26 => absurd c_26 (nI_ge (a := k) (b := (kq_A S a).length) (by omega) (by omega))) (fun c_26 => ?_)
                              refine lv_aload_n hx hb dL_wakes_375 rfl (lv_at hl 15 rfl) ?_
                              refine lv_iload hx hb dL_wakes_376 (lv_at hl 12 rfl) ?_
                              refine lv_iload hx hb dL_wakes_378 (lv_at hl 0 rfl) ?_
                              refine fk_callV (As := [.int (nI a), .int (nI k)]) (rest := []) ⟨hx, hb, hml, hown, hts⟩ (kc_waiterAt l D ad cI cT cJ _ S a ha (nI k) u (by rw [kq_wAt hG.1.J (by omega) (by omega)]; exact hgu)) (cwV 2 hts gL_wakes_X2_waiterAt rfl rfl rfl (by decide +kernel) ⟨Nat.le_of_ble_eq_true rfl, Nat.le_of_ble_eq_true rfl⟩) (fk_rvK hK hP) hK hP hD hS hA rfl hl.1 rfl (Nat.le_of_ble_eq_true rfl) dL_wakes_380 ⟨Nat.le_of_ble_eq_true rfl, Nat.le_of_ble_eq_true rfl⟩ (fun H locs hP hD hS => ?_)
                              refine W.eq (g2 := F0 m 383 ls [.int (nI u)]) rfl ?_
                              refine lv_istore (lv' := [(21, .int (nI u)), (20, .int (nI k)), (14, .int (nI c1)), (16, .long f1), (18, .long 0), (15, .int 0), (13, .int (pl_last S)), (12, .int 0), (11, .int 0), (10, .int mk), (9, .int fu), (8, .int (nI w9)), (7, .int bw), (6, .int (nI a)), (5, .int (nI t)), (4, .int 0), (0, .ref (ad 0)), (2, .int y), (3, .int od), (1, .ref q)]) hx hb dL_wakes_383 hl (by decide) rfl (fun ls hl => ?_)
                              by_cases hs1 : S 1 u = 1
                              · by_cases hft : S 4 u &&& mk = 0
                                · have hF9 := hF0 (by rw [decide_eq_true hs1, decide_eq_false (fun z => z hft)]; rfl)
                                  refine lv_aload_n hx hb dL_wakes_385 rfl (lv_at hl 16 rfl) ?_
                                  refine lv_iload hx hb dL_wakes_386 (lv_at hl 0 rfl) ?_
                                  refine fk_callV (As := [.int (nI u)]) (rest := []) ⟨hx, hb, hml, hown, hts⟩ (kc_stateOf l D ad cI cT cJ _ S u hu9) (cwV 1 hts gL_wakes_X2_stateOf rfl rfl rfl (by decide +kernel) ⟨Nat.le_of_ble_eq_true rfl, Nat.le_of_ble_eq_true rfl⟩) (fk_rvK hK hP) hK hP hD hS hA rfl hl.1 rfl (Nat.le_of_ble_eq_true rfl) dL_wakes_388 ⟨Nat.le_of_ble_eq_true rfl, Nat.le_of_ble_eq_true rfl⟩ (fun H locs hP hD hS => ?_)
                                  refine W.eq (g2 := F0 m 391 ls [.int (S 1 u)]) rfl ?_
                                  refine W.eq (g2 := F0 m 391 ls [.int 1]) (by rw [show (S 1 u) = (1 : Int32) from hs1]) ?_
                                  refine lv_iconst (v := 1) hx hb dL_wakes_391 (by decide) ?_
                                  refine lv_icmp_ne (tgt := 434) hx hb dL_wakes_392 (by decide) (fun c => absurd c (by decide)) (fun _ => ?_)
                                  refine lv_iload hx hb dL_wakes_395 (lv_at hl 2 rfl) ?_
                                  refine lv_iload hx hb dL_wakes_397 (lv_at hl 11 rfl) ?_
                                  refine lv_icmp_ge (tgt := 434) hx hb dL_wakes_399 (by decide) (fun c_28 => ?_) (fun c_28 => ?_)
                                  · refine lv_aload_n hx hb dL_wakes_434 rfl (lv_at hl 16 rfl) ?_
                                    refine lv_iload hx hb dL_wakes_435 (lv_at hl 0 rfl) ?_
                                    refine fk_callV (As := [.int (nI u)]) (rest := []) ⟨hx, hb, hml, hown, hts⟩ (kc_stateOf l D ad cI cT cJ _ S u hu9) (cwV 1 hts gL_wakes_X2_stateOf rfl rfl rfl (by decide +kernel) ⟨Nat.le_of_ble_eq_true rfl, Nat.le_of_ble_eq_true rfl⟩) (fk_rvK hK hP) hK hP hD hS hA rfl hl.1 rfl (Nat.le_of_ble_eq_true rfl) dL_wakes_437 ⟨Nat.le_of_ble_eq_true rfl, Nat.le_of_ble_eq_true rfl⟩ (fun H locs hP hD hS => ?_)
                                    refine W.eq (g2 := F0 m 440 ls [.int (S 1 u)]) rfl ?_
                                    refine W.eq (g2 := F0 m 440 ls [.int 1]) (by rw [show (S 1 u) = (1 : Int32) from hs1]) ?_
                                    refine lv_iconst (v := 1) hx hb dL_wakes_440 (by decide) ?_
                                    refine lv_icmp_ne (tgt := 479) hx hb dL_wakes_441 (by decide) (fun c => absurd c (by decide)) (fun _ => ?_)
                                    refine lv_iload hx hb dL_wakes_444 (lv_at hl 15 rfl) ?_
                                    refine lv_if_eq (tgt := 479) hx hb dL_wakes_446 (by decide) (fun _ => ?_) (fun c => absurd c (by decide))
                                    refine lv_iinc (v := (nI (k + 1))) (lv' := [(20, .int (nI (k + 1))), (21, .int (nI u)), (14, .int (nI c1)), (16, .long f1), (18, .long 0), (15, .int 0), (13, .int (pl_last S)), (12, .int 0), (11, .int 0), (10, .int mk), (9, .int fu), (8, .int (nI w9)), (7, .int bw), (6, .int (nI a)), (5, .int (nI t)), (4, .int 0), (0, .ref (ad 0)), (2, .int y), (3, .int od), (1, .ref q)]) hx hb dL_wakes_479 hl (k := 1) rfl (nI_1 k) (by decide) rfl (fun ls hl => ?_)
                                    refine lv_goto (tgt := 354) hx hb dL_wakes_482 (by decide) ?_
                                    exact ih1 (k + 1) F c1 f1 (by omega) hF9 hc1 hf1 _ _ _ hP hD hS (lv_sub hl [0, 2, 3, 4, 5, 6, 7, 8, 9, 10, 11, 12, 13, 14, 15, 16, 17, 18, 19] rfl)
                                  · refine lv_aload_n hx hb dL_wakes_402 rfl (lv_at hl 19 rfl) ?_
                                    refine lv_bipush (v := 8) hx hb dL_wakes_403 (by decide) ?_
                                    refine lv_iload hx hb dL_wakes_405 (lv_at hl 0 rfl) ?_
                                    refine lv_iadd hx hb dL_wakes_407 ?_
                                    refine W.eq (g2 := F0 m 408 ls [.int (nI (8 + u)), .ref q]) (by rw [show (8 : Int32) = nI 8 from rfl, nI_add]) ?_
                                    refine va_iald hx hb hK hP 27 0 fk_at27 rfl (vp_in_nI (show 8 + u < 16 from (by omega)) (by decide)) dL_wakes_408 ?_
                                    refine W.eq (g2 := F0 m 409 ls [.int (P (8 + u))]) (by rw [nI_clamp (by omega)]) ?_
                                    refine W.eq (g2 := F0 m 409 ls [.int (S 4 u)]) (by rw [show (P (8 + u)) = (S 4 u) from (kq_mask hG.1 hu9 hs1).1]) ?_
                                    refine lv_iload hx hb dL_wakes_409 (lv_at hl 9 rfl) ?_
                                    refine lv_iand hx hb dL_wakes_411 ?_
                                    refine lv_if_eq (tgt := 434) hx hb dL_wakes_412 (by decide) (fun c_31 => ?_) (fun c9 => absurd hft c9)
                                    refine lv_aload_n hx hb dL_wakes_434 rfl (lv_at hl 16 rfl) ?_
                                    refine lv_iload hx hb dL_wakes_435 (lv_at hl 0 rfl) ?_
                                    refine fk_callV (As := [.int (nI u)]) (rest := []) ⟨hx, hb, hml, hown, hts⟩ (kc_stateOf l D ad cI cT cJ _ S u hu9) (cwV 1 hts gL_wakes_X2_stateOf rfl rfl rfl (by decide +kernel) ⟨Nat.le_of_ble_eq_true rfl, Nat.le_of_ble_eq_true rfl⟩) (fk_rvK hK hP) hK hP hD hS hA rfl hl.1 rfl (Nat.le_of_ble_eq_true rfl) dL_wakes_437 ⟨Nat.le_of_ble_eq_true rfl, Nat.le_of_ble_eq_true rfl⟩ (fun H locs hP hD hS => ?_)
                                    refine W.eq (g2 := F0 m 440 ls [.int (S 1 u)]) rfl ?_
                                    refine W.eq (g2 := F0 m 440 ls [.int 1]) (by rw [show (S 1 u) = (1 : Int32) from hs1]) ?_
                                    refine lv_iconst (v := 1) hx hb dL_wakes_440 (by decide) ?_
                                    refine lv_icmp_ne (tgt := 479) hx hb dL_wakes_441 (by decide) (fun c => absurd c (by decide)) (fun _ => ?_)
                                    refine lv_iload hx hb dL_wakes_444 (lv_at hl 15 rfl) ?_
                                    refine lv_if_eq (tgt := 479) hx hb dL_wakes_446 (by decide) (fun _ => ?_) (fun c => absurd c (by decide))
                                    refine lv_iinc (v := (nI (k + 1))) (lv' := [(20, .int (nI (k + 1))), (21, .int (nI u)), (14, .int (nI c1)), (16, .long f1), (18, .long 0), (15, .int 0), (13, .int (pl_last S)), (12, .int 0), (11, .int 0), (10, .int mk), (9, .int fu), (8, .int (nI w9)), (7, .int bw), (6, .int (nI a)), (5, .int (nI t)), (4, .int 0), (0, .ref (ad 0)), (2, .int y), (3, .int od), (1, .ref q)]) hx hb dL_wakes_479 hl (k := 1) rfl (nI_1 k) (by decide) rfl (fun ls hl => ?_)
                                    refine lv_goto (tgt := 354) hx hb dL_wakes_482 (by decide) ?_
                                    exact ih1 (k + 1) F c1 f1 (by omega) hF9 hc1 hf1 _ _ _ hP hD hS (lv_sub hl [0, 2, 3, 4, 5, 6, 7, 8, 9, 10, 11, 12, 13, 14, 15, 16, 17, 18, 19] rfl)
                                · have hF9 := hF1 (by rw [decide_eq_true hs1, decide_eq_true (show S 4 u &&& mk ≠ 0 from hft)]; rfl)
                                  by_cases hlt : F.length < w9
                                  · have hTF : F.take w9 = F := List.take_of_length_le (by omega)
                                    have hTu : (F ++ [u]).take w9 = F ++ [u] := List.take_of_length_le (by rw [List.length_append]; simp; omega)
                                    rw [hTF] at hc1 hf1
                                    have hl : lv_has ls 29 [(21, .int (nI u)), (20, .int (nI k)), (14, .int (nI F.length)), (16, .long (lN (pl_pk F))), (18, .long 0), (15, .int 0), (13, .int (pl_last S)), (12, .int 0), (11, .int 0), (10, .int mk), (9, .int fu), (8, .int (nI w9)), (7, .int bw), (6, .int (nI a)), (5, .int (nI t)), (4, .int 0), (0, .ref (ad 0)), (2, .int y), (3, .int od), (1, .ref q)] := by rw [hc1, hf1] at hl; exact hl
                                    refine lv_aload_n hx hb dL_wakes_385 rfl (lv_at hl 16 rfl) ?_
                                    refine lv_iload hx hb dL_wakes_386 (lv_at hl 0 rfl) ?_
                                    refine fk_callV (As := [.int (nI u)]) (rest := []) ⟨hx, hb, hml, hown, hts⟩ (kc_stateOf l D ad cI cT cJ _ S u hu9) (cwV 1 hts gL_wakes_X2_stateOf rfl rfl rfl (by decide +kernel) ⟨Nat.le_of_ble_eq_true rfl, Nat.le_of_ble_eq_true rfl⟩) (fk_rvK hK hP) hK hP hD hS hA rfl hl.1 rfl (Nat.le_of_ble_eq_true rfl) dL_wakes_388 ⟨Nat.le_of_ble_eq_true rfl, Nat.le_of_ble_eq_true rfl⟩ (fun H locs hP hD hS => ?_)
                                    refine W.eq (g2 := F0 m 391 ls [.int (S 1 u)]) rfl ?_
                                    refine W.eq (g2 := F0 m 391 ls [.int 1]) (by rw [show (S 1 u) = (1 : Int32) from hs1]) ?_
                                    refine lv_iconst (v := 1) hx hb dL_wakes_391 (by decide) ?_
                                    refine lv_icmp_ne (tgt := 434) hx hb dL_wakes_392 (by decide) (fun c => absurd c (by decide)) (fun _ => ?_)
                                    refine lv_iload hx hb dL_wakes_395 (lv_at hl 2 rfl) ?_
                                    refine lv_iload hx hb dL_wakes_397 (lv_at hl 11 rfl) ?_
                                    refine lv_icmp_ge (tgt := 434) hx hb dL_wakes_399 (by decide) (fun c_35 => absurd c_35 (nI_ge (a := F.length) (b := w9) hlt (by omega))) (fun c_35 => ?_)
                                    refine lv_aload_n hx hb dL_wakes_402 rfl (lv_at hl 19 rfl) ?_
                                    refine lv_bipush (v := 8) hx hb dL_wakes_403 (by decide) ?_
                                    refine lv_iload hx hb dL_wakes_405 (lv_at hl 0 rfl) ?_
                                    refine lv_iadd hx hb dL_wakes_407 ?_
                                    refine W.eq (g2 := F0 m 408 ls [.int (nI (8 + u)), .ref q]) (by rw [show (8 : Int32) = nI 8 from rfl, nI_add]) ?_
                                    refine va_iald hx hb hK hP 27 0 fk_at27 rfl (vp_in_nI (show 8 + u < 16 from (by omega)) (by decide)) dL_wakes_408 ?_
                                    refine W.eq (g2 := F0 m 409 ls [.int (P (8 + u))]) (by rw [nI_clamp (by omega)]) ?_
                                    refine W.eq (g2 := F0 m 409 ls [.int (S 4 u)]) (by rw [show (P (8 + u)) = (S 4 u) from (kq_mask hG.1 hu9 hs1).1]) ?_
                                    refine lv_iload hx hb dL_wakes_409 (lv_at hl 9 rfl) ?_
                                    refine lv_iand hx hb dL_wakes_411 ?_
                                    refine lv_if_eq (tgt := 434) hx hb dL_wakes_412 (by decide) (fun c_36 => absurd c_36 hft) (fun c_36 => ?_)
                                    refine lv_lload hx hb dL_wakes_415 (lv_at hl 3 rfl) ?_
                                    refine lv_iload hx hb dL_wakes_417 (lv_at hl 0 rfl) ?_
                                    refine lv_i2l hx hb dL_wakes_419 rfl ?_
                                    refine lv_iconst (v := 4) hx hb dL_wakes_420 (by decide) ?_
                                    refine lv_iload hx hb dL_wakes_421 (lv_at hl 2 rfl) ?_
                                    refine lv_imul hx hb dL_wakes_423 ?_
                                    refine W.eq (g2 := F0 m 424 ls [.int (nI (4 * F.length)), .long ((nI u).toInt64), .long (lN (pl_pk F))]) (by rw [show (4 : Int32) = nI 4 from rfl, pk_mul]) ?_
                                    refine lv_lshl hx hb dL_wakes_424 rfl ?_
                                    refine lv_lor hx hb dL_wakes_425 ?_
                                    refine W.eq (g2 := F0 m 426 ls [.long (lN (pl_pk (F ++ [u])))]) (by rw [pl_put hF8 (by omega) hu9]) ?_
                                    refine lv_lstore (lv' := [(16, .long (lN (pl_pk (F ++ [u])))), (21, .int (nI u)), (20, .int (nI k)), (14, .int (nI F.length)), (18, .long 0), (15, .int 0), (13, .int (pl_last S)), (12, .int 0), (11, .int 0), (10, .int mk), (9, .int fu), (8, .int (nI w9)), (7, .int bw), (6, .int (nI a)), (5, .int (nI t)), (4, .int 0), (0, .ref (ad 0)), (2, .int y), (3, .int od), (1, .ref q)]) hx hb dL_wakes_426 hl (by decide) rfl (fun ls hl => ?_)
                                    refine lv_iinc (v := (nI (F.length + 1))) (lv' := [(14, .int (nI (F.length + 1))), (16, .long (lN (pl_pk (F ++ [u])))), (21, .int (nI u)), (20, .int (nI k)), (18, .long 0), (15, .int 0), (13, .int (pl_last S)), (12, .int 0), (11, .int 0), (10, .int mk), (9, .int fu), (8, .int (nI w9)), (7, .int bw), (6, .int (nI a)), (5, .int (nI t)), (4, .int 0), (0, .ref (ad 0)), (2, .int y), (3, .int od), (1, .ref q)]) hx hb dL_wakes_428 hl (k := 3) rfl (nI_1 F.length) (by decide) rfl (fun ls hl => ?_)
                                    refine lv_goto (tgt := 479) hx hb dL_wakes_431 (by decide) ?_
                                    refine lv_iinc (v := (nI (k + 1))) (lv' := [(20, .int (nI (k + 1))), (14, .int (nI (F.length + 1))), (16, .long (lN (pl_pk (F ++ [u])))), (21, .int (nI u)), (18, .long 0), (15, .int 0), (13, .int (pl_last S)), (12, .int 0), (11, .int 0), (10, .int mk), (9, .int fu), (8, .int (nI w9)), (7, .int bw), (6, .int (nI a)), (5, .int (nI t)), (4, .int 0), (0, .ref (ad 0)), (2, .int y), (3, .int od), (1, .ref q)]) hx hb dL_wakes_479 hl (k := 3) rfl (nI_1 k) (by decide) rfl (fun ls hl => ?_)
                                    refine lv_goto (tgt := 354) hx hb dL_wakes_482 (by decide) ?_
                                    exact ih1 (k + 1) (F ++ [u]) (F.length + 1) (lN (pl_pk (F ++ [u]))) (by omega) hF9 (by rw [hTu, List.length_append]; rfl) (by rw [hTu]) _ _ _ hP hD hS (lv_sub hl [0, 1, 2, 4, 5, 6, 7, 8, 9, 10, 11, 12, 13, 14, 15, 16, 17, 18, 19] rfl)
                                  · have hcw : c1 = w9 := by rw [hc1, List.length_take]; omega
                                    have hTb : (F ++ [u]).take w9 = F.take w9 := List.take_append_of_le_length (by omega)
                                    have hl : lv_has ls 29 [(21, .int (nI u)), (20, .int (nI k)), (14, .int (nI w9)), (16, .long f1), (18, .long 0), (15, .int 0), (13, .int (pl_last S)), (12, .int 0), (11, .int 0), (10, .int mk), (9, .int fu), (8, .int (nI w9)), (7, .int bw), (6, .int (nI a)), (5, .int (nI t)), (4, .int 0), (0, .ref (ad 0)), (2, .int y), (3, .int od), (1, .ref q)] := by rw [hcw] at hl; exact hl
                                    refine lv_aload_n hx hb dL_wakes_385 rfl (lv_at hl 16 rfl) ?_
                                    refine lv_iload hx hb dL_wakes_386 (lv_at hl 0 rfl) ?_
                                    refine fk_callV (As := [.int (nI u)]) (rest := []) ⟨hx, hb, hml, hown, hts⟩ (kc_stateOf l D ad cI cT cJ _ S u hu9) (cwV 1 hts gL_wakes_X2_stateOf rfl rfl rfl (by decide +kernel) ⟨Nat.le_of_ble_eq_true rfl, Nat.le_of_ble_eq_true rfl⟩) (fk_rvK hK hP) hK hP hD hS hA rfl hl.1 rfl (Nat.le_of_ble_eq_true rfl) dL_wakes_388 ⟨Nat.le_of_ble_eq_true rfl, Nat.le_of_ble_eq_true rfl⟩ (fun H locs hP hD hS => ?_)
                                    refine W.eq (g2 := F0 m 391 ls [.int (S 1 u)]) rfl ?_
                                    refine W.eq (g2 := F0 m 391 ls [.int 1]) (by rw [show (S 1 u) = (1 : Int32) from hs1]) ?_
                                    refine lv_iconst (v := 1) hx hb dL_wakes_391 (by decide) ?_
                                    refine lv_icmp_ne (tgt := 434) hx hb dL_wakes_392 (by decide) (fun c => absurd c (by decide)) (fun _ => ?_)
                                    refine lv_iload hx hb dL_wakes_395 (lv_at hl 2 rfl) ?_
                                    refine lv_iload hx hb dL_wakes_397 (lv_at hl 11 rfl) ?_
                                    refine lv_icmp_ge (tgt := 434) hx hb dL_wakes_399 (by decide) (fun c_38 => ?_) (fun c9 => absurd (nI_le (Nat.le_refl w9) (by omega)) c9)
                                    refine lv_aload_n hx hb dL_wakes_434 rfl (lv_at hl 16 rfl) ?_
                                    refine lv_iload hx hb dL_wakes_435 (lv_at hl 0 rfl) ?_
                                    refine fk_callV (As := [.int (nI u)]) (rest := []) ⟨hx, hb, hml, hown, hts⟩ (kc_stateOf l D ad cI cT cJ _ S u hu9) (cwV 1 hts gL_wakes_X2_stateOf rfl rfl rfl (by decide +kernel) ⟨Nat.le_of_ble_eq_true rfl, Nat.le_of_ble_eq_true rfl⟩) (fk_rvK hK hP) hK hP hD hS hA rfl hl.1 rfl (Nat.le_of_ble_eq_true rfl) dL_wakes_437 ⟨Nat.le_of_ble_eq_true rfl, Nat.le_of_ble_eq_true rfl⟩ (fun H locs hP hD hS => ?_)
                                    refine W.eq (g2 := F0 m 440 ls [.int (S 1 u)]) rfl ?_
                                    refine W.eq (g2 := F0 m 440 ls [.int 1]) (by rw [show (S 1 u) = (1 : Int32) from hs1]) ?_
                                    refine lv_iconst (v := 1) hx hb dL_wakes_440 (by decide) ?_
                                    refine lv_icmp_ne (tgt := 479) hx hb dL_wakes_441 (by decide) (fun c => absurd c (by decide)) (fun _ => ?_)
                                    refine lv_iload hx hb dL_wakes_444 (lv_at hl 15 rfl) ?_
                                    refine lv_if_eq (tgt := 479) hx hb dL_wakes_446 (by decide) (fun _ => ?_) (fun c => absurd c (by decide))
                                    refine lv_iinc (v := (nI (k + 1))) (lv' := [(20, .int (nI (k + 1))), (21, .int (nI u)), (14, .int (nI w9)), (16, .long f1), (18, .long 0), (15, .int 0), (13, .int (pl_last S)), (12, .int 0), (11, .int 0), (10, .int mk), (9, .int fu), (8, .int (nI w9)), (7, .int bw), (6, .int (nI a)), (5, .int (nI t)), (4, .int 0), (0, .ref (ad 0)), (2, .int y), (3, .int od), (1, .ref q)]) hx hb dL_wakes_479 hl (k := 1) rfl (nI_1 k) (by decide) rfl (fun ls hl => ?_)
                                    refine lv_goto (tgt := 354) hx hb dL_wakes_482 (by decide) ?_
                                    exact ih1 (k + 1) (F ++ [u]) w9 f1 (by omega) hF9 (by rw [hTb, ← hc1, hcw]) (by rw [hTb]; exact hf1) _ _ _ hP hD hS (lv_sub hl [0, 2, 3, 4, 5, 6, 7, 8, 9, 10, 11, 12, 13, 14, 15, 16, 17, 18, 19] rfl)
                              · have hF9 := hF0 (by rw [decide_eq_false hs1]; rfl)
                                refine lv_aload_n hx hb dL_wakes_385 rfl (lv_at hl 16 rfl) ?_
                                refine lv_iload hx hb dL_wakes_386 (lv_at hl 0 rfl) ?_
                                refine fk_callV (As := [.int (nI u)]) (rest := []) ⟨hx, hb, hml, hown, hts⟩ (kc_stateOf l D ad cI cT cJ _ S u hu9) (cwV 1 hts gL_wakes_X2_stateOf rfl rfl rfl (by decide +kernel) ⟨Nat.le_of_ble_eq_true rfl, Nat.le_of_ble_eq_true rfl⟩) (fk_rvK hK hP) hK hP hD hS hA rfl hl.1 rfl (Nat.le_of_ble_eq_true rfl) dL_wakes_388 ⟨Nat.le_of_ble_eq_true rfl, Nat.le_of_ble_eq_true rfl⟩ (fun H locs hP hD hS => ?_)
                                refine W.eq (g2 := F0 m 391 ls [.int (S 1 u)]) rfl ?_
                                refine lv_iconst (v := 1) hx hb dL_wakes_391 (by decide) ?_
                                refine lv_icmp_ne (tgt := 434) hx hb dL_wakes_392 (by decide) (fun c_41 => ?_) (fun c9 => absurd c9 hs1)
                                refine lv_aload_n hx hb dL_wakes_434 rfl (lv_at hl 16 rfl) ?_
                                refine lv_iload hx hb dL_wakes_435 (lv_at hl 0 rfl) ?_
                                refine fk_callV (As := [.int (nI u)]) (rest := []) ⟨hx, hb, hml, hown, hts⟩ (kc_stateOf l D ad cI cT cJ _ S u hu9) (cwV 1 hts gL_wakes_X2_stateOf rfl rfl rfl (by decide +kernel) ⟨Nat.le_of_ble_eq_true rfl, Nat.le_of_ble_eq_true rfl⟩) (fk_rvK hK hP) hK hP hD hS hA rfl hl.1 rfl (Nat.le_of_ble_eq_true rfl) dL_wakes_437 ⟨Nat.le_of_ble_eq_true rfl, Nat.le_of_ble_eq_true rfl⟩ (fun H locs hP hD hS => ?_)
                                refine W.eq (g2 := F0 m 440 ls [.int (S 1 u)]) rfl ?_
                                refine lv_iconst (v := 1) hx hb dL_wakes_440 (by decide) ?_
                                refine lv_icmp_ne (tgt := 479) hx hb dL_wakes_441 (by decide) (fun c_42 => ?_) (fun c9 => absurd c9 hs1)
                                refine lv_iinc (v := (nI (k + 1))) (lv' := [(20, .int (nI (k + 1))), (21, .int (nI u)), (14, .int (nI c1)), (16, .long f1), (18, .long 0), (15, .int 0), (13, .int (pl_last S)), (12, .int 0), (11, .int 0), (10, .int mk), (9, .int fu), (8, .int (nI w9)), (7, .int bw), (6, .int (nI a)), (5, .int (nI t)), (4, .int 0), (0, .ref (ad 0)), (2, .int y), (3, .int od), (1, .ref q)]) hx hb dL_wakes_479 hl (k := 1) rfl (nI_1 k) (by decide) rfl (fun ls hl => ?_)
                                refine lv_goto (tgt := 354) hx hb dL_wakes_482 (by decide) ?_
                                exact ih1 (k + 1) F c1 f1 (by omega) hF9 hc1 hf1 _ _ _ hP hD hS (lv_sub hl [0, 2, 3, 4, 5, 6, 7, 8, 9, 10, 11, 12, 13, 14, 15, 16, 17, 18, 19] rfl)
                          exact loop1 (kq_A S a).length 0 [] 0 0 (by omega) (by rw [List.nil_append]; rfl) (by rw [List.take_nil]; rfl) (by rw [List.take_nil]; rfl) _ _ _ hP hD hS (lv_sub hl [0, 4, 2, 1, 3, 5, 6, 7, 8, 9, 10, 11, 12, 13, 14, 15, 17, 18, 16] rfl)
                        · refine lv_aload_n hx hb dL_wakes_333 rfl (lv_at hl 9 rfl) ?_
                          refine fk_callS (As := [.ref (ad 0)]) (rest := []) ⟨hx, hb, hml, hown, hts⟩ (kl_last l D ad cI cT cJ _ S) (va_cwS 1 hts gL_wakes_L_last rfl rfl rfl (by decide +kernel) ⟨Nat.le_of_ble_eq_true rfl, Nat.le_of_ble_eq_true rfl⟩) hK hP hD hS hA rfl hl.1 rfl (Nat.le_of_ble_eq_true rfl) dL_wakes_334 ⟨Nat.le_of_ble_eq_true rfl, Nat.le_of_ble_eq_true rfl⟩ (fun H locs hP hD hS => ?_)
                          refine W.eq (g2 := F0 m 337 ls [.int (pl_last S)]) rfl ?_
                          refine lv_istore (lv' := [(13, .int (pl_last S)), (12, .int 0), (11, .int 0), (10, .int mk), (9, .int fu), (8, .int (nI w9)), (7, .int bw), (6, .int (nI a)), (5, .int (nI t)), (4, .int 0), (0, .ref (ad 0)), (1, .ref q), (2, .int y), (3, .int od)]) hx hb dL_wakes_337 hl (by decide) rfl (fun ls hl => ?_)
                          refine lv_iconst (v := 0) hx hb dL_wakes_339 (by decide) ?_
                          refine lv_istore (lv' := [(14, .int 0), (13, .int (pl_last S)), (12, .int 0), (11, .int 0), (10, .int mk), (9, .int fu), (8, .int (nI w9)), (7, .int bw), (6, .int (nI a)), (5, .int (nI t)), (4, .int 0), (0, .ref (ad 0)), (1, .ref q), (2, .int y), (3, .int od)]) hx hb dL_wakes_340 hl (by decide) rfl (fun ls hl => ?_)
                          refine lv_iconst (v := 0) hx hb dL_wakes_342 (by decide) ?_
                          refine lv_istore (lv' := [(15, .int 0), (14, .int 0), (13, .int (pl_last S)), (12, .int 0), (11, .int 0), (10, .int mk), (9, .int fu), (8, .int (nI w9)), (7, .int bw), (6, .int (nI a)), (5, .int (nI t)), (4, .int 0), (0, .ref (ad 0)), (1, .ref q), (2, .int y), (3, .int od)]) hx hb dL_wakes_343 hl (by decide) rfl (fun ls hl => ?_)
                          refine lv_lconst (v := 0) hx hb dL_wakes_345 (by decide) ?_
                          refine lv_lstore (lv' := [(16, .long 0), (15, .int 0), (14, .int 0), (13, .int (pl_last S)), (12, .int 0), (11, .int 0), (10, .int mk), (9, .int fu), (8, .int (nI w9)), (7, .int bw), (6, .int (nI a)), (5, .int (nI t)), (4, .int 0), (0, .ref (ad 0)), (1, .ref q), (2, .int y), (3, .int od)]) hx hb dL_wakes_346 hl (by decide) rfl (fun ls hl => ?_)
                          refine lv_lconst (v := 0) hx hb dL_wakes_348 (by decide) ?_
                          refine lv_lstore (lv' := [(18, .long 0), (16, .long 0), (15, .int 0), (14, .int 0), (13, .int (pl_last S)), (12, .int 0), (11, .int 0), (10, .int mk), (9, .int fu), (8, .int (nI w9)), (7, .int bw), (6, .int (nI a)), (5, .int (nI t)), (4, .int 0), (0, .ref (ad 0)), (1, .ref q), (2, .int y), (3, .int od)]) hx hb dL_wakes_349 hl (by decide) rfl (fun ls hl => ?_)
                          refine lv_iconst (v := 0) hx hb dL_wakes_351 (by decide) ?_
                          refine lv_istore (lv' := [(20, .int 0), (18, .long 0), (16, .long 0), (15, .int 0), (14, .int 0), (13, .int (pl_last S)), (12, .int 0), (11, .int 0), (10, .int mk), (9, .int fu), (8, .int (nI w9)), (7, .int bw), (6, .int (nI a)), (5, .int (nI t)), (4, .int 0), (0, .ref (ad 0)), (1, .ref q), (2, .int y), (3, .int od)]) hx hb dL_wakes_352 hl (by decide) rfl (fun ls hl => ?_)
                          have loop1 : ∀ (n1 : Nat) (k : Nat) (F : List Nat) (c1 : Nat) (f1 : Int64), k + n1 = (kq_A S a).length → F ++ ((kq_A S a).drop k).filter (fun t => decide (S 1 t = 1) && decide (S 4 t &&& mk ≠ 0)) = (kq_wt S a mk) → c1 = (F.take w9).length → f1 = lN (pl_pk (F.take w9)) → ∀ (H : Heap) (locs : List Loc) (ls : Array Slot), va_P D vwCl (fk_kW ad cI cT S ++ (q, fk_pr cI P) :: X) H → va_D A (fk_kW ad cI cT S ++ (q, fk_pr cI P) :: X) → va_S A s.heap H locs → lv_has ls 29 [(20, .int (nI k)), (14, .int (nI c1)), (16, .long f1), (18, .long 0), (15, .int 0), (13, .int (pl_last S)), (12, .int 0), (11, .int 0), (10, .int mk), (9, .int fu), (8, .int (nI w9)), (7, .int bw), (6, .int (nI a)), (5, .int (nI t)), (4, .int 0), (0, .ref (ad 0)), (2, .int y), (3, .int od), (1, .ref q)] → W p l e rm_E s m ([.ref (ad 0), .ref q, .int y, .int od] : List Value).toArray below meth c H locs 0 0 (MQ below (fk_QE D (fk_ty cI cT cJ) A (kq_Phi ad cI cT q X (n + 20))) ([.ref (ad 0), .ref q, .int y, .int od] : List Value).toArray s 2 12 A) (F0 m 354 ls []) := by
                            intro n1
                            induction n1 with
                            | zero =>
                              intro k F c1 f1 hk hF hc1 hf1 H locs ls hP hD hS hl
                              have h8 := kq_A8 S a
                              have hFW : F = (kq_wt S a mk) := by rw [← hF, (kq_stop hk).2]; simp
                              obtain ⟨WK, hWK⟩ : ∃ WK, WK = (kq_wt S a mk).take w9 := ⟨_, rfl⟩
                              rw [hFW, ← hWK] at hc1 hf1
                              have hWK8 : ∀ u ∈ WK, u < 8 := fun z hz => by rw [hWK] at hz; exact (kq_wt_mem (List.mem_of_mem_take hz)).1
                              have hWKl : WK.length ≤ 8 := by rw [hWK, List.length_take]; have := kq_wt8 S a mk; omega
                              have hl : lv_has ls 29 [(20, .int (nI k)), (14, .int (nI WK.length)), (16, .long (lN (pl_pk WK))), (18, .long 0), (15, .int 0), (13, .int (pl_last S)), (12, .int 0), (11, .int 0), (10, .int mk), (9, .int fu), (8, .int (nI w9)), (7, .int bw), (6, .int (nI a)), (5, .int (nI t)), (4, .int 0), (0, .ref (ad 0)), (2, .int y), (3, .int od), (1, .ref q)] := by rw [hc1, hf1] at hl; exact hl
                              refine lv_iload hx hb dL_wakes_354 (lv_at hl 7 rfl) ?_
                              refine lv_if_ne (tgt := 485) hx hb dL_wakes_356 (by decide) (fun c => absurd c (by decide)) (fun _ => ?_)
                              refine lv_iload hx hb dL_wakes_359 (lv_at hl 6 rfl) ?_
                              refine lv_if_ne (tgt := 485) hx hb dL_wakes_361 (by decide) (fun c => absurd c (by decide)) (fun _ => ?_)
                              refine lv_iload hx hb dL_wakes_364 (lv_at hl 0 rfl) ?_
                              refine lv_aload_n hx hb dL_wakes_366 rfl (lv_at hl 15 rfl) ?_
                              refine lv_iload hx hb dL_wakes_367 (lv_at hl 12 rfl) ?_
                              refine fk_callV (As := [.int (nI a)]) (rest := [.int (nI k)]) ⟨hx, hb, hml, hown, hts⟩ (kc_waiters l D ad cI cT cJ _ S a ha) (cwV 1 hts gL_wakes_X2_waiters rfl rfl rfl (by decide +kernel) ⟨Nat.le_of_ble_eq_true rfl, Nat.le_of_ble_eq_true rfl⟩) (fk_rvK hK hP) hK hP hD hS hA rfl hl.1 rfl (Nat.le_of_ble_eq_true rfl) dL_wakes_369 ⟨Nat.le_of_ble_eq_true rfl, Nat.le_of_ble_eq_true rfl⟩ (fun H locs hP hD hS => ?_)
                              refine W.eq (g2 := F0 m 372 ls [.int (kk_waiters S (nI a)), .int (nI k)]) rfl ?_
                              refine W.eq (g2 := F0 m 372 ls [.int (nI ((kq_A S a).length)), .int (nI k)]) (by rw [show (kk_waiters S (nI a)) = (nI ((kq_A S a).length)) from (kq_waiters _ _)]) ?_
                              refine lv_icmp_ge (tgt := 485) hx hb dL_wakes_372 (by decide) (fun c_45 => ?_) (fun c_45 => absurd (nI_le (a := (kq_A S a).length) (b := k) (by omega) (by omega)) c_45)
                              refine lv_aload_n hx hb dL_wakes_485 rfl (lv_at hl 15 rfl) ?_
                              refine lv_iconst (v := (-1)) hx hb dL_wakes_486 (by decide) ?_
                              refine fk_callS (As := [.ref (ad 0), .int (-1)]) (rest := []) ⟨hx, hb, hml, hown, hts⟩ (kl_threads l D ad cI cT cJ _ S hG.1.sz hG.1.J (-1)) (va_cwS 2 hts gL_wakes_L_threads rfl rfl rfl (by decide +kernel) ⟨Nat.le_of_ble_eq_true rfl, Nat.le_of_ble_eq_true rfl⟩) hK hP hD hS hA rfl hl.1 rfl (Nat.le_of_ble_eq_true rfl) dL_wakes_487 ⟨Nat.le_of_ble_eq_true rfl, Nat.le_of_ble_eq_true rfl⟩ (fun H locs hP hD hS => ?_)
                              refine W.eq (g2 := F0 m 490 ls [.long (pl_thr S (-1))]) rfl ?_
                              refine lv_lstore (lv' := [(20, .long (pl_thr S (-1))), (14, .int (nI WK.length)), (16, .long (lN (pl_pk WK))), (18, .long 0), (15, .int 0), (13, .int (pl_last S)), (12, .int 0), (11, .int 0), (10, .int mk), (9, .int fu), (8, .int (nI w9)), (7, .int bw), (6, .int (nI a)), (5, .int (nI t)), (4, .int 0), (0, .ref (ad 0)), (2, .int y), (3, .int od), (1, .ref q)]) hx hb dL_wakes_490 hl (by decide) rfl (fun ls hl => ?_)
                              refine lv_iload hx hb dL_wakes_492 (lv_at hl 7 rfl) ?_
                              refine lv_if_eq (tgt := 501) hx hb dL_wakes_494 (by decide) (fun _ => ?_) (fun c => absurd c (by decide))
                              refine lv_aload_n hx hb dL_wakes_501 rfl (lv_at hl 15 rfl) ?_
                              refine lv_iload hx hb dL_wakes_502 (lv_at hl 12 rfl) ?_
                              refine fk_callV (As := [.int (nI a)]) (rest := []) ⟨hx, hb, hml, hown, hts⟩ (kc_word l D ad cI cT cJ _ S a ha) (cwV 1 hts gL_wakes_X2_word rfl rfl rfl (by decide +kernel) ⟨Nat.le_of_ble_eq_true rfl, Nat.le_of_ble_eq_true rfl⟩) (fk_rvK hK hP) hK hP hD hS hA rfl hl.1 rfl (Nat.le_of_ble_eq_true rfl) dL_wakes_504 ⟨Nat.le_of_ble_eq_true rfl, Nat.le_of_ble_eq_true rfl⟩ (fun H locs hP hD hS => ?_)
                              refine W.eq (g2 := F0 m 507 ls [.int (S 0 a)]) rfl ?_
                              refine lv_istore (lv' := [(22, .int (S 0 a)), (20, .long (pl_thr S (-1))), (14, .int (nI WK.length)), (16, .long (lN (pl_pk WK))), (18, .long 0), (15, .int 0), (13, .int (pl_last S)), (12, .int 0), (11, .int 0), (10, .int mk), (9, .int fu), (8, .int (nI w9)), (7, .int bw), (6, .int (nI a)), (5, .int (nI t)), (4, .int 0), (0, .ref (ad 0)), (2, .int y), (3, .int od), (1, .ref q)]) hx hb dL_wakes_507 hl (by decide) rfl (fun ls hl => ?_)
                              refine lv_iload hx hb dL_wakes_509 (lv_at hl 8 rfl) ?_
                              refine lv_if_ne (tgt := 532) hx hb dL_wakes_511 (by decide) (fun c => absurd c (by decide)) (fun _ => ?_)
                              refine lv_iload hx hb dL_wakes_514 (lv_at hl 7 rfl) ?_
                              refine lv_if_ne (tgt := 532) hx hb dL_wakes_516 (by decide) (fun c => absurd c (by decide)) (fun _ => ?_)
                              refine lv_aload_n hx hb dL_wakes_519 rfl (lv_at hl 16 rfl) ?_
                              refine lv_iload hx hb dL_wakes_520 (lv_at hl 14 rfl) ?_
                              refine fk_callV (As := [.int (nI t)]) (rest := []) ⟨hx, hb, hml, hown, hts⟩ (kc_stateOf l D ad cI cT cJ _ S t ht) (cwV 1 hts gL_wakes_X2_stateOf rfl rfl rfl (by decide +kernel) ⟨Nat.le_of_ble_eq_true rfl, Nat.le_of_ble_eq_true rfl⟩) (fk_rvK hK hP) hK hP hD hS hA rfl hl.1 rfl (Nat.le_of_ble_eq_true rfl) dL_wakes_522 ⟨Nat.le_of_ble_eq_true rfl, Nat.le_of_ble_eq_true rfl⟩ (fun H locs hP hD hS => ?_)
                              refine W.eq (g2 := F0 m 525 ls [.int (S 1 t)]) rfl ?_
                              refine lv_if_ne (tgt := 532) hx hb dL_wakes_525 (by decide) (fun c_49 => ?_) (fun c9 => absurd c9 hs0)
                              refine lv_iconst (v := 0) hx hb dL_wakes_532 (by decide) ?_
                              refine lv_istore (lv' := [(23, .int 0), (22, .int (S 0 a)), (20, .long (pl_thr S (-1))), (14, .int (nI WK.length)), (16, .long (lN (pl_pk WK))), (18, .long 0), (15, .int 0), (13, .int (pl_last S)), (12, .int 0), (11, .int 0), (10, .int mk), (9, .int fu), (8, .int (nI w9)), (7, .int bw), (6, .int (nI a)), (5, .int (nI t)), (4, .int 0), (0, .ref (ad 0)), (2, .int y), (3, .int od), (1, .ref q)]) hx hb dL_wakes_533 hl (by decide) rfl (fun ls hl => ?_)
                              refine lv_iload hx hb dL_wakes_535 (lv_at hl 16 rfl) ?_
                              refine lv_if_eq (tgt := 566) hx hb dL_wakes_537 (by decide) (fun _ => ?_) (fun c => absurd c (by decide))
                              refine lv_iconst (v := (-1)) hx hb dL_wakes_566 (by decide) ?_
                              refine lv_istore (lv' := [(24, .int (-1)), (23, .int 0), (22, .int (S 0 a)), (20, .long (pl_thr S (-1))), (14, .int (nI WK.length)), (16, .long (lN (pl_pk WK))), (18, .long 0), (15, .int 0), (13, .int (pl_last S)), (12, .int 0), (11, .int 0), (10, .int mk), (9, .int fu), (8, .int (nI w9)), (7, .int bw), (6, .int (nI a)), (5, .int (nI t)), (4, .int 0), (0, .ref (ad 0)), (2, .int y), (3, .int od), (1, .ref q)]) hx hb dL_wakes_567 hl (by decide) rfl (fun ls hl => ?_)
                              refine lv_iload hx hb dL_wakes_569 (lv_at hl 0 rfl) ?_
                              refine lv_iconst (v := (-1)) hx hb dL_wakes_571 (by decide) ?_
                              refine lv_icmp_ne (tgt := 586) hx hb dL_wakes_572 (by decide) (fun c => absurd c (by decide)) (fun _ => ?_)
                              refine lv_aload_n hx hb dL_wakes_575 rfl (lv_at hl 18 rfl) ?_
                              refine lv_iconst (v := (-1)) hx hb dL_wakes_576 (by decide) ?_
                              refine fk_callS (As := [.ref (ad 0), .int (-1)]) (rest := []) ⟨hx, hb, hml, hown, hts⟩ (kl_threads l D ad cI cT cJ _ S hG.1.sz hG.1.J (-1)) (va_cwS 2 hts gL_wakes_L_threads rfl rfl rfl (by decide +kernel) ⟨Nat.le_of_ble_eq_true rfl, Nat.le_of_ble_eq_true rfl⟩) hK hP hD hS hA rfl hl.1 rfl (Nat.le_of_ble_eq_true rfl) dL_wakes_577 ⟨Nat.le_of_ble_eq_true rfl, Nat.le_of_ble_eq_true rfl⟩ (fun H locs hP hD hS => ?_)
                              refine W.eq (g2 := F0 m 580 ls [.long (pl_thr S (-1))]) rfl ?_
                              refine lv_lload hx hb dL_wakes_580 (lv_at hl 3 rfl) ?_
                              refine W.lcmp hx hb dL_wakes_582 ?_
                              refine W.eq (g2 := F0 m 583 ls [.int 0]) (by rw [fk_cmp_self]) ?_
                              refine lv_if_eq (tgt := 588) hx hb dL_wakes_583 (by decide) (fun _ => ?_) (fun c => absurd c (by decide))
                              refine lv_iload hx hb dL_wakes_588 (lv_at hl 17 rfl) ?_
                              refine lv_if_eq (tgt := 612) hx hb dL_wakes_590 (by decide) (fun _ => ?_) (fun c => absurd c (by decide))
                              refine lv_aload_n hx hb dL_wakes_612 rfl (lv_at hl 18 rfl) ?_
                              refine lv_iconst (v := 2) hx hb dL_wakes_613 (by decide) ?_
                              refine lv_iload hx hb dL_wakes_614 (lv_at hl 16 rfl) ?_
                              refine lv_iload hx hb dL_wakes_616 (lv_at hl 15 rfl) ?_
                              refine lv_iload hx hb dL_wakes_618 (lv_at hl 13 rfl) ?_
                              refine lv_iload hx hb dL_wakes_620 (lv_at hl 11 rfl) ?_
                              refine fk_lcallS (As := [.ref (ad 0), .int 2, .int (nI t), .int (nI a), .int (nI w9), .int mk]) (rest := []) ⟨hx, hb, hml, hown, hts⟩ (Lx_wake_IS l D ad cI cT cJ _ S _ _ _ _ (fun X => kx_wake_5 l D ad cI cT cJ X S hst t ht a ha _ _ hm0 hm1 hs0)) (vx_cwSW 6 hts gL_wakes_L_acts rfl rfl rfl (by decide +kernel) ⟨Nat.le_of_ble_eq_true rfl, Nat.le_of_ble_eq_true rfl⟩) hK hP hD hS hA hZ hN rfl hl.1 rfl (Nat.le_of_ble_eq_true rfl) dL_wakes_622 ⟨Nat.le_of_ble_eq_true rfl, Nat.le_of_ble_eq_true rfl⟩ (fun H locs hP hD hS => ?_)
                              refine W.eq (g2 := F0 m 625 ls [.int (-2147483203)]) rfl ?_
                              refine lv_istore (lv' := [(25, .int (-2147483203)), (24, .int (-1)), (23, .int 0), (22, .int (S 0 a)), (20, .long (pl_thr S (-1))), (14, .int (nI WK.length)), (16, .long (lN (pl_pk WK))), (18, .long 0), (15, .int 0), (13, .int (pl_last S)), (12, .int 0), (11, .int 0), (10, .int mk), (9, .int fu), (8, .int (nI w9)), (7, .int bw), (6, .int (nI a)), (5, .int (nI t)), (4, .int 0), (0, .ref (ad 0)), (2, .int y), (3, .int od), (1, .ref q)]) hx hb dL_wakes_625 hl (by decide) rfl (fun ls hl => ?_)
                              refine lv_iload hx hb dL_wakes_627 (lv_at hl 2 rfl) ?_
                              refine lv_if_ne (tgt := 676) hx hb dL_wakes_629 (by decide) (fun c => absurd c (by decide)) (fun _ => ?_)
                              refine lv_iload hx hb dL_wakes_632 (lv_at hl 0 rfl) ?_
                              refine lv_iload hx hb dL_wakes_634 (lv_at hl 11 rfl) ?_
                              refine lv_if_eq (tgt := 644) hx hb dL_wakes_636 (by decide) (fun _ => ?_) (fun c => absurd c (by decide))
                              refine lv_iload hx hb dL_wakes_644 (lv_at hl 10 rfl) ?_
                              refine lv_if_eq (tgt := 654) hx hb dL_wakes_646 (by decide) (fun _ => ?_) (fun c => absurd c (by decide))
                              refine lv_ldc (own := RL) (v := (-2147483203)) hx hb hown (hts (.constant RL 23 (-2147483203)) (List.mem_of_getElem? (i := 3) rfl)) dL_wakes_654 ?_
                              refine lv_icmp_ne (tgt := 674) hx hb dL_wakes_656 (by decide) (fun c => absurd c (by decide)) (fun _ => ?_)
                              refine lv_aload_n hx hb dL_wakes_659 rfl (lv_at hl 19 rfl) ?_
                              refine lv_iconst (v := (-1)) hx hb dL_wakes_660 (by decide) ?_
                              refine fk_callS (As := [.ref (ad 0), .int (-1)]) (rest := []) ⟨hx, hb, hml, hown, hts⟩ (kl_threads l D ad cI cT cJ _ S hG.1.sz hG.1.J (-1)) (va_cwS 2 hts gL_wakes_L_threads rfl rfl rfl (by decide +kernel) ⟨Nat.le_of_ble_eq_true rfl, Nat.le_of_ble_eq_true rfl⟩) hK hP hD hS hA rfl hl.1 rfl (Nat.le_of_ble_eq_true rfl) dL_wakes_661 ⟨Nat.le_of_ble_eq_true rfl, Nat.le_of_ble_eq_true rfl⟩ (fun H locs hP hD hS => ?_)
                              refine W.eq (g2 := F0 m 664 ls [.long (pl_thr S (-1))]) rfl ?_
                              refine lv_lload hx hb dL_wakes_664 (lv_at hl 4 rfl) ?_
                              refine W.lcmp hx hb dL_wakes_666 ?_
                              refine W.eq (g2 := F0 m 667 ls [.int 0]) (by rw [fk_cmp_self]) ?_
                              refine lv_if_ne (tgt := 674) hx hb dL_wakes_667 (by decide) (fun c => absurd c (by decide)) (fun _ => ?_)
                              refine lv_iconst (v := 1) hx hb dL_wakes_670 (by decide) ?_
                              refine lv_goto (tgt := 675) hx hb dL_wakes_671 (by decide) ?_
                              exact fk_zretE (Nat.le_of_ble_eq_true rfl) (Nat.le_of_ble_eq_true rfl) hx hb hr hlocks hP hK hD hS rfl ⟨rfl, _, _, rfl, (hG).wk (by omega)⟩ dL_wakes_675
                            | succ n1 ih1 =>
                              intro k F c1 f1 hk hF hc1 hf1 H locs ls hP hD hS hl
                              have h8 := kq_A8 S a
                              obtain ⟨u, hgu, hdu⟩ := kq_step hk
                              have hu9 := kq_A_lt hgu
                              rw [hdu] at hF
                              obtain ⟨hF1, hF0⟩ := kq_put hF
                              have hF8 : ∀ u ∈ F, u < 8 := fun z hz => (kq_wt_mem (show z ∈ (kq_wt S a mk) by rw [← hF]; exact List.mem_append_left _ hz)).1
                              have hFl : F.length ≤ 8 := by have h1 := congrArg List.length hF; rw [List.length_append] at h1; have := kq_wt8 S a mk; omega
                              refine lv_iload hx hb dL_wakes_354 (lv_at hl 7 rfl) ?_
                              refine lv_if_ne (tgt := 485) hx hb dL_wakes_356 (by decide) (fun c => absurd c (by decide)) (fun _ => ?_)
                              refine lv_iload hx hb dL_wakes_359 (lv_at hl 6 rfl) ?_
                              refine lv_if_ne (tgt := 485) hx hb dL_wakes_361 (by decide) (fun c => absurd c (by decide)) (fun _ => ?_)
                              refine lv_iload hx hb dL_wakes_364 (lv_at hl 0 rfl) ?_
                              refine lv_aload_n hx hb dL_wakes_366 rfl (lv_at hl 15 rfl) ?_
                              refine lv_iload hx hb dL_wakes_367 (lv_at hl 12 rfl) ?_
                              refine fk_callV (As := [.int (nI a)]) (rest := [.int (nI k)]) ⟨hx, hb, hml, hown, hts⟩ (kc_waiters l D ad cI cT cJ _ S a ha) (cwV 1 hts gL_wakes_X2_waiters rfl rfl rfl (by decide +kernel) ⟨Nat.le_of_ble_eq_true rfl, Nat.le_of_ble_eq_true rfl⟩) (fk_rvK hK hP) hK hP hD hS hA rfl hl.1 rfl (Nat.le_of_ble_eq_true rfl) dL_wakes_369 ⟨Nat.le_of_ble_eq_true rfl, Nat.le_of_ble_eq_true rfl⟩ (fun H locs hP hD hS => ?_)
                              refine W.eq (g2 := F0 m 372 ls [.int (kk_waiters S (nI a)), .int (nI k)]) rfl ?_
                              refine W.eq (g2 := F0 m 372 ls [.int (nI ((kq_A S a).length)), .int (nI k)]) (by rw [show (kk_waiters S (nI a)) = (nI ((kq_A S a).length)) from (kq_waiters _ _)]) ?_
                              refine lv_icmp_ge (tgt := 485) hx hb dL_wakes_372 (by decide) (fun c_61 => absurd c_61 (nI_ge (a := k) (b := (kq_A S a).length) (by omega) (by omega))) (fun c_61 => ?_)
                              refine lv_aload_n hx hb dL_wakes_375 rfl (lv_at hl 15 rfl) ?_
                              refine lv_iload hx hb dL_wakes_376 (lv_at hl 12 rfl) ?_
                              refine lv_iload hx hb dL_wakes_378 (lv_at hl 0 rfl) ?_
                              refine fk_callV (As := [.int (nI a), .int (nI k)]) (rest := []) ⟨hx, hb, hml, hown, hts⟩ (kc_waiterAt l D ad cI cT cJ _ S a ha (nI k) u (by rw [kq_wAt hG.1.J (by omega) (by omega)]; exact hgu)) (cwV 2 hts gL_wakes_X2_waiterAt rfl rfl rfl (by decide +kernel) ⟨Nat.le_of_ble_eq_true rfl, Nat.le_of_ble_eq_true rfl⟩) (fk_rvK hK hP) hK hP hD hS hA rfl hl.1 rfl (Nat.le_of_ble_eq_true rfl) dL_wakes_380 ⟨Nat.le_of_ble_eq_true rfl, Nat.le_of_ble_eq_true rfl⟩ (fun H locs hP hD hS => ?_)
                              refine W.eq (g2 := F0 m 383 ls [.int (nI u)]) rfl ?_
                              refine lv_istore (lv' := [(21, .int (nI u)), (20, .int (nI k)), (14, .int (nI c1)), (16, .long f1), (18, .long 0), (15, .int 0), (13, .int (pl_last S)), (12, .int 0), (11, .int 0), (10, .int mk), (9, .int fu), (8, .int (nI w9)), (7, .int bw), (6, .int (nI a)), (5, .int (nI t)), (4, .int 0), (0, .ref (ad 0)), (2, .int y), (3, .int od), (1, .ref q)]) hx hb dL_wakes_383 hl (by decide) rfl (fun ls hl => ?_)
                              by_cases hs1 : S 1 u = 1
                              · by_cases hft : S 4 u &&& mk = 0
                                · have hF9 := hF0 (by rw [decide_eq_true hs1, decide_eq_false (fun z => z hft)]; rfl)
                                  refine lv_aload_n hx hb dL_wakes_385 rfl (lv_at hl 16 rfl) ?_
                                  refine lv_iload hx hb dL_wakes_386 (lv_at hl 0 rfl) ?_
                                  refine fk_callV (As := [.int (nI u)]) (rest := []) ⟨hx, hb, hml, hown, hts⟩ (kc_stateOf l D ad cI cT cJ _ S u hu9) (cwV 1 hts gL_wakes_X2_stateOf rfl rfl rfl (by decide +kernel) ⟨Nat.le_of_ble_eq_true rfl, Nat.le_of_ble_eq_true rfl⟩) (fk_rvK hK hP) hK hP hD hS hA rfl hl.1 rfl (Nat.le_of_ble_eq_true rfl) dL_wakes_388 ⟨Nat.le_of_ble_eq_true rfl, Nat.le_of_ble_eq_true rfl⟩ (fun H locs hP hD hS => ?_)
                                  refine W.eq (g2 := F0 m 391 ls [.int (S 1 u)]) rfl ?_
                                  refine W.eq (g2 := F0 m 391 ls [.int 1]) (by rw [show (S 1 u) = (1 : Int32) from hs1]) ?_
                                  refine lv_iconst (v := 1) hx hb dL_wakes_391 (by decide) ?_
                                  refine lv_icmp_ne (tgt := 434) hx hb dL_wakes_392 (by decide) (fun c => absurd c (by decide)) (fun _ => ?_)
                                  refine lv_iload hx hb dL_wakes_395 (lv_at hl 2 rfl) ?_
                                  refine lv_iload hx hb dL_wakes_397 (lv_at hl 11 rfl) ?_
                                  refine lv_icmp_ge (tgt := 434) hx hb dL_wakes_399 (by decide) (fun c_63 => ?_) (fun c_63 => ?_)
                                  · refine lv_aload_n hx hb dL_wakes_434 rfl (lv_at hl 16 rfl) ?_
                                    refine lv_iload hx hb dL_wakes_435 (lv_at hl 0 rfl) ?_
                                    refine fk_callV (As := [.int (nI u)]) (rest := []) ⟨hx, hb, hml, hown, hts⟩ (kc_stateOf l D ad cI cT cJ _ S u hu9) (cwV 1 hts gL_wakes_X2_stateOf rfl rfl rfl (by decide +kernel) ⟨Nat.le_of_ble_eq_true rfl, Nat.le_of_ble_eq_true rfl⟩) (fk_rvK hK hP) hK hP hD hS hA rfl hl.1 rfl (Nat.le_of_ble_eq_true rfl) dL_wakes_437 ⟨Nat.le_of_ble_eq_true rfl, Nat.le_of_ble_eq_true rfl⟩ (fun H locs hP hD hS => ?_)
                                    refine W.eq (g2 := F0 m 440 ls [.int (S 1 u)]) rfl ?_
                                    refine W.eq (g2 := F0 m 440 ls [.int 1]) (by rw [show (S 1 u) = (1 : Int32) from hs1]) ?_
                                    refine lv_iconst (v := 1) hx hb dL_wakes_440 (by decide) ?_
                                    refine lv_icmp_ne (tgt := 479) hx hb dL_wakes_441 (by decide) (fun c => absurd c (by decide)) (fun _ => ?_)
                                    refine lv_iload hx hb dL_wakes_444 (lv_at hl 15 rfl) ?_
                                    refine lv_if_eq (tgt := 479) hx hb dL_wakes_446 (by decide) (fun _ => ?_) (fun c => absurd c (by decide))
                                    refine lv_iinc (v := (nI (k + 1))) (lv' := [(20, .int (nI (k + 1))), (21, .int (nI u)), (14, .int (nI c1)), (16, .long f1), (18, .long 0), (15, .int 0), (13, .int (pl_last S)), (12, .int 0), (11, .int 0), (10, .int mk), (9, .int fu), (8, .int (nI w9)), (7, .int bw), (6, .int (nI a)), (5, .int (nI t)), (4, .int 0), (0, .ref (ad 0)), (2, .int y), (3, .int od), (1, .ref q)]) hx hb dL_wakes_479 hl (k := 1) rfl (nI_1 k) (by decide) rfl (fun ls hl => ?_)
                                    refine lv_goto (tgt := 354) hx hb dL_wakes_482 (by decide) ?_
                                    exact ih1 (k + 1) F c1 f1 (by omega) hF9 hc1 hf1 _ _ _ hP hD hS (lv_sub hl [0, 2, 3, 4, 5, 6, 7, 8, 9, 10, 11, 12, 13, 14, 15, 16, 17, 18, 19] rfl)
                                  · refine lv_aload_n hx hb dL_wakes_402 rfl (lv_at hl 19 rfl) ?_
                                    refine lv_bipush (v := 8) hx hb dL_wakes_403 (by decide) ?_
                                    refine lv_iload hx hb dL_wakes_405 (lv_at hl 0 rfl) ?_
                                    refine lv_iadd hx hb dL_wakes_407 ?_
                                    refine W.eq (g2 := F0 m 408 ls [.int (nI (8 + u)), .ref q]) (by rw [show (8 : Int32) = nI 8 from rfl, nI_add]) ?_
                                    refine va_iald hx hb hK hP 27 0 fk_at27 rfl (vp_in_nI (show 8 + u < 16 from (by omega)) (by decide)) dL_wakes_408 ?_
                                    refine W.eq (g2 := F0 m 409 ls [.int (P (8 + u))]) (by rw [nI_clamp (by omega)]) ?_
                                    refine W.eq (g2 := F0 m 409 ls [.int (S 4 u)]) (by rw [show (P (8 + u)) = (S 4 u) from (kq_mask hG.1 hu9 hs1).1]) ?_
                                    refine lv_iload hx hb dL_wakes_409 (lv_at hl 9 rfl) ?_
                                    refine lv_iand hx hb dL_wakes_411 ?_
                                    refine lv_if_eq (tgt := 434) hx hb dL_wakes_412 (by decide) (fun c_66 => ?_) (fun c9 => absurd hft c9)
                                    refine lv_aload_n hx hb dL_wakes_434 rfl (lv_at hl 16 rfl) ?_
                                    refine lv_iload hx hb dL_wakes_435 (lv_at hl 0 rfl) ?_
                                    refine fk_callV (As := [.int (nI u)]) (rest := []) ⟨hx, hb, hml, hown, hts⟩ (kc_stateOf l D ad cI cT cJ _ S u hu9) (cwV 1 hts gL_wakes_X2_stateOf rfl rfl rfl (by decide +kernel) ⟨Nat.le_of_ble_eq_true rfl, Nat.le_of_ble_eq_true rfl⟩) (fk_rvK hK hP) hK hP hD hS hA rfl hl.1 rfl (Nat.le_of_ble_eq_true rfl) dL_wakes_437 ⟨Nat.le_of_ble_eq_true rfl, Nat.le_of_ble_eq_true rfl⟩ (fun H locs hP hD hS => ?_)
                                    refine W.eq (g2 := F0 m 440 ls [.int (S 1 u)]) rfl ?_
                                    refine W.eq (g2 := F0 m 440 ls [.int 1]) (by rw [show (S 1 u) = (1 : Int32) from hs1]) ?_
                                    refine lv_iconst (v := 1) hx hb dL_wakes_440 (by decide) ?_
                                    refine lv_icmp_ne (tgt := 479) hx hb dL_wakes_441 (by decide) (fun c => absurd c (by decide)) (fun _ => ?_)
                                    refine lv_iload hx hb dL_wakes_444 (lv_at hl 15 rfl) ?_
                                    refine lv_if_eq (tgt := 479) hx hb dL_wakes_446 (by decide) (fun _ => ?_) (fun c => absurd c (by decide))
                                    refine lv_iinc (v := (nI (k + 1))) (lv' := [(20, .int (nI (k + 1))), (21, .int (nI u)), (14, .int (nI c1)), (16, .long f1), (18, .long 0), (15, .int 0), (13, .int (pl_last S)), (12, .int 0), (11, .int 0), (10, .int mk), (9, .int fu), (8, .int (nI w9)), (7, .int bw), (6, .int (nI a)), (5, .int (nI t)), (4, .int 0), (0, .ref (ad 0)), (2, .int y), (3, .int od), (1, .ref q)]) hx hb dL_wakes_479 hl (k := 1) rfl (nI_1 k) (by decide) rfl (fun ls hl => ?_)
                                    refine lv_goto (tgt := 354) hx hb dL_wakes_482 (by decide) ?_
                                    exact ih1 (k + 1) F c1 f1 (by omega) hF9 hc1 hf1 _ _ _ hP hD hS (lv_sub hl [0, 2, 3, 4, 5, 6, 7, 8, 9, 10, 11, 12, 13, 14, 15, 16, 17, 18, 19] rfl)
                                · have hF9 := hF1 (by rw [decide_eq_true hs1, decide_eq_true (show S 4 u &&& mk ≠ 0 from hft)]; rfl)
                                  by_cases hlt : F.length < w9
                                  · have hTF : F.take w9 = F := List.take_of_length_le (by omega)
                                    have hTu : (F ++ [u]).take w9 = F ++ [u] := List.take_of_length_le (by rw [List.length_append]; simp; omega)
                                    rw [hTF] at hc1 hf1
                                    have hl : lv_has ls 29 [(21, .int (nI u)), (20, .int (nI k)), (14, .int (nI F.length)), (16, .long (lN (pl_pk F))), (18, .long 0), (15, .int 0), (13, .int (pl_last S)), (12, .int 0), (11, .int 0), (10, .int mk), (9, .int fu), (8, .int (nI w9)), (7, .int bw), (6, .int (nI a)), (5, .int (nI t)), (4, .int 0), (0, .ref (ad 0)), (2, .int y), (3, .int od), (1, .ref q)] := by rw [hc1, hf1] at hl; exact hl
                                    refine lv_aload_n hx hb dL_wakes_385 rfl (lv_at hl 16 rfl) ?_
                                    refine lv_iload hx hb dL_wakes_386 (lv_at hl 0 rfl) ?_
                                    refine fk_callV (As := [.int (nI u)]) (rest := []) ⟨hx, hb, hml, hown, hts⟩ (kc_stateOf l D ad cI cT cJ _ S u hu9) (cwV 1 hts gL_wakes_X2_stateOf rfl rfl rfl (by decide +kernel) ⟨Nat.le_of_ble_eq_true rfl, Nat.le_of_ble_eq_true rfl⟩) (fk_rvK hK hP) hK hP hD hS hA rfl hl.1 rfl (Nat.le_of_ble_eq_true rfl) dL_wakes_388 ⟨Nat.le_of_ble_eq_true rfl, Nat.le_of_ble_eq_true rfl⟩ (fun H locs hP hD hS => ?_)
                                    refine W.eq (g2 := F0 m 391 ls [.int (S 1 u)]) rfl ?_
                                    refine W.eq (g2 := F0 m 391 ls [.int 1]) (by rw [show (S 1 u) = (1 : Int32) from hs1]) ?_
                                    refine lv_iconst (v := 1) hx hb dL_wakes_391 (by decide) ?_
                                    refine lv_icmp_ne (tgt := 434) hx hb dL_wakes_392 (by decide) (fun c => absurd c (by decide)) (fun _ => ?_)
                                    refine lv_iload hx hb dL_wakes_395 (lv_at hl 2 rfl) ?_
                                    refine lv_iload hx hb dL_wakes_397 (lv_at hl 11 rfl) ?_
                                    refine lv_icmp_ge (tgt := 434) hx hb dL_wakes_399 (by decide) (fun c_70 => absurd c_70 (nI_ge (a := F.length) (b := w9) hlt (by omega))) (fun c_70 => ?_)
                                    refine lv_aload_n hx hb dL_wakes_402 rfl (lv_at hl 19 rfl) ?_
                                    refine lv_bipush (v := 8) hx hb dL_wakes_403 (by decide) ?_
                                    refine lv_iload hx hb dL_wakes_405 (lv_at hl 0 rfl) ?_
                                    refine lv_iadd hx hb dL_wakes_407 ?_
                                    refine W.eq (g2 := F0 m 408 ls [.int (nI (8 + u)), .ref q]) (by rw [show (8 : Int32) = nI 8 from rfl, nI_add]) ?_
                                    refine va_iald hx hb hK hP 27 0 fk_at27 rfl (vp_in_nI (show 8 + u < 16 from (by omega)) (by decide)) dL_wakes_408 ?_
                                    refine W.eq (g2 := F0 m 409 ls [.int (P (8 + u))]) (by rw [nI_clamp (by omega)]) ?_
                                    refine W.eq (g2 := F0 m 409 ls [.int (S 4 u)]) (by rw [show (P (8 + u)) = (S 4 u) from (kq_mask hG.1 hu9 hs1).1]) ?_
                                    refine lv_iload hx hb dL_wakes_409 (lv_at hl 9 rfl) ?_
                                    refine lv_iand hx hb dL_wakes_411 ?_
                                    refine lv_if_eq (tgt := 434) hx hb dL_wakes_412 (by decide) (fun c_71 => absurd c_71 hft) (fun c_71 => ?_)
                                    refine lv_lload hx hb dL_wakes_415 (lv_at hl 3 rfl) ?_
                                    refine lv_iload hx hb dL_wakes_417 (lv_at hl 0 rfl) ?_
                                    refine lv_i2l hx hb dL_wakes_419 rfl ?_
                                    refine lv_iconst (v := 4) hx hb dL_wakes_420 (by decide) ?_
                                    refine lv_iload hx hb dL_wakes_421 (lv_at hl 2 rfl) ?_
                                    refine lv_imul hx hb dL_wakes_423 ?_
                                    refine W.eq (g2 := F0 m 424 ls [.int (nI (4 * F.length)), .long ((nI u).toInt64), .long (lN (pl_pk F))]) (by rw [show (4 : Int32) = nI 4 from rfl, pk_mul]) ?_
                                    refine lv_lshl hx hb dL_wakes_424 rfl ?_
                                    refine lv_lor hx hb dL_wakes_425 ?_
                                    refine W.eq (g2 := F0 m 426 ls [.long (lN (pl_pk (F ++ [u])))]) (by rw [pl_put hF8 (by omega) hu9]) ?_
                                    refine lv_lstore (lv' := [(16, .long (lN (pl_pk (F ++ [u])))), (21, .int (nI u)), (20, .int (nI k)), (14, .int (nI F.length)), (18, .long 0), (15, .int 0), (13, .int (pl_last S)), (12, .int 0), (11, .int 0), (10, .int mk), (9, .int fu), (8, .int (nI w9)), (7, .int bw), (6, .int (nI a)), (5, .int (nI t)), (4, .int 0), (0, .ref (ad 0)), (2, .int y), (3, .int od), (1, .ref q)]) hx hb dL_wakes_426 hl (by decide) rfl (fun ls hl => ?_)
                                    refine lv_iinc (v := (nI (F.length + 1))) (lv' := [(14, .int (nI (F.length + 1))), (16, .long (lN (pl_pk (F ++ [u])))), (21, .int (nI u)), (20, .int (nI k)), (18, .long 0), (15, .int 0), (13, .int (pl_last S)), (12, .int 0), (11, .int 0), (10, .int mk), (9, .int fu), (8, .int (nI w9)), (7, .int bw), (6, .int (nI a)), (5, .int (nI t)), (4, .int 0), (0, .ref (ad 0)), (2, .int y), (3, .int od), (1, .ref q)]) hx hb dL_wakes_428 hl (k := 3) rfl (nI_1 F.length) (by decide) rfl (fun ls hl => ?_)
                                    refine lv_goto (tgt := 479) hx hb dL_wakes_431 (by decide) ?_
                                    refine lv_iinc (v := (nI (k + 1))) (lv' := [(20, .int (nI (k + 1))), (14, .int (nI (F.length + 1))), (16, .long (lN (pl_pk (F ++ [u])))), (21, .int (nI u)), (18, .long 0), (15, .int 0), (13, .int (pl_last S)), (12, .int 0), (11, .int 0), (10, .int mk), (9, .int fu), (8, .int (nI w9)), (7, .int bw), (6, .int (nI a)), (5, .int (nI t)), (4, .int 0), (0, .ref (ad 0)), (2, .int y), (3, .int od), (1, .ref q)]) hx hb dL_wakes_479 hl (k := 3) rfl (nI_1 k) (by decide) rfl (fun ls hl => ?_)
                                    refine lv_goto (tgt := 354) hx hb dL_wakes_482 (by decide) ?_
                                    exact ih1 (k + 1) (F ++ [u]) (F.length + 1) (lN (pl_pk (F ++ [u]))) (by omega) hF9 (by rw [hTu, List.length_append]; rfl) (by rw [hTu]) _ _ _ hP hD hS (lv_sub hl [0, 1, 2, 4, 5, 6, 7, 8, 9, 10, 11, 12, 13, 14, 15, 16, 17, 18, 19] rfl)
                                  · have hcw : c1 = w9 := by rw [hc1, List.length_take]; omega
                                    have hTb : (F ++ [u]).take w9 = F.take w9 := List.take_append_of_le_length (by omega)
                                    have hl : lv_has ls 29 [(21, .int (nI u)), (20, .int (nI k)), (14, .int (nI w9)), (16, .long f1), (18, .long 0), (15, .int 0), (13, .int (pl_last S)), (12, .int 0), (11, .int 0), (10, .int mk), (9, .int fu), (8, .int (nI w9)), (7, .int bw), (6, .int (nI a)), (5, .int (nI t)), (4, .int 0), (0, .ref (ad 0)), (2, .int y), (3, .int od), (1, .ref q)] := by rw [hcw] at hl; exact hl
                                    refine lv_aload_n hx hb dL_wakes_385 rfl (lv_at hl 16 rfl) ?_
                                    refine lv_iload hx hb dL_wakes_386 (lv_at hl 0 rfl) ?_
                                    refine fk_callV (As := [.int (nI u)]) (rest := []) ⟨hx, hb, hml, hown, hts⟩ (kc_stateOf l D ad cI cT cJ _ S u hu9) (cwV 1 hts gL_wakes_X2_stateOf rfl rfl rfl (by decide +kernel) ⟨Nat.le_of_ble_eq_true rfl, Nat.le_of_ble_eq_true rfl⟩) (fk_rvK hK hP) hK hP hD hS hA rfl hl.1 rfl (Nat.le_of_ble_eq_true rfl) dL_wakes_388 ⟨Nat.le_of_ble_eq_true rfl, Nat.le_of_ble_eq_true rfl⟩ (fun H locs hP hD hS => ?_)
                                    refine W.eq (g2 := F0 m 391 ls [.int (S 1 u)]) rfl ?_
                                    refine W.eq (g2 := F0 m 391 ls [.int 1]) (by rw [show (S 1 u) = (1 : Int32) from hs1]) ?_
                                    refine lv_iconst (v := 1) hx hb dL_wakes_391 (by decide) ?_
                                    refine lv_icmp_ne (tgt := 434) hx hb dL_wakes_392 (by decide) (fun c => absurd c (by decide)) (fun _ => ?_)
                                    refine lv_iload hx hb dL_wakes_395 (lv_at hl 2 rfl) ?_
                                    refine lv_iload hx hb dL_wakes_397 (lv_at hl 11 rfl) ?_
                                    refine lv_icmp_ge (tgt := 434) hx hb dL_wakes_399 (by decide) (fun c_73 => ?_) (fun c9 => absurd (nI_le (Nat.le_refl w9) (by omega)) c9)
                                    refine lv_aload_n hx hb dL_wakes_434 rfl (lv_at hl 16 rfl) ?_
                                    refine lv_iload hx hb dL_wakes_435 (lv_at hl 0 rfl) ?_
                                    refine fk_callV (As := [.int (nI u)]) (rest := []) ⟨hx, hb, hml, hown, hts⟩ (kc_stateOf l D ad cI cT cJ _ S u hu9) (cwV 1 hts gL_wakes_X2_stateOf rfl rfl rfl (by decide +kernel) ⟨Nat.le_of_ble_eq_true rfl, Nat.le_of_ble_eq_true rfl⟩) (fk_rvK hK hP) hK hP hD hS hA rfl hl.1 rfl (Nat.le_of_ble_eq_true rfl) dL_wakes_437 ⟨Nat.le_of_ble_eq_true rfl, Nat.le_of_ble_eq_true rfl⟩ (fun H locs hP hD hS => ?_)
                                    refine W.eq (g2 := F0 m 440 ls [.int (S 1 u)]) rfl ?_
                                    refine W.eq (g2 := F0 m 440 ls [.int 1]) (by rw [show (S 1 u) = (1 : Int32) from hs1]) ?_
                                    refine lv_iconst (v := 1) hx hb dL_wakes_440 (by decide) ?_
                                    refine lv_icmp_ne (tgt := 479) hx hb dL_wakes_441 (by decide) (fun c => absurd c (by decide)) (fun _ => ?_)
                                    refine lv_iload hx hb dL_wakes_444 (lv_at hl 15 rfl) ?_
                                    refine lv_if_eq (tgt := 479) hx hb dL_wakes_446 (by decide) (fun _ => ?_) (fun c => absurd c (by decide))
                                    refine lv_iinc (v := (nI (k + 1))) (lv' := [(20, .int (nI (k + 1))), (21, .int (nI u)), (14, .int (nI w9)), (16, .long f1), (18, .long 0), (15, .int 0), (13, .int (pl_last S)), (12, .int 0), (11, .int 0), (10, .int mk), (9, .int fu), (8, .int (nI w9)), (7, .int bw), (6, .int (nI a)), (5, .int (nI t)), (4, .int 0), (0, .ref (ad 0)), (2, .int y), (3, .int od), (1, .ref q)]) hx hb dL_wakes_479 hl (k := 1) rfl (nI_1 k) (by decide) rfl (fun ls hl => ?_)
                                    refine lv_goto (tgt := 354) hx hb dL_wakes_482 (by decide) ?_
                                    exact ih1 (k + 1) (F ++ [u]) w9 f1 (by omega) hF9 (by rw [hTb, ← hc1, hcw]) (by rw [hTb]; exact hf1) _ _ _ hP hD hS (lv_sub hl [0, 2, 3, 4, 5, 6, 7, 8, 9, 10, 11, 12, 13, 14, 15, 16, 17, 18, 19] rfl)
                              · have hF9 := hF0 (by rw [decide_eq_false hs1]; rfl)
                                refine lv_aload_n hx hb dL_wakes_385 rfl (lv_at hl 16 rfl) ?_
                                refine lv_iload hx hb dL_wakes_386 (lv_at hl 0 rfl) ?_
                                refine fk_callV (As := [.int (nI u)]) (rest := []) ⟨hx, hb, hml, hown, hts⟩ (kc_stateOf l D ad cI cT cJ _ S u hu9) (cwV 1 hts gL_wakes_X2_stateOf rfl rfl rfl (by decide +kernel) ⟨Nat.le_of_ble_eq_true rfl, Nat.le_of_ble_eq_true rfl⟩) (fk_rvK hK hP) hK hP hD hS hA rfl hl.1 rfl (Nat.le_of_ble_eq_true rfl) dL_wakes_388 ⟨Nat.le_of_ble_eq_true rfl, Nat.le_of_ble_eq_true rfl⟩ (fun H locs hP hD hS => ?_)
                                refine W.eq (g2 := F0 m 391 ls [.int (S 1 u)]) rfl ?_
                                refine lv_iconst (v := 1) hx hb dL_wakes_391 (by decide) ?_
                                refine lv_icmp_ne (tgt := 434) hx hb dL_wakes_392 (by decide) (fun c_76 => ?_) (fun c9 => absurd c9 hs1)
                                refine lv_aload_n hx hb dL_wakes_434 rfl (lv_at hl 16 rfl) ?_
                                refine lv_iload hx hb dL_wakes_435 (lv_at hl 0 rfl) ?_
                                refine fk_callV (As := [.int (nI u)]) (rest := []) ⟨hx, hb, hml, hown, hts⟩ (kc_stateOf l D ad cI cT cJ _ S u hu9) (cwV 1 hts gL_wakes_X2_stateOf rfl rfl rfl (by decide +kernel) ⟨Nat.le_of_ble_eq_true rfl, Nat.le_of_ble_eq_true rfl⟩) (fk_rvK hK hP) hK hP hD hS hA rfl hl.1 rfl (Nat.le_of_ble_eq_true rfl) dL_wakes_437 ⟨Nat.le_of_ble_eq_true rfl, Nat.le_of_ble_eq_true rfl⟩ (fun H locs hP hD hS => ?_)
                                refine W.eq (g2 := F0 m 440 ls [.int (S 1 u)]) rfl ?_
                                refine lv_iconst (v := 1) hx hb dL_wakes_440 (by decide) ?_
                                refine lv_icmp_ne (tgt := 479) hx hb dL_wakes_441 (by decide) (fun c_77 => ?_) (fun c9 => absurd c9 hs1)
                                refine lv_iinc (v := (nI (k + 1))) (lv' := [(20, .int (nI (k + 1))), (21, .int (nI u)), (14, .int (nI c1)), (16, .long f1), (18, .long 0), (15, .int 0), (13, .int (pl_last S)), (12, .int 0), (11, .int 0), (10, .int mk), (9, .int fu), (8, .int (nI w9)), (7, .int bw), (6, .int (nI a)), (5, .int (nI t)), (4, .int 0), (0, .ref (ad 0)), (2, .int y), (3, .int od), (1, .ref q)]) hx hb dL_wakes_479 hl (k := 1) rfl (nI_1 k) (by decide) rfl (fun ls hl => ?_)
                                refine lv_goto (tgt := 354) hx hb dL_wakes_482 (by decide) ?_
                                exact ih1 (k + 1) F c1 f1 (by omega) hF9 hc1 hf1 _ _ _ hP hD hS (lv_sub hl [0, 2, 3, 4, 5, 6, 7, 8, 9, 10, 11, 12, 13, 14, 15, 16, 17, 18, 19] rfl)
                          exact loop1 (kq_A S a).length 0 [] 0 0 (by omega) (by rw [List.nil_append]; rfl) (by rw [List.take_nil]; rfl) (by rw [List.take_nil]; rfl) _ _ _ hP hD hS (lv_sub hl [0, 4, 2, 1, 3, 5, 6, 7, 8, 9, 10, 11, 12, 13, 14, 15, 17, 18, 16] rfl)
                      · have hbad8 : (fk_btw ms 1 8 && fk_btw mk 1 255) = false := Bool.eq_false_iff.mpr hbad
                        have hbad9 : bv = 1 := by rw [h_bv, hbad8]; rfl
                        have hl : lv_has ls 29 [(12, .int 1), (11, .int 0), (10, .int mk), (9, .int fu), (8, .int ms), (7, .int bw), (6, .int (nI a)), (5, .int (nI t)), (4, .int 0), (0, .ref (ad 0)), (1, .ref q), (2, .int y), (3, .int od)] := by rw [hbad9] at hl; exact hl
                        refine lv_aload_n hx hb dL_wakes_333 rfl (lv_at hl 9 rfl) ?_
                        refine fk_callS (As := [.ref (ad 0)]) (rest := []) ⟨hx, hb, hml, hown, hts⟩ (kl_last l D ad cI cT cJ _ S) (va_cwS 1 hts gL_wakes_L_last rfl rfl rfl (by decide +kernel) ⟨Nat.le_of_ble_eq_true rfl, Nat.le_of_ble_eq_true rfl⟩) hK hP hD hS hA rfl hl.1 rfl (Nat.le_of_ble_eq_true rfl) dL_wakes_334 ⟨Nat.le_of_ble_eq_true rfl, Nat.le_of_ble_eq_true rfl⟩ (fun H locs hP hD hS => ?_)
                        refine W.eq (g2 := F0 m 337 ls [.int (pl_last S)]) rfl ?_
                        refine lv_istore (lv' := [(13, .int (pl_last S)), (12, .int 1), (11, .int 0), (10, .int mk), (9, .int fu), (8, .int ms), (7, .int bw), (6, .int (nI a)), (5, .int (nI t)), (4, .int 0), (0, .ref (ad 0)), (1, .ref q), (2, .int y), (3, .int od)]) hx hb dL_wakes_337 hl (by decide) rfl (fun ls hl => ?_)
                        refine lv_iconst (v := 0) hx hb dL_wakes_339 (by decide) ?_
                        refine lv_istore (lv' := [(14, .int 0), (13, .int (pl_last S)), (12, .int 1), (11, .int 0), (10, .int mk), (9, .int fu), (8, .int ms), (7, .int bw), (6, .int (nI a)), (5, .int (nI t)), (4, .int 0), (0, .ref (ad 0)), (1, .ref q), (2, .int y), (3, .int od)]) hx hb dL_wakes_340 hl (by decide) rfl (fun ls hl => ?_)
                        refine lv_iconst (v := 0) hx hb dL_wakes_342 (by decide) ?_
                        refine lv_istore (lv' := [(15, .int 0), (14, .int 0), (13, .int (pl_last S)), (12, .int 1), (11, .int 0), (10, .int mk), (9, .int fu), (8, .int ms), (7, .int bw), (6, .int (nI a)), (5, .int (nI t)), (4, .int 0), (0, .ref (ad 0)), (1, .ref q), (2, .int y), (3, .int od)]) hx hb dL_wakes_343 hl (by decide) rfl (fun ls hl => ?_)
                        refine lv_lconst (v := 0) hx hb dL_wakes_345 (by decide) ?_
                        refine lv_lstore (lv' := [(16, .long 0), (15, .int 0), (14, .int 0), (13, .int (pl_last S)), (12, .int 1), (11, .int 0), (10, .int mk), (9, .int fu), (8, .int ms), (7, .int bw), (6, .int (nI a)), (5, .int (nI t)), (4, .int 0), (0, .ref (ad 0)), (1, .ref q), (2, .int y), (3, .int od)]) hx hb dL_wakes_346 hl (by decide) rfl (fun ls hl => ?_)
                        refine lv_lconst (v := 0) hx hb dL_wakes_348 (by decide) ?_
                        refine lv_lstore (lv' := [(18, .long 0), (16, .long 0), (15, .int 0), (14, .int 0), (13, .int (pl_last S)), (12, .int 1), (11, .int 0), (10, .int mk), (9, .int fu), (8, .int ms), (7, .int bw), (6, .int (nI a)), (5, .int (nI t)), (4, .int 0), (0, .ref (ad 0)), (1, .ref q), (2, .int y), (3, .int od)]) hx hb dL_wakes_349 hl (by decide) rfl (fun ls hl => ?_)
                        refine lv_iconst (v := 0) hx hb dL_wakes_351 (by decide) ?_
                        refine lv_istore (lv' := [(20, .int 0), (18, .long 0), (16, .long 0), (15, .int 0), (14, .int 0), (13, .int (pl_last S)), (12, .int 1), (11, .int 0), (10, .int mk), (9, .int fu), (8, .int ms), (7, .int bw), (6, .int (nI a)), (5, .int (nI t)), (4, .int 0), (0, .ref (ad 0)), (1, .ref q), (2, .int y), (3, .int od)]) hx hb dL_wakes_352 hl (by decide) rfl (fun ls hl => ?_)
                        refine lv_iload hx hb dL_wakes_354 (lv_at hl 7 rfl) ?_
                        refine lv_if_ne (tgt := 485) hx hb dL_wakes_356 (by decide) (fun c => absurd c (by decide)) (fun _ => ?_)
                        refine lv_iload hx hb dL_wakes_359 (lv_at hl 6 rfl) ?_
                        refine lv_if_ne (tgt := 485) hx hb dL_wakes_361 (by decide) (fun _ => ?_) (fun c => absurd c (by decide))
                        refine lv_aload_n hx hb dL_wakes_485 rfl (lv_at hl 15 rfl) ?_
                        refine lv_iconst (v := (-1)) hx hb dL_wakes_486 (by decide) ?_
                        refine fk_callS (As := [.ref (ad 0), .int (-1)]) (rest := []) ⟨hx, hb, hml, hown, hts⟩ (kl_threads l D ad cI cT cJ _ S hG.1.sz hG.1.J (-1)) (va_cwS 2 hts gL_wakes_L_threads rfl rfl rfl (by decide +kernel) ⟨Nat.le_of_ble_eq_true rfl, Nat.le_of_ble_eq_true rfl⟩) hK hP hD hS hA rfl hl.1 rfl (Nat.le_of_ble_eq_true rfl) dL_wakes_487 ⟨Nat.le_of_ble_eq_true rfl, Nat.le_of_ble_eq_true rfl⟩ (fun H locs hP hD hS => ?_)
                        refine W.eq (g2 := F0 m 490 ls [.long (pl_thr S (-1))]) rfl ?_
                        refine lv_lstore (lv' := [(20, .long (pl_thr S (-1))), (18, .long 0), (16, .long 0), (15, .int 0), (14, .int 0), (13, .int (pl_last S)), (12, .int 1), (11, .int 0), (10, .int mk), (9, .int fu), (8, .int ms), (7, .int bw), (6, .int (nI a)), (5, .int (nI t)), (4, .int 0), (0, .ref (ad 0)), (1, .ref q), (2, .int y), (3, .int od)]) hx hb dL_wakes_490 hl (by decide) rfl (fun ls hl => ?_)
                        refine lv_iload hx hb dL_wakes_492 (lv_at hl 7 rfl) ?_
                        refine lv_if_eq (tgt := 501) hx hb dL_wakes_494 (by decide) (fun _ => ?_) (fun c => absurd c (by decide))
                        refine lv_aload_n hx hb dL_wakes_501 rfl (lv_at hl 15 rfl) ?_
                        refine lv_iload hx hb dL_wakes_502 (lv_at hl 12 rfl) ?_
                        refine fk_callV (As := [.int (nI a)]) (rest := []) ⟨hx, hb, hml, hown, hts⟩ (kc_word l D ad cI cT cJ _ S a ha) (cwV 1 hts gL_wakes_X2_word rfl rfl rfl (by decide +kernel) ⟨Nat.le_of_ble_eq_true rfl, Nat.le_of_ble_eq_true rfl⟩) (fk_rvK hK hP) hK hP hD hS hA rfl hl.1 rfl (Nat.le_of_ble_eq_true rfl) dL_wakes_504 ⟨Nat.le_of_ble_eq_true rfl, Nat.le_of_ble_eq_true rfl⟩ (fun H locs hP hD hS => ?_)
                        refine W.eq (g2 := F0 m 507 ls [.int (S 0 a)]) rfl ?_
                        refine lv_istore (lv' := [(22, .int (S 0 a)), (20, .long (pl_thr S (-1))), (18, .long 0), (16, .long 0), (15, .int 0), (14, .int 0), (13, .int (pl_last S)), (12, .int 1), (11, .int 0), (10, .int mk), (9, .int fu), (8, .int ms), (7, .int bw), (6, .int (nI a)), (5, .int (nI t)), (4, .int 0), (0, .ref (ad 0)), (1, .ref q), (2, .int y), (3, .int od)]) hx hb dL_wakes_507 hl (by decide) rfl (fun ls hl => ?_)
                        refine lv_iload hx hb dL_wakes_509 (lv_at hl 8 rfl) ?_
                        refine lv_if_ne (tgt := 532) hx hb dL_wakes_511 (by decide) (fun c => absurd c (by decide)) (fun _ => ?_)
                        refine lv_iload hx hb dL_wakes_514 (lv_at hl 7 rfl) ?_
                        refine lv_if_ne (tgt := 532) hx hb dL_wakes_516 (by decide) (fun _ => ?_) (fun c => absurd c (by decide))
                        refine lv_iconst (v := 0) hx hb dL_wakes_532 (by decide) ?_
                        refine lv_istore (lv' := [(23, .int 0), (22, .int (S 0 a)), (20, .long (pl_thr S (-1))), (18, .long 0), (16, .long 0), (15, .int 0), (14, .int 0), (13, .int (pl_last S)), (12, .int 1), (11, .int 0), (10, .int mk), (9, .int fu), (8, .int ms), (7, .int bw), (6, .int (nI a)), (5, .int (nI t)), (4, .int 0), (0, .ref (ad 0)), (1, .ref q), (2, .int y), (3, .int od)]) hx hb dL_wakes_533 hl (by decide) rfl (fun ls hl => ?_)
                        refine lv_iload hx hb dL_wakes_535 (lv_at hl 16 rfl) ?_
                        refine lv_if_eq (tgt := 566) hx hb dL_wakes_537 (by decide) (fun _ => ?_) (fun c => absurd c (by decide))
                        refine lv_iconst (v := (-1)) hx hb dL_wakes_566 (by decide) ?_
                        refine lv_istore (lv' := [(24, .int (-1)), (23, .int 0), (22, .int (S 0 a)), (20, .long (pl_thr S (-1))), (18, .long 0), (16, .long 0), (15, .int 0), (14, .int 0), (13, .int (pl_last S)), (12, .int 1), (11, .int 0), (10, .int mk), (9, .int fu), (8, .int ms), (7, .int bw), (6, .int (nI a)), (5, .int (nI t)), (4, .int 0), (0, .ref (ad 0)), (1, .ref q), (2, .int y), (3, .int od)]) hx hb dL_wakes_567 hl (by decide) rfl (fun ls hl => ?_)
                        refine lv_iload hx hb dL_wakes_569 (lv_at hl 0 rfl) ?_
                        refine lv_iconst (v := (-1)) hx hb dL_wakes_571 (by decide) ?_
                        refine lv_icmp_ne (tgt := 586) hx hb dL_wakes_572 (by decide) (fun c => absurd c (by decide)) (fun _ => ?_)
                        refine lv_aload_n hx hb dL_wakes_575 rfl (lv_at hl 18 rfl) ?_
                        refine lv_iconst (v := (-1)) hx hb dL_wakes_576 (by decide) ?_
                        refine fk_callS (As := [.ref (ad 0), .int (-1)]) (rest := []) ⟨hx, hb, hml, hown, hts⟩ (kl_threads l D ad cI cT cJ _ S hG.1.sz hG.1.J (-1)) (va_cwS 2 hts gL_wakes_L_threads rfl rfl rfl (by decide +kernel) ⟨Nat.le_of_ble_eq_true rfl, Nat.le_of_ble_eq_true rfl⟩) hK hP hD hS hA rfl hl.1 rfl (Nat.le_of_ble_eq_true rfl) dL_wakes_577 ⟨Nat.le_of_ble_eq_true rfl, Nat.le_of_ble_eq_true rfl⟩ (fun H locs hP hD hS => ?_)
                        refine W.eq (g2 := F0 m 580 ls [.long (pl_thr S (-1))]) rfl ?_
                        refine lv_lload hx hb dL_wakes_580 (lv_at hl 3 rfl) ?_
                        refine W.lcmp hx hb dL_wakes_582 ?_
                        refine W.eq (g2 := F0 m 583 ls [.int 0]) (by rw [fk_cmp_self]) ?_
                        refine lv_if_eq (tgt := 588) hx hb dL_wakes_583 (by decide) (fun _ => ?_) (fun c => absurd c (by decide))
                        refine lv_iload hx hb dL_wakes_588 (lv_at hl 17 rfl) ?_
                        refine lv_if_eq (tgt := 612) hx hb dL_wakes_590 (by decide) (fun _ => ?_) (fun c => absurd c (by decide))
                        refine lv_aload_n hx hb dL_wakes_612 rfl (lv_at hl 18 rfl) ?_
                        refine lv_iconst (v := 2) hx hb dL_wakes_613 (by decide) ?_
                        refine lv_iload hx hb dL_wakes_614 (lv_at hl 16 rfl) ?_
                        refine lv_iload hx hb dL_wakes_616 (lv_at hl 15 rfl) ?_
                        refine lv_iload hx hb dL_wakes_618 (lv_at hl 13 rfl) ?_
                        refine lv_iload hx hb dL_wakes_620 (lv_at hl 11 rfl) ?_
                        refine fk_lcallS (As := [.ref (ad 0), .int 2, .int (nI t), .int (nI a), .int ms, .int mk]) (rest := []) ⟨hx, hb, hml, hown, hts⟩ (Lx_wake_IA l D ad cI cT cJ _ S _ _ _ _ (xo_wakeA l D ad cI cT cJ S t a ht ha _ _ hst hbad8)) (vx_cwSW 6 hts gL_wakes_L_acts rfl rfl rfl (by decide +kernel) ⟨Nat.le_of_ble_eq_true rfl, Nat.le_of_ble_eq_true rfl⟩) hK hP hD hS hA hZ hN rfl hl.1 rfl (Nat.le_of_ble_eq_true rfl) dL_wakes_622 ⟨Nat.le_of_ble_eq_true rfl, Nat.le_of_ble_eq_true rfl⟩ (fun H locs hP hD hS => ?_)
                        refine W.eq (g2 := F0 m 625 ls [.int (-2147483202)]) rfl ?_
                        refine lv_istore (lv' := [(25, .int (-2147483202)), (24, .int (-1)), (23, .int 0), (22, .int (S 0 a)), (20, .long (pl_thr S (-1))), (18, .long 0), (16, .long 0), (15, .int 0), (14, .int 0), (13, .int (pl_last S)), (12, .int 1), (11, .int 0), (10, .int mk), (9, .int fu), (8, .int ms), (7, .int bw), (6, .int (nI a)), (5, .int (nI t)), (4, .int 0), (0, .ref (ad 0)), (1, .ref q), (2, .int y), (3, .int od)]) hx hb dL_wakes_625 hl (by decide) rfl (fun ls hl => ?_)
                        refine lv_iload hx hb dL_wakes_627 (lv_at hl 2 rfl) ?_
                        refine lv_if_ne (tgt := 676) hx hb dL_wakes_629 (by decide) (fun c => absurd c (by decide)) (fun _ => ?_)
                        refine lv_iload hx hb dL_wakes_632 (lv_at hl 0 rfl) ?_
                        refine lv_iload hx hb dL_wakes_634 (lv_at hl 11 rfl) ?_
                        refine lv_if_eq (tgt := 644) hx hb dL_wakes_636 (by decide) (fun _ => ?_) (fun c => absurd c (by decide))
                        refine lv_iload hx hb dL_wakes_644 (lv_at hl 10 rfl) ?_
                        refine lv_if_eq (tgt := 654) hx hb dL_wakes_646 (by decide) (fun c => absurd c (by decide)) (fun _ => ?_)
                        refine lv_ldc (own := RL) (v := (-2147483202)) hx hb hown (hts (.constant RL 20 (-2147483202)) (List.mem_of_getElem? (i := 2) rfl)) dL_wakes_649 ?_
                        refine lv_goto (tgt := 656) hx hb dL_wakes_651 (by decide) ?_
                        refine lv_icmp_ne (tgt := 674) hx hb dL_wakes_656 (by decide) (fun c => absurd c (by decide)) (fun _ => ?_)
                        refine lv_aload_n hx hb dL_wakes_659 rfl (lv_at hl 19 rfl) ?_
                        refine lv_iconst (v := (-1)) hx hb dL_wakes_660 (by decide) ?_
                        refine fk_callS (As := [.ref (ad 0), .int (-1)]) (rest := []) ⟨hx, hb, hml, hown, hts⟩ (kl_threads l D ad cI cT cJ _ S hG.1.sz hG.1.J (-1)) (va_cwS 2 hts gL_wakes_L_threads rfl rfl rfl (by decide +kernel) ⟨Nat.le_of_ble_eq_true rfl, Nat.le_of_ble_eq_true rfl⟩) hK hP hD hS hA rfl hl.1 rfl (Nat.le_of_ble_eq_true rfl) dL_wakes_661 ⟨Nat.le_of_ble_eq_true rfl, Nat.le_of_ble_eq_true rfl⟩ (fun H locs hP hD hS => ?_)
                        refine W.eq (g2 := F0 m 664 ls [.long (pl_thr S (-1))]) rfl ?_
                        refine lv_lload hx hb dL_wakes_664 (lv_at hl 4 rfl) ?_
                        refine W.lcmp hx hb dL_wakes_666 ?_
                        refine W.eq (g2 := F0 m 667 ls [.int 0]) (by rw [fk_cmp_self]) ?_
                        refine lv_if_ne (tgt := 674) hx hb dL_wakes_667 (by decide) (fun c => absurd c (by decide)) (fun _ => ?_)
                        refine lv_iconst (v := 1) hx hb dL_wakes_670 (by decide) ?_
                        refine lv_goto (tgt := 675) hx hb dL_wakes_671 (by decide) ?_
                        exact fk_zretE (Nat.le_of_ble_eq_true rfl) (Nat.le_of_ble_eq_true rfl) hx hb hr hlocks hP hK hD hS rfl ⟨rfl, _, _, rfl, (hG).wk (by omega)⟩ dL_wakes_675
                    refine lv_iload hx hb dL_wakes_255 (lv_at hl 7 rfl) ?_
                    refine lv_if_eq (tgt := 299) hx hb dL_wakes_257 (by decide) (fun _ => ?_) (fun c => absurd c (by decide))
                    refine lv_iload hx hb dL_wakes_299 (lv_at hl 3 rfl) ?_
                    refine lv_iconst (v := 1) hx hb dL_wakes_301 (by decide) ?_
                    refine lv_icmp_lt (tgt := 326) hx hb dL_wakes_302 (by decide) (fun c_93 => ?_) (fun c_93 => ?_)
                    · refine lv_iconst (v := 1) hx hb dL_wakes_326 (by decide) ?_
                      refine lv_goto (tgt := 331) hx hb dL_wakes_327 (by decide) ?_
                      exact jn331 1 (by first | (rw [fk_wA (v := ms) (lo := 1) (hi := 8) (by assumption)]; rfl) | (rw [fk_wA (v := mk) (lo := 1) (hi := 255) (by assumption), Bool.and_false]; rfl) | (rw [fk_wB (v := ms) (lo := 1) (hi := 8) (by assumption)]; rfl) | (rw [fk_wB (v := mk) (lo := 1) (hi := 255) (by assumption), Bool.and_false]; rfl) | (rw [fk_wC (v := ms) (lo := 1) (hi := 8) (by assumption)]; rfl) | (rw [fk_wC (v := mk) (lo := 1) (hi := 255) (by assumption), Bool.and_false]; rfl) | (rw [fk_wE (v := ms) (lo := 1) (hi := 8) (by assumption) (by assumption), fk_wE (v := mk) (lo := 1) (hi := 255) (by assumption) (by assumption)]; rfl) | (rw [fk_wE (v := ms) (lo := 1) (hi := 8) (by assumption) (by assumption), fk_wF (v := mk) (lo := 1) (hi := 255) (by assumption) (by assumption)]; rfl) | (rw [fk_wF (v := ms) (lo := 1) (hi := 8) (by assumption) (by assumption), fk_wE (v := mk) (lo := 1) (hi := 255) (by assumption) (by assumption)]; rfl) | (rw [fk_wF (v := ms) (lo := 1) (hi := 8) (by assumption) (by assumption), fk_wF (v := mk) (lo := 1) (hi := 255) (by assumption) (by assumption)]; rfl)) _ _ _ hP hD hS hl
                    · refine lv_iload hx hb dL_wakes_305 (lv_at hl 3 rfl) ?_
                      refine lv_bipush (v := 8) hx hb dL_wakes_307 (by decide) ?_
                      refine lv_icmp_gt (tgt := 326) hx hb dL_wakes_309 (by decide) (fun c_94 => ?_) (fun c_94 => ?_)
                      · refine lv_iconst (v := 1) hx hb dL_wakes_326 (by decide) ?_
                        refine lv_goto (tgt := 331) hx hb dL_wakes_327 (by decide) ?_
                        exact jn331 1 (by first | (rw [fk_wA (v := ms) (lo := 1) (hi := 8) (by assumption)]; rfl) | (rw [fk_wA (v := mk) (lo := 1) (hi := 255) (by assumption), Bool.and_false]; rfl) | (rw [fk_wB (v := ms) (lo := 1) (hi := 8) (by assumption)]; rfl) | (rw [fk_wB (v := mk) (lo := 1) (hi := 255) (by assumption), Bool.and_false]; rfl) | (rw [fk_wC (v := ms) (lo := 1) (hi := 8) (by assumption)]; rfl) | (rw [fk_wC (v := mk) (lo := 1) (hi := 255) (by assumption), Bool.and_false]; rfl) | (rw [fk_wE (v := ms) (lo := 1) (hi := 8) (by assumption) (by assumption), fk_wE (v := mk) (lo := 1) (hi := 255) (by assumption) (by assumption)]; rfl) | (rw [fk_wE (v := ms) (lo := 1) (hi := 8) (by assumption) (by assumption), fk_wF (v := mk) (lo := 1) (hi := 255) (by assumption) (by assumption)]; rfl) | (rw [fk_wF (v := ms) (lo := 1) (hi := 8) (by assumption) (by assumption), fk_wE (v := mk) (lo := 1) (hi := 255) (by assumption) (by assumption)]; rfl) | (rw [fk_wF (v := ms) (lo := 1) (hi := 8) (by assumption) (by assumption), fk_wF (v := mk) (lo := 1) (hi := 255) (by assumption) (by assumption)]; rfl)) _ _ _ hP hD hS hl
                      · refine lv_iload hx hb dL_wakes_312 (lv_at hl 1 rfl) ?_
                        refine lv_iconst (v := 1) hx hb dL_wakes_314 (by decide) ?_
                        refine lv_icmp_lt (tgt := 326) hx hb dL_wakes_315 (by decide) (fun c_95 => ?_) (fun c_95 => ?_)
                        · refine lv_iconst (v := 1) hx hb dL_wakes_326 (by decide) ?_
                          refine lv_goto (tgt := 331) hx hb dL_wakes_327 (by decide) ?_
                          exact jn331 1 (by first | (rw [fk_wA (v := ms) (lo := 1) (hi := 8) (by assumption)]; rfl) | (rw [fk_wA (v := mk) (lo := 1) (hi := 255) (by assumption), Bool.and_false]; rfl) | (rw [fk_wB (v := ms) (lo := 1) (hi := 8) (by assumption)]; rfl) | (rw [fk_wB (v := mk) (lo := 1) (hi := 255) (by assumption), Bool.and_false]; rfl) | (rw [fk_wC (v := ms) (lo := 1) (hi := 8) (by assumption)]; rfl) | (rw [fk_wC (v := mk) (lo := 1) (hi := 255) (by assumption), Bool.and_false]; rfl) | (rw [fk_wE (v := ms) (lo := 1) (hi := 8) (by assumption) (by assumption), fk_wE (v := mk) (lo := 1) (hi := 255) (by assumption) (by assumption)]; rfl) | (rw [fk_wE (v := ms) (lo := 1) (hi := 8) (by assumption) (by assumption), fk_wF (v := mk) (lo := 1) (hi := 255) (by assumption) (by assumption)]; rfl) | (rw [fk_wF (v := ms) (lo := 1) (hi := 8) (by assumption) (by assumption), fk_wE (v := mk) (lo := 1) (hi := 255) (by assumption) (by assumption)]; rfl) | (rw [fk_wF (v := ms) (lo := 1) (hi := 8) (by assumption) (by assumption), fk_wF (v := mk) (lo := 1) (hi := 255) (by assumption) (by assumption)]; rfl)) _ _ _ hP hD hS hl
                        · refine lv_iload hx hb dL_wakes_318 (lv_at hl 1 rfl) ?_
                          refine lv_sipush (v := 255) hx hb dL_wakes_320 (by decide) ?_
                          refine lv_icmp_le (tgt := 330) hx hb dL_wakes_323 (by decide) (fun c_96 => ?_) (fun c_96 => ?_)
                          · refine lv_iconst (v := 0) hx hb dL_wakes_330 (by decide) ?_
                            exact jn331 0 (by first | (rw [fk_wA (v := ms) (lo := 1) (hi := 8) (by assumption)]; rfl) | (rw [fk_wA (v := mk) (lo := 1) (hi := 255) (by assumption), Bool.and_false]; rfl) | (rw [fk_wB (v := ms) (lo := 1) (hi := 8) (by assumption)]; rfl) | (rw [fk_wB (v := mk) (lo := 1) (hi := 255) (by assumption), Bool.and_false]; rfl) | (rw [fk_wC (v := ms) (lo := 1) (hi := 8) (by assumption)]; rfl) | (rw [fk_wC (v := mk) (lo := 1) (hi := 255) (by assumption), Bool.and_false]; rfl) | (rw [fk_wE (v := ms) (lo := 1) (hi := 8) (by assumption) (by assumption), fk_wE (v := mk) (lo := 1) (hi := 255) (by assumption) (by assumption)]; rfl) | (rw [fk_wE (v := ms) (lo := 1) (hi := 8) (by assumption) (by assumption), fk_wF (v := mk) (lo := 1) (hi := 255) (by assumption) (by assumption)]; rfl) | (rw [fk_wF (v := ms) (lo := 1) (hi := 8) (by assumption) (by assumption), fk_wE (v := mk) (lo := 1) (hi := 255) (by assumption) (by assumption)]; rfl) | (rw [fk_wF (v := ms) (lo := 1) (hi := 8) (by assumption) (by assumption), fk_wF (v := mk) (lo := 1) (hi := 255) (by assumption) (by assumption)]; rfl)) _ _ _ hP hD hS hl
                          · refine lv_iconst (v := 1) hx hb dL_wakes_326 (by decide) ?_
                            refine lv_goto (tgt := 331) hx hb dL_wakes_327 (by decide) ?_
                            exact jn331 1 (by first | (rw [fk_wA (v := ms) (lo := 1) (hi := 8) (by assumption)]; rfl) | (rw [fk_wA (v := mk) (lo := 1) (hi := 255) (by assumption), Bool.and_false]; rfl) | (rw [fk_wB (v := ms) (lo := 1) (hi := 8) (by assumption)]; rfl) | (rw [fk_wB (v := mk) (lo := 1) (hi := 255) (by assumption), Bool.and_false]; rfl) | (rw [fk_wC (v := ms) (lo := 1) (hi := 8) (by assumption)]; rfl) | (rw [fk_wC (v := mk) (lo := 1) (hi := 255) (by assumption), Bool.and_false]; rfl) | (rw [fk_wE (v := ms) (lo := 1) (hi := 8) (by assumption) (by assumption), fk_wE (v := mk) (lo := 1) (hi := 255) (by assumption) (by assumption)]; rfl) | (rw [fk_wE (v := ms) (lo := 1) (hi := 8) (by assumption) (by assumption), fk_wF (v := mk) (lo := 1) (hi := 255) (by assumption) (by assumption)]; rfl) | (rw [fk_wF (v := ms) (lo := 1) (hi := 8) (by assumption) (by assumption), fk_wE (v := mk) (lo := 1) (hi := 255) (by assumption) (by assumption)]; rfl) | (rw [fk_wF (v := ms) (lo := 1) (hi := 8) (by assumption) (by assumption), fk_wF (v := mk) (lo := 1) (hi := 255) (by assumption) (by assumption)]; rfl)) _ _ _ hP hD hS hl
                  · have hout9 : (fk_isT th && fk_isA av) = false := Bool.eq_false_iff.mpr hout
                    have hov : ov = 1 := by rw [h_ov, hout9]; rfl
                    have hl : lv_has ls 29 [(11, .int 1), (10, .int mk), (9, .int fu), (8, .int ms), (7, .int bw), (6, .int av), (5, .int th), (4, .int 0), (0, .ref (ad 0)), (1, .ref q), (2, .int y), (3, .int od)] := by rw [hov] at hl; exact hl
                    have jn331 : ∀ (bv : Int32), ∀ (H : Heap) (locs : List Loc) (ls : Array Slot), va_P D vwCl (fk_kW ad cI cT S ++ (q, fk_pr cI P) :: X) H → va_D A (fk_kW ad cI cT S ++ (q, fk_pr cI P) :: X) → va_S A s.heap H locs → lv_has ls 29 [(11, .int 1), (10, .int mk), (9, .int fu), (8, .int ms), (7, .int bw), (6, .int av), (5, .int th), (4, .int 0), (0, .ref (ad 0)), (1, .ref q), (2, .int y), (3, .int od)] → W p l e rm_E s m ([.ref (ad 0), .ref q, .int y, .int od] : List Value).toArray below meth c H locs 0 0 (MQ below (fk_QE D (fk_ty cI cT cJ) A (kq_Phi ad cI cT q X (n + 20))) ([.ref (ad 0), .ref q, .int y, .int od] : List Value).toArray s 2 12 A) (F0 m 331 ls [.int bv]) := by
                      intro bv H locs ls hP hD hS hl
                      refine lv_istore (lv' := [(12, .int bv), (11, .int 1), (10, .int mk), (9, .int fu), (8, .int ms), (7, .int bw), (6, .int av), (5, .int th), (4, .int 0), (0, .ref (ad 0)), (1, .ref q), (2, .int y), (3, .int od)]) hx hb dL_wakes_331 hl (by decide) rfl (fun ls hl => ?_)
                      refine lv_aload_n hx hb dL_wakes_333 rfl (lv_at hl 9 rfl) ?_
                      refine fk_callS (As := [.ref (ad 0)]) (rest := []) ⟨hx, hb, hml, hown, hts⟩ (kl_last l D ad cI cT cJ _ S) (va_cwS 1 hts gL_wakes_L_last rfl rfl rfl (by decide +kernel) ⟨Nat.le_of_ble_eq_true rfl, Nat.le_of_ble_eq_true rfl⟩) hK hP hD hS hA rfl hl.1 rfl (Nat.le_of_ble_eq_true rfl) dL_wakes_334 ⟨Nat.le_of_ble_eq_true rfl, Nat.le_of_ble_eq_true rfl⟩ (fun H locs hP hD hS => ?_)
                      refine W.eq (g2 := F0 m 337 ls [.int (pl_last S)]) rfl ?_
                      refine lv_istore (lv' := [(13, .int (pl_last S)), (12, .int bv), (11, .int 1), (10, .int mk), (9, .int fu), (8, .int ms), (7, .int bw), (6, .int av), (5, .int th), (4, .int 0), (0, .ref (ad 0)), (1, .ref q), (2, .int y), (3, .int od)]) hx hb dL_wakes_337 hl (by decide) rfl (fun ls hl => ?_)
                      refine lv_iconst (v := 0) hx hb dL_wakes_339 (by decide) ?_
                      refine lv_istore (lv' := [(14, .int 0), (13, .int (pl_last S)), (12, .int bv), (11, .int 1), (10, .int mk), (9, .int fu), (8, .int ms), (7, .int bw), (6, .int av), (5, .int th), (4, .int 0), (0, .ref (ad 0)), (1, .ref q), (2, .int y), (3, .int od)]) hx hb dL_wakes_340 hl (by decide) rfl (fun ls hl => ?_)
                      refine lv_iconst (v := 0) hx hb dL_wakes_342 (by decide) ?_
                      refine lv_istore (lv' := [(15, .int 0), (14, .int 0), (13, .int (pl_last S)), (12, .int bv), (11, .int 1), (10, .int mk), (9, .int fu), (8, .int ms), (7, .int bw), (6, .int av), (5, .int th), (4, .int 0), (0, .ref (ad 0)), (1, .ref q), (2, .int y), (3, .int od)]) hx hb dL_wakes_343 hl (by decide) rfl (fun ls hl => ?_)
                      refine lv_lconst (v := 0) hx hb dL_wakes_345 (by decide) ?_
                      refine lv_lstore (lv' := [(16, .long 0), (15, .int 0), (14, .int 0), (13, .int (pl_last S)), (12, .int bv), (11, .int 1), (10, .int mk), (9, .int fu), (8, .int ms), (7, .int bw), (6, .int av), (5, .int th), (4, .int 0), (0, .ref (ad 0)), (1, .ref q), (2, .int y), (3, .int od)]) hx hb dL_wakes_346 hl (by decide) rfl (fun ls hl => ?_)
                      refine lv_lconst (v := 0) hx hb dL_wakes_348 (by decide) ?_
                      refine lv_lstore (lv' := [(18, .long 0), (16, .long 0), (15, .int 0), (14, .int 0), (13, .int (pl_last S)), (12, .int bv), (11, .int 1), (10, .int mk), (9, .int fu), (8, .int ms), (7, .int bw), (6, .int av), (5, .int th), (4, .int 0), (0, .ref (ad 0)), (1, .ref q), (2, .int y), (3, .int od)]) hx hb dL_wakes_349 hl (by decide) rfl (fun ls hl => ?_)
                      refine lv_iconst (v := 0) hx hb dL_wakes_351 (by decide) ?_
                      refine lv_istore (lv' := [(20, .int 0), (18, .long 0), (16, .long 0), (15, .int 0), (14, .int 0), (13, .int (pl_last S)), (12, .int bv), (11, .int 1), (10, .int mk), (9, .int fu), (8, .int ms), (7, .int bw), (6, .int av), (5, .int th), (4, .int 0), (0, .ref (ad 0)), (1, .ref q), (2, .int y), (3, .int od)]) hx hb dL_wakes_352 hl (by decide) rfl (fun ls hl => ?_)
                      refine lv_iload hx hb dL_wakes_354 (lv_at hl 7 rfl) ?_
                      refine lv_if_ne (tgt := 485) hx hb dL_wakes_356 (by decide) (fun _ => ?_) (fun c => absurd c (by decide))
                      refine lv_aload_n hx hb dL_wakes_485 rfl (lv_at hl 15 rfl) ?_
                      refine lv_iconst (v := (-1)) hx hb dL_wakes_486 (by decide) ?_
                      refine fk_callS (As := [.ref (ad 0), .int (-1)]) (rest := []) ⟨hx, hb, hml, hown, hts⟩ (kl_threads l D ad cI cT cJ _ S hG.1.sz hG.1.J (-1)) (va_cwS 2 hts gL_wakes_L_threads rfl rfl rfl (by decide +kernel) ⟨Nat.le_of_ble_eq_true rfl, Nat.le_of_ble_eq_true rfl⟩) hK hP hD hS hA rfl hl.1 rfl (Nat.le_of_ble_eq_true rfl) dL_wakes_487 ⟨Nat.le_of_ble_eq_true rfl, Nat.le_of_ble_eq_true rfl⟩ (fun H locs hP hD hS => ?_)
                      refine W.eq (g2 := F0 m 490 ls [.long (pl_thr S (-1))]) rfl ?_
                      refine lv_lstore (lv' := [(20, .long (pl_thr S (-1))), (18, .long 0), (16, .long 0), (15, .int 0), (14, .int 0), (13, .int (pl_last S)), (12, .int bv), (11, .int 1), (10, .int mk), (9, .int fu), (8, .int ms), (7, .int bw), (6, .int av), (5, .int th), (4, .int 0), (0, .ref (ad 0)), (1, .ref q), (2, .int y), (3, .int od)]) hx hb dL_wakes_490 hl (by decide) rfl (fun ls hl => ?_)
                      refine lv_iload hx hb dL_wakes_492 (lv_at hl 7 rfl) ?_
                      refine lv_if_eq (tgt := 501) hx hb dL_wakes_494 (by decide) (fun c => absurd c (by decide)) (fun _ => ?_)
                      refine lv_iconst (v := 0) hx hb dL_wakes_497 (by decide) ?_
                      refine lv_goto (tgt := 507) hx hb dL_wakes_498 (by decide) ?_
                      refine lv_istore (lv' := [(22, .int 0), (20, .long (pl_thr S (-1))), (18, .long 0), (16, .long 0), (15, .int 0), (14, .int 0), (13, .int (pl_last S)), (12, .int bv), (11, .int 1), (10, .int mk), (9, .int fu), (8, .int ms), (7, .int bw), (6, .int av), (5, .int th), (4, .int 0), (0, .ref (ad 0)), (1, .ref q), (2, .int y), (3, .int od)]) hx hb dL_wakes_507 hl (by decide) rfl (fun ls hl => ?_)
                      refine lv_iload hx hb dL_wakes_509 (lv_at hl 8 rfl) ?_
                      refine lv_if_ne (tgt := 532) hx hb dL_wakes_511 (by decide) (fun _ => ?_) (fun c => absurd c (by decide))
                      refine lv_iconst (v := 0) hx hb dL_wakes_532 (by decide) ?_
                      refine lv_istore (lv' := [(23, .int 0), (22, .int 0), (20, .long (pl_thr S (-1))), (18, .long 0), (16, .long 0), (15, .int 0), (14, .int 0), (13, .int (pl_last S)), (12, .int bv), (11, .int 1), (10, .int mk), (9, .int fu), (8, .int ms), (7, .int bw), (6, .int av), (5, .int th), (4, .int 0), (0, .ref (ad 0)), (1, .ref q), (2, .int y), (3, .int od)]) hx hb dL_wakes_533 hl (by decide) rfl (fun ls hl => ?_)
                      refine lv_iload hx hb dL_wakes_535 (lv_at hl 16 rfl) ?_
                      refine lv_if_eq (tgt := 566) hx hb dL_wakes_537 (by decide) (fun _ => ?_) (fun c => absurd c (by decide))
                      refine lv_iconst (v := (-1)) hx hb dL_wakes_566 (by decide) ?_
                      refine lv_istore (lv' := [(24, .int (-1)), (23, .int 0), (22, .int 0), (20, .long (pl_thr S (-1))), (18, .long 0), (16, .long 0), (15, .int 0), (14, .int 0), (13, .int (pl_last S)), (12, .int bv), (11, .int 1), (10, .int mk), (9, .int fu), (8, .int ms), (7, .int bw), (6, .int av), (5, .int th), (4, .int 0), (0, .ref (ad 0)), (1, .ref q), (2, .int y), (3, .int od)]) hx hb dL_wakes_567 hl (by decide) rfl (fun ls hl => ?_)
                      refine lv_iload hx hb dL_wakes_569 (lv_at hl 0 rfl) ?_
                      refine lv_iconst (v := (-1)) hx hb dL_wakes_571 (by decide) ?_
                      refine lv_icmp_ne (tgt := 586) hx hb dL_wakes_572 (by decide) (fun c => absurd c (by decide)) (fun _ => ?_)
                      refine lv_aload_n hx hb dL_wakes_575 rfl (lv_at hl 18 rfl) ?_
                      refine lv_iconst (v := (-1)) hx hb dL_wakes_576 (by decide) ?_
                      refine fk_callS (As := [.ref (ad 0), .int (-1)]) (rest := []) ⟨hx, hb, hml, hown, hts⟩ (kl_threads l D ad cI cT cJ _ S hG.1.sz hG.1.J (-1)) (va_cwS 2 hts gL_wakes_L_threads rfl rfl rfl (by decide +kernel) ⟨Nat.le_of_ble_eq_true rfl, Nat.le_of_ble_eq_true rfl⟩) hK hP hD hS hA rfl hl.1 rfl (Nat.le_of_ble_eq_true rfl) dL_wakes_577 ⟨Nat.le_of_ble_eq_true rfl, Nat.le_of_ble_eq_true rfl⟩ (fun H locs hP hD hS => ?_)
                      refine W.eq (g2 := F0 m 580 ls [.long (pl_thr S (-1))]) rfl ?_
                      refine lv_lload hx hb dL_wakes_580 (lv_at hl 3 rfl) ?_
                      refine W.lcmp hx hb dL_wakes_582 ?_
                      refine W.eq (g2 := F0 m 583 ls [.int 0]) (by rw [fk_cmp_self]) ?_
                      refine lv_if_eq (tgt := 588) hx hb dL_wakes_583 (by decide) (fun _ => ?_) (fun c => absurd c (by decide))
                      refine lv_iload hx hb dL_wakes_588 (lv_at hl 17 rfl) ?_
                      refine lv_if_eq (tgt := 612) hx hb dL_wakes_590 (by decide) (fun _ => ?_) (fun c => absurd c (by decide))
                      refine lv_aload_n hx hb dL_wakes_612 rfl (lv_at hl 18 rfl) ?_
                      refine lv_iconst (v := 2) hx hb dL_wakes_613 (by decide) ?_
                      refine lv_iload hx hb dL_wakes_614 (lv_at hl 16 rfl) ?_
                      refine lv_iload hx hb dL_wakes_616 (lv_at hl 15 rfl) ?_
                      refine lv_iload hx hb dL_wakes_618 (lv_at hl 13 rfl) ?_
                      refine lv_iload hx hb dL_wakes_620 (lv_at hl 11 rfl) ?_
                      refine fk_lcallS (As := [.ref (ad 0), .int 2, .int th, .int av, .int ms, .int mk]) (rest := []) ⟨hx, hb, hml, hown, hts⟩ (Lx_wake_IO l D ad cI cT cJ _ S _ _ _ _ (xo_wake l D ad cI cT cJ S th av _ _ hst hout9)) (vx_cwSW 6 hts gL_wakes_L_acts rfl rfl rfl (by decide +kernel) ⟨Nat.le_of_ble_eq_true rfl, Nat.le_of_ble_eq_true rfl⟩) hK hP hD hS hA hZ hN rfl hl.1 rfl (Nat.le_of_ble_eq_true rfl) dL_wakes_622 ⟨Nat.le_of_ble_eq_true rfl, Nat.le_of_ble_eq_true rfl⟩ (fun H locs hP hD hS => ?_)
                      refine W.eq (g2 := F0 m 625 ls [.int (-2147483201)]) rfl ?_
                      refine lv_istore (lv' := [(25, .int (-2147483201)), (24, .int (-1)), (23, .int 0), (22, .int 0), (20, .long (pl_thr S (-1))), (18, .long 0), (16, .long 0), (15, .int 0), (14, .int 0), (13, .int (pl_last S)), (12, .int bv), (11, .int 1), (10, .int mk), (9, .int fu), (8, .int ms), (7, .int bw), (6, .int av), (5, .int th), (4, .int 0), (0, .ref (ad 0)), (1, .ref q), (2, .int y), (3, .int od)]) hx hb dL_wakes_625 hl (by decide) rfl (fun ls hl => ?_)
                      refine lv_iload hx hb dL_wakes_627 (lv_at hl 2 rfl) ?_
                      refine lv_if_ne (tgt := 676) hx hb dL_wakes_629 (by decide) (fun c => absurd c (by decide)) (fun _ => ?_)
                      refine lv_iload hx hb dL_wakes_632 (lv_at hl 0 rfl) ?_
                      refine lv_iload hx hb dL_wakes_634 (lv_at hl 11 rfl) ?_
                      refine lv_if_eq (tgt := 644) hx hb dL_wakes_636 (by decide) (fun c => absurd c (by decide)) (fun _ => ?_)
                      refine lv_ldc (own := RL) (v := (-2147483201)) hx hb hown (hts (.constant RL 17 (-2147483201)) (List.mem_of_getElem? (i := 1) rfl)) dL_wakes_639 ?_
                      refine lv_goto (tgt := 656) hx hb dL_wakes_641 (by decide) ?_
                      refine lv_icmp_ne (tgt := 674) hx hb dL_wakes_656 (by decide) (fun c => absurd c (by decide)) (fun _ => ?_)
                      refine lv_aload_n hx hb dL_wakes_659 rfl (lv_at hl 19 rfl) ?_
                      refine lv_iconst (v := (-1)) hx hb dL_wakes_660 (by decide) ?_
                      refine fk_callS (As := [.ref (ad 0), .int (-1)]) (rest := []) ⟨hx, hb, hml, hown, hts⟩ (kl_threads l D ad cI cT cJ _ S hG.1.sz hG.1.J (-1)) (va_cwS 2 hts gL_wakes_L_threads rfl rfl rfl (by decide +kernel) ⟨Nat.le_of_ble_eq_true rfl, Nat.le_of_ble_eq_true rfl⟩) hK hP hD hS hA rfl hl.1 rfl (Nat.le_of_ble_eq_true rfl) dL_wakes_661 ⟨Nat.le_of_ble_eq_true rfl, Nat.le_of_ble_eq_true rfl⟩ (fun H locs hP hD hS => ?_)
                      refine W.eq (g2 := F0 m 664 ls [.long (pl_thr S (-1))]) rfl ?_
                      refine lv_lload hx hb dL_wakes_664 (lv_at hl 4 rfl) ?_
                      refine W.lcmp hx hb dL_wakes_666 ?_
                      refine W.eq (g2 := F0 m 667 ls [.int 0]) (by rw [fk_cmp_self]) ?_
                      refine lv_if_ne (tgt := 674) hx hb dL_wakes_667 (by decide) (fun c => absurd c (by decide)) (fun _ => ?_)
                      refine lv_iconst (v := 1) hx hb dL_wakes_670 (by decide) ?_
                      refine lv_goto (tgt := 675) hx hb dL_wakes_671 (by decide) ?_
                      exact fk_zretE (Nat.le_of_ble_eq_true rfl) (Nat.le_of_ble_eq_true rfl) hx hb hr hlocks hP hK hD hS rfl ⟨rfl, _, _, rfl, (hG).wk (by omega)⟩ dL_wakes_675
                    refine lv_iload hx hb dL_wakes_255 (lv_at hl 7 rfl) ?_
                    refine lv_if_eq (tgt := 299) hx hb dL_wakes_257 (by decide) (fun _ => ?_) (fun c => absurd c (by decide))
                    refine lv_iload hx hb dL_wakes_299 (lv_at hl 3 rfl) ?_
                    refine lv_iconst (v := 1) hx hb dL_wakes_301 (by decide) ?_
                    refine lv_icmp_lt (tgt := 326) hx hb dL_wakes_302 (by decide) (fun c_109 => ?_) (fun c_109 => ?_)
                    · refine lv_iconst (v := 1) hx hb dL_wakes_326 (by decide) ?_
                      refine lv_goto (tgt := 331) hx hb dL_wakes_327 (by decide) ?_
                      exact jn331 1 _ _ _ hP hD hS hl
                    · refine lv_iload hx hb dL_wakes_305 (lv_at hl 3 rfl) ?_
                      refine lv_bipush (v := 8) hx hb dL_wakes_307 (by decide) ?_
                      refine lv_icmp_gt (tgt := 326) hx hb dL_wakes_309 (by decide) (fun c_110 => ?_) (fun c_110 => ?_)
                      · refine lv_iconst (v := 1) hx hb dL_wakes_326 (by decide) ?_
                        refine lv_goto (tgt := 331) hx hb dL_wakes_327 (by decide) ?_
                        exact jn331 1 _ _ _ hP hD hS hl
                      · refine lv_iload hx hb dL_wakes_312 (lv_at hl 1 rfl) ?_
                        refine lv_iconst (v := 1) hx hb dL_wakes_314 (by decide) ?_
                        refine lv_icmp_lt (tgt := 326) hx hb dL_wakes_315 (by decide) (fun c_111 => ?_) (fun c_111 => ?_)
                        · refine lv_iconst (v := 1) hx hb dL_wakes_326 (by decide) ?_
                          refine lv_goto (tgt := 331) hx hb dL_wakes_327 (by decide) ?_
                          exact jn331 1 _ _ _ hP hD hS hl
                        · refine lv_iload hx hb dL_wakes_318 (lv_at hl 1 rfl) ?_
                          refine lv_sipush (v := 255) hx hb dL_wakes_320 (by decide) ?_
                          refine lv_icmp_le (tgt := 330) hx hb dL_wakes_323 (by decide) (fun c_112 => ?_) (fun c_112 => ?_)
                          · refine lv_iconst (v := 0) hx hb dL_wakes_330 (by decide) ?_
                            exact jn331 0 _ _ _ hP hD hS hl
                          · refine lv_iconst (v := 1) hx hb dL_wakes_326 (by decide) ?_
                            refine lv_goto (tgt := 331) hx hb dL_wakes_327 (by decide) ?_
                            exact jn331 1 _ _ _ hP hD hS hl
                refine lv_iload hx hb dL_wakes_207 (lv_at hl 5 rfl) ?_
                refine lv_if_lt (tgt := 248) hx hb dL_wakes_209 (by decide) (fun c_113 => ?_) (fun c_113 => ?_)
                · refine lv_iconst (v := 1) hx hb dL_wakes_248 (by decide) ?_
                  refine lv_goto (tgt := 253) hx hb dL_wakes_249 (by decide) ?_
                  exact jn253 1 (by first | (rw [fk_isT_no1 (th := th) (by assumption)]; rfl) | (rw [fk_isT_no2 (th := th) (by assumption)]; rfl) | (rw [fk_isA_no1 (av := av) (by assumption), Bool.and_false]; rfl) | (rw [fk_isA_no2 (av := av) (by assumption), Bool.and_false]; rfl) | (rw [fk_isA_no3 (av := av) (by assumption), Bool.and_false]; rfl) | (rw [fk_isT_iff (by assumption) (by assumption), fk_isA_yes2 (av := av) (by assumption) (by assumption)]; rfl)) _ _ _ hP hD hS hl
                · refine lv_iload hx hb dL_wakes_212 (lv_at hl 5 rfl) ?_
                  refine lv_bipush (v := 7) hx hb dL_wakes_214 (by decide) ?_
                  refine lv_icmp_gt (tgt := 248) hx hb dL_wakes_216 (by decide) (fun c_114 => ?_) (fun c_114 => ?_)
                  · refine lv_iconst (v := 1) hx hb dL_wakes_248 (by decide) ?_
                    refine lv_goto (tgt := 253) hx hb dL_wakes_249 (by decide) ?_
                    exact jn253 1 (by first | (rw [fk_isT_no1 (th := th) (by assumption)]; rfl) | (rw [fk_isT_no2 (th := th) (by assumption)]; rfl) | (rw [fk_isA_no1 (av := av) (by assumption), Bool.and_false]; rfl) | (rw [fk_isA_no2 (av := av) (by assumption), Bool.and_false]; rfl) | (rw [fk_isA_no3 (av := av) (by assumption), Bool.and_false]; rfl) | (rw [fk_isT_iff (by assumption) (by assumption), fk_isA_yes2 (av := av) (by assumption) (by assumption)]; rfl)) _ _ _ hP hD hS hl
                  · refine lv_iload hx hb dL_wakes_219 (lv_at hl 4 rfl) ?_
                    refine lv_if_lt (tgt := 248) hx hb dL_wakes_221 (by decide) (fun c_115 => ?_) (fun c_115 => ?_)
                    · refine lv_iconst (v := 1) hx hb dL_wakes_248 (by decide) ?_
                      refine lv_goto (tgt := 253) hx hb dL_wakes_249 (by decide) ?_
                      exact jn253 1 (by first | (rw [fk_isT_no1 (th := th) (by assumption)]; rfl) | (rw [fk_isT_no2 (th := th) (by assumption)]; rfl) | (rw [fk_isA_no1 (av := av) (by assumption), Bool.and_false]; rfl) | (rw [fk_isA_no2 (av := av) (by assumption), Bool.and_false]; rfl) | (rw [fk_isA_no3 (av := av) (by assumption), Bool.and_false]; rfl) | (rw [fk_isT_iff (by assumption) (by assumption), fk_isA_yes2 (av := av) (by assumption) (by assumption)]; rfl)) _ _ _ hP hD hS hl
                    · refine lv_iload hx hb dL_wakes_224 (lv_at hl 4 rfl) ?_
                      refine lv_bipush (v := 15) hx hb dL_wakes_226 (by decide) ?_
                      refine lv_icmp_gt (tgt := 248) hx hb dL_wakes_228 (by decide) (fun c_116 => ?_) (fun c_116 => ?_)
                      · refine lv_iconst (v := 1) hx hb dL_wakes_248 (by decide) ?_
                        refine lv_goto (tgt := 253) hx hb dL_wakes_249 (by decide) ?_
                        exact jn253 1 (by first | (rw [fk_isT_no1 (th := th) (by assumption)]; rfl) | (rw [fk_isT_no2 (th := th) (by assumption)]; rfl) | (rw [fk_isA_no1 (av := av) (by assumption), Bool.and_false]; rfl) | (rw [fk_isA_no2 (av := av) (by assumption), Bool.and_false]; rfl) | (rw [fk_isA_no3 (av := av) (by assumption), Bool.and_false]; rfl) | (rw [fk_isT_iff (by assumption) (by assumption), fk_isA_yes2 (av := av) (by assumption) (by assumption)]; rfl)) _ _ _ hP hD hS hl
                      · refine lv_iload hx hb dL_wakes_231 (lv_at hl 6 rfl) ?_
                        refine lv_if_eq (tgt := 252) hx hb dL_wakes_233 (by decide) (fun _ => ?_) (fun c => absurd c (by decide))
                        refine lv_iconst (v := 0) hx hb dL_wakes_252 (by decide) ?_
                        exact jn253 0 (by first | (rw [fk_isT_no1 (th := th) (by assumption)]; rfl) | (rw [fk_isT_no2 (th := th) (by assumption)]; rfl) | (rw [fk_isA_no1 (av := av) (by assumption), Bool.and_false]; rfl) | (rw [fk_isA_no2 (av := av) (by assumption), Bool.and_false]; rfl) | (rw [fk_isA_no3 (av := av) (by assumption), Bool.and_false]; rfl) | (rw [fk_isT_iff (by assumption) (by assumption), fk_isA_yes2 (av := av) (by assumption) (by assumption)]; rfl)) _ _ _ hP hD hS hl
              refine lv_iload hx hb dL_wakes_163 (lv_at hl 5 rfl) ?_
              refine lv_if_eq (tgt := 174) hx hb dL_wakes_165 (by decide) (fun _ => ?_) (fun c => absurd c (by decide))
              refine lv_iload_n hx hb dL_wakes_174 rfl (lv_at hl 9 rfl) ?_
              refine lv_if_eq (tgt := 193) hx hb dL_wakes_175 (by decide) (fun c_119 => ?_) (fun c_119 => ?_)
              · refine lv_iconst (v := 1) hx hb dL_wakes_193 (by decide) ?_
                refine lv_iload_n hx hb dL_wakes_194 rfl (lv_at hl 8 rfl) ?_
                refine lv_bipush (v := 14) hx hb dL_wakes_195 (by decide) ?_
                refine lv_ishr hx hb dL_wakes_197 ?_
                refine lv_sipush (v := 255) hx hb dL_wakes_198 (by decide) ?_
                refine fk_callS (As := [.int (y >>> (14 &&& 31)), .int 255]) (rest := [.int 1]) ⟨hx, hb, hml, hown, hts⟩ (kl_some l D ad cI cT cJ _ S (y >>> (14 &&& 31)) 255 (by decide)) (va_cwS 2 hts gL_wakes_L_some rfl rfl rfl (by decide +kernel) ⟨Nat.le_of_ble_eq_true rfl, Nat.le_of_ble_eq_true rfl⟩) hK hP hD hS hA rfl hl.1 rfl (Nat.le_of_ble_eq_true rfl) dL_wakes_201 ⟨Nat.le_of_ble_eq_true rfl, Nat.le_of_ble_eq_true rfl⟩ (fun H locs hP hD hS => ?_)
                refine W.eq (g2 := F0 m 204 ls [.int (pl_some (y >>> (14 &&& 31)) 255), .int 1]) rfl ?_
                refine lv_iadd hx hb dL_wakes_204 ?_
                exact jn205 ((1 : Int32) + (pl_some (y >>> (14 &&& 31)) 255)) _ _ _ hP hD hS hl
              · refine lv_iload_n hx hb dL_wakes_178 rfl (lv_at hl 8 rfl) ?_
                refine lv_bipush (v := 14) hx hb dL_wakes_179 (by decide) ?_
                refine lv_ishr hx hb dL_wakes_181 ?_
                refine lv_sipush (v := 260) hx hb dL_wakes_182 (by decide) ?_
                refine fk_callS (As := [.int (y >>> (14 &&& 31)), .int 260]) (rest := []) ⟨hx, hb, hml, hown, hts⟩ (kl_some l D ad cI cT cJ _ S (y >>> (14 &&& 31)) 260 (by decide)) (va_cwS 2 hts gL_wakes_L_some rfl rfl rfl (by decide +kernel) ⟨Nat.le_of_ble_eq_true rfl, Nat.le_of_ble_eq_true rfl⟩) hK hP hD hS hA rfl hl.1 rfl (Nat.le_of_ble_eq_true rfl) dL_wakes_185 ⟨Nat.le_of_ble_eq_true rfl, Nat.le_of_ble_eq_true rfl⟩ (fun H locs hP hD hS => ?_)
                refine W.eq (g2 := F0 m 188 ls [.int (pl_some (y >>> (14 &&& 31)) 260)]) rfl ?_
                refine lv_iconst (v := 2) hx hb dL_wakes_188 (by decide) ?_
                refine lv_isub hx hb dL_wakes_189 ?_
                refine lv_goto (tgt := 205) hx hb dL_wakes_190 (by decide) ?_
                exact jn205 ((pl_some (y >>> (14 &&& 31)) 260) - 2) _ _ _ hP hD hS hl
            refine lv_iload_n hx hb dL_wakes_135 rfl (lv_at hl 8 rfl) ?_
            refine lv_if_eq (tgt := 153) hx hb dL_wakes_136 (by decide) (fun c_120 => ?_) (fun c_120 => ?_)
            · refine lv_iload_n hx hb dL_wakes_153 rfl (lv_at hl 7 rfl) ?_
              refine lv_bipush (v := 12) hx hb dL_wakes_154 (by decide) ?_
              refine lv_ishr hx hb dL_wakes_156 ?_
              refine lv_iconst (v := 4) hx hb dL_wakes_157 (by decide) ?_
              refine fk_callS (As := [.int (y >>> (12 &&& 31)), .int 4]) (rest := []) ⟨hx, hb, hml, hown, hts⟩ (kl_some l D ad cI cT cJ _ S (y >>> (12 &&& 31)) 4 (by decide)) (va_cwS 2 hts gL_wakes_L_some rfl rfl rfl (by decide +kernel) ⟨Nat.le_of_ble_eq_true rfl, Nat.le_of_ble_eq_true rfl⟩) hK hP hD hS hA rfl hl.1 rfl (Nat.le_of_ble_eq_true rfl) dL_wakes_158 ⟨Nat.le_of_ble_eq_true rfl, Nat.le_of_ble_eq_true rfl⟩ (fun H locs hP hD hS => ?_)
              refine W.eq (g2 := F0 m 161 ls [.int (pl_some (y >>> (12 &&& 31)) 4)]) rfl ?_
              exact jn161 (pl_some (y >>> (12 &&& 31)) 4) _ _ _ hP hD hS hl
            · refine lv_iload_n hx hb dL_wakes_139 rfl (lv_at hl 7 rfl) ?_
              refine lv_bipush (v := 12) hx hb dL_wakes_140 (by decide) ?_
              refine lv_ishr hx hb dL_wakes_142 ?_
              refine lv_bipush (v := 11) hx hb dL_wakes_143 (by decide) ?_
              refine fk_callS (As := [.int (y >>> (12 &&& 31)), .int 11]) (rest := []) ⟨hx, hb, hml, hown, hts⟩ (kl_some l D ad cI cT cJ _ S (y >>> (12 &&& 31)) 11 (by decide)) (va_cwS 2 hts gL_wakes_L_some rfl rfl rfl (by decide +kernel) ⟨Nat.le_of_ble_eq_true rfl, Nat.le_of_ble_eq_true rfl⟩) hK hP hD hS hA rfl hl.1 rfl (Nat.le_of_ble_eq_true rfl) dL_wakes_145 ⟨Nat.le_of_ble_eq_true rfl, Nat.le_of_ble_eq_true rfl⟩ (fun H locs hP hD hS => ?_)
              refine W.eq (g2 := F0 m 148 ls [.int (pl_some (y >>> (12 &&& 31)) 11)]) rfl ?_
              refine lv_iconst (v := 1) hx hb dL_wakes_148 (by decide) ?_
              refine lv_isub hx hb dL_wakes_149 ?_
              refine lv_goto (tgt := 161) hx hb dL_wakes_150 (by decide) ?_
              exact jn161 ((pl_some (y >>> (12 &&& 31)) 11) - 1) _ _ _ hP hD hS hl
          refine lv_iload_n hx hb dL_wakes_107 rfl (lv_at hl 7 rfl) ?_
          refine lv_if_eq (tgt := 125) hx hb dL_wakes_108 (by decide) (fun c_121 => ?_) (fun c_121 => ?_)
          · refine lv_iload_n hx hb dL_wakes_125 rfl (lv_at hl 6 rfl) ?_
            refine lv_bipush (v := 10) hx hb dL_wakes_126 (by decide) ?_
            refine lv_ishr hx hb dL_wakes_128 ?_
            refine lv_iconst (v := 3) hx hb dL_wakes_129 (by decide) ?_
            refine fk_callS (As := [.int (y >>> (10 &&& 31)), .int 3]) (rest := []) ⟨hx, hb, hml, hown, hts⟩ (kl_some l D ad cI cT cJ _ S (y >>> (10 &&& 31)) 3 (by decide)) (va_cwS 2 hts gL_wakes_L_some rfl rfl rfl (by decide +kernel) ⟨Nat.le_of_ble_eq_true rfl, Nat.le_of_ble_eq_true rfl⟩) hK hP hD hS hA rfl hl.1 rfl (Nat.le_of_ble_eq_true rfl) dL_wakes_130 ⟨Nat.le_of_ble_eq_true rfl, Nat.le_of_ble_eq_true rfl⟩ (fun H locs hP hD hS => ?_)
            refine W.eq (g2 := F0 m 133 ls [.int (pl_some (y >>> (10 &&& 31)) 3)]) rfl ?_
            exact jn133 (pl_some (y >>> (10 &&& 31)) 3) _ _ _ hP hD hS hl
          · refine lv_iload_n hx hb dL_wakes_111 rfl (lv_at hl 6 rfl) ?_
            refine lv_bipush (v := 10) hx hb dL_wakes_112 (by decide) ?_
            refine lv_ishr hx hb dL_wakes_114 ?_
            refine lv_bipush (v := 11) hx hb dL_wakes_115 (by decide) ?_
            refine fk_callS (As := [.int (y >>> (10 &&& 31)), .int 11]) (rest := []) ⟨hx, hb, hml, hown, hts⟩ (kl_some l D ad cI cT cJ _ S (y >>> (10 &&& 31)) 11 (by decide)) (va_cwS 2 hts gL_wakes_L_some rfl rfl rfl (by decide +kernel) ⟨Nat.le_of_ble_eq_true rfl, Nat.le_of_ble_eq_true rfl⟩) hK hP hD hS hA rfl hl.1 rfl (Nat.le_of_ble_eq_true rfl) dL_wakes_117 ⟨Nat.le_of_ble_eq_true rfl, Nat.le_of_ble_eq_true rfl⟩ (fun H locs hP hD hS => ?_)
            refine W.eq (g2 := F0 m 120 ls [.int (pl_some (y >>> (10 &&& 31)) 11)]) rfl ?_
            refine lv_iconst (v := 1) hx hb dL_wakes_120 (by decide) ?_
            refine lv_isub hx hb dL_wakes_121 ?_
            refine lv_goto (tgt := 133) hx hb dL_wakes_122 (by decide) ?_
            exact jn133 ((pl_some (y >>> (10 &&& 31)) 11) - 1) _ _ _ hP hD hS hl
        refine lv_iload_n hx hb dL_wakes_70 rfl (lv_at hl 6 rfl) ?_
        refine lv_if_eq (tgt := 88) hx hb dL_wakes_71 (by decide) (fun c_122 => ?_) (fun c_122 => ?_)
        · refine lv_iload hx hb dL_wakes_88 (lv_at hl 0 rfl) ?_
          refine lv_iconst (v := 1) hx hb dL_wakes_90 (by decide) ?_
          refine lv_iadd hx hb dL_wakes_91 ?_
          refine lv_iload_n hx hb dL_wakes_92 rfl (lv_at hl 5 rfl) ?_
          refine lv_bipush (v := 8) hx hb dL_wakes_93 (by decide) ?_
          refine lv_ishr hx hb dL_wakes_95 ?_
          refine lv_bipush (v := 15) hx hb dL_wakes_96 (by decide) ?_
          refine fk_callS (As := [.int (y >>> (8 &&& 31)), .int 15]) (rest := [.int (av + (1 : Int32))]) ⟨hx, hb, hml, hown, hts⟩ (kl_some l D ad cI cT cJ _ S (y >>> (8 &&& 31)) 15 (by decide)) (va_cwS 2 hts gL_wakes_L_some rfl rfl rfl (by decide +kernel) ⟨Nat.le_of_ble_eq_true rfl, Nat.le_of_ble_eq_true rfl⟩) hK hP hD hS hA rfl hl.1 rfl (Nat.le_of_ble_eq_true rfl) dL_wakes_98 ⟨Nat.le_of_ble_eq_true rfl, Nat.le_of_ble_eq_true rfl⟩ (fun H locs hP hD hS => ?_)
          refine W.eq (g2 := F0 m 101 ls [.int (pl_some (y >>> (8 &&& 31)) 15), .int (av + (1 : Int32))]) rfl ?_
          refine lv_iadd hx hb dL_wakes_101 ?_
          refine lv_bipush (v := 16) hx hb dL_wakes_102 (by decide) ?_
          refine lv_irem hx hb dL_wakes_104 (by decide) ?_
          exact jn105 (((av + (1 : Int32)) + (pl_some (y >>> (8 &&& 31)) 15)) - ((av + (1 : Int32)) + (pl_some (y >>> (8 &&& 31)) 15)) / (16 : Int32) * (16 : Int32)) _ _ _ hP hD hS hl
        · refine lv_iload_n hx hb dL_wakes_74 rfl (lv_at hl 5 rfl) ?_
          refine lv_bipush (v := 8) hx hb dL_wakes_75 (by decide) ?_
          refine lv_ishr hx hb dL_wakes_77 ?_
          refine lv_bipush (v := 18) hx hb dL_wakes_78 (by decide) ?_
          refine fk_callS (As := [.int (y >>> (8 &&& 31)), .int 18]) (rest := []) ⟨hx, hb, hml, hown, hts⟩ (kl_some l D ad cI cT cJ _ S (y >>> (8 &&& 31)) 18 (by decide)) (va_cwS 2 hts gL_wakes_L_some rfl rfl rfl (by decide +kernel) ⟨Nat.le_of_ble_eq_true rfl, Nat.le_of_ble_eq_true rfl⟩) hK hP hD hS hA rfl hl.1 rfl (Nat.le_of_ble_eq_true rfl) dL_wakes_80 ⟨Nat.le_of_ble_eq_true rfl, Nat.le_of_ble_eq_true rfl⟩ (fun H locs hP hD hS => ?_)
          refine W.eq (g2 := F0 m 83 ls [.int (pl_some (y >>> (8 &&& 31)) 18)]) rfl ?_
          refine lv_iconst (v := 1) hx hb dL_wakes_83 (by decide) ?_
          refine lv_isub hx hb dL_wakes_84 ?_
          refine lv_goto (tgt := 105) hx hb dL_wakes_85 (by decide) ?_
          exact jn105 ((pl_some (y >>> (8 &&& 31)) 18) - 1) _ _ _ hP hD hS hl
      refine lv_iload_n hx hb dL_wakes_42 rfl (lv_at hl 5 rfl) ?_
      refine lv_if_eq (tgt := 60) hx hb dL_wakes_43 (by decide) (fun c_123 => ?_) (fun c_123 => ?_)
      · refine lv_iload_n hx hb dL_wakes_60 rfl (lv_at hl 4 rfl) ?_
        refine lv_bipush (v := 6) hx hb dL_wakes_61 (by decide) ?_
        refine lv_ishr hx hb dL_wakes_63 ?_
        refine lv_iconst (v := 4) hx hb dL_wakes_64 (by decide) ?_
        refine fk_callS (As := [.int (y >>> (6 &&& 31)), .int 4]) (rest := []) ⟨hx, hb, hml, hown, hts⟩ (kl_some l D ad cI cT cJ _ S (y >>> (6 &&& 31)) 4 (by decide)) (va_cwS 2 hts gL_wakes_L_some rfl rfl rfl (by decide +kernel) ⟨Nat.le_of_ble_eq_true rfl, Nat.le_of_ble_eq_true rfl⟩) hK hP hD hS hA rfl hl.1 rfl (Nat.le_of_ble_eq_true rfl) dL_wakes_65 ⟨Nat.le_of_ble_eq_true rfl, Nat.le_of_ble_eq_true rfl⟩ (fun H locs hP hD hS => ?_)
        refine W.eq (g2 := F0 m 68 ls [.int (pl_some (y >>> (6 &&& 31)) 4)]) rfl ?_
        exact jn68 (pl_some (y >>> (6 &&& 31)) 4) _ _ _ hP hD hS hl
      · refine lv_iload_n hx hb dL_wakes_46 rfl (lv_at hl 4 rfl) ?_
        refine lv_bipush (v := 6) hx hb dL_wakes_47 (by decide) ?_
        refine lv_ishr hx hb dL_wakes_49 ?_
        refine lv_bipush (v := 18) hx hb dL_wakes_50 (by decide) ?_
        refine fk_callS (As := [.int (y >>> (6 &&& 31)), .int 18]) (rest := []) ⟨hx, hb, hml, hown, hts⟩ (kl_some l D ad cI cT cJ _ S (y >>> (6 &&& 31)) 18 (by decide)) (va_cwS 2 hts gL_wakes_L_some rfl rfl rfl (by decide +kernel) ⟨Nat.le_of_ble_eq_true rfl, Nat.le_of_ble_eq_true rfl⟩) hK hP hD hS hA rfl hl.1 rfl (Nat.le_of_ble_eq_true rfl) dL_wakes_52 ⟨Nat.le_of_ble_eq_true rfl, Nat.le_of_ble_eq_true rfl⟩ (fun H locs hP hD hS => ?_)
        refine W.eq (g2 := F0 m 55 ls [.int (pl_some (y >>> (6 &&& 31)) 18)]) rfl ?_
        refine lv_iconst (v := 1) hx hb dL_wakes_55 (by decide) ?_
        refine lv_isub hx hb dL_wakes_56 ?_
        refine lv_goto (tgt := 68) hx hb dL_wakes_57 (by decide) ?_
        exact jn68 ((pl_some (y >>> (6 &&& 31)) 18) - 1) _ _ _ hP hD hS hl
    refine lv_iload_n hx hb dL_wakes_15 rfl (lv_at hl 4 rfl) ?_
    refine lv_if_eq (tgt := 32) hx hb dL_wakes_16 (by decide) (fun c_124 => ?_) (fun c_124 => ?_)
    · refine lv_iload_n hx hb dL_wakes_32 rfl (lv_at hl 3 rfl) ?_
      refine lv_iconst (v := 2) hx hb dL_wakes_33 (by decide) ?_
      refine lv_ishr hx hb dL_wakes_34 ?_
      refine lv_bipush (v := 8) hx hb dL_wakes_35 (by decide) ?_
      refine fk_callS (As := [.int (y >>> (2 &&& 31)), .int 8]) (rest := []) ⟨hx, hb, hml, hown, hts⟩ (kl_some l D ad cI cT cJ _ S (y >>> (2 &&& 31)) 8 (by decide)) (va_cwS 2 hts gL_wakes_L_some rfl rfl rfl (by decide +kernel) ⟨Nat.le_of_ble_eq_true rfl, Nat.le_of_ble_eq_true rfl⟩) hK hP hD hS hA rfl hl.1 rfl (Nat.le_of_ble_eq_true rfl) dL_wakes_37 ⟨Nat.le_of_ble_eq_true rfl, Nat.le_of_ble_eq_true rfl⟩ (fun H locs hP hD hS => ?_)
      refine W.eq (g2 := F0 m 40 ls [.int (pl_some (y >>> (2 &&& 31)) 8)]) rfl ?_
      exact jn40 (pl_some (y >>> (2 &&& 31)) 8) _ _ _ hP hD hS hl
    · refine lv_iload_n hx hb dL_wakes_19 rfl (lv_at hl 3 rfl) ?_
      refine lv_iconst (v := 2) hx hb dL_wakes_20 (by decide) ?_
      refine lv_ishr hx hb dL_wakes_21 ?_
      refine lv_bipush (v := 10) hx hb dL_wakes_22 (by decide) ?_
      refine fk_callS (As := [.int (y >>> (2 &&& 31)), .int 10]) (rest := []) ⟨hx, hb, hml, hown, hts⟩ (kl_some l D ad cI cT cJ _ S (y >>> (2 &&& 31)) 10 (by decide)) (va_cwS 2 hts gL_wakes_L_some rfl rfl rfl (by decide +kernel) ⟨Nat.le_of_ble_eq_true rfl, Nat.le_of_ble_eq_true rfl⟩) hK hP hD hS hA rfl hl.1 rfl (Nat.le_of_ble_eq_true rfl) dL_wakes_24 ⟨Nat.le_of_ble_eq_true rfl, Nat.le_of_ble_eq_true rfl⟩ (fun H locs hP hD hS => ?_)
      refine W.eq (g2 := F0 m 27 ls [.int (pl_some (y >>> (2 &&& 31)) 10)]) rfl ?_
      refine lv_iconst (v := 1) hx hb dL_wakes_27 (by decide) ?_
      refine lv_isub hx hb dL_wakes_28 ?_
      refine lv_goto (tgt := 40) hx hb dL_wakes_29 (by decide) ?_
      exact jn40 ((pl_some (y >>> (2 &&& 31)) 10) - 1) _ _ _ hP hD hS hl
  · refine lv_iconst (v := 1) hx hb dL_wakes_8 (by decide) ?_
    refine lv_goto (tgt := 13) hx hb dL_wakes_9 (by decide) ?_
    refine lv_istore (lv' := [(4, .int 1), (0, .ref (ad 0)), (1, .ref q), (2, .int y), (3, .int od)]) hx hb dL_wakes_13 hl (by decide) rfl (fun ls hl => ?_)
    have jn40 : ∀ (th : Int32), ∀ (H : Heap) (locs : List Loc) (ls : Array Slot), va_P D vwCl (fk_kW ad cI cT S ++ (q, fk_pr cI P) :: X) H → va_D A (fk_kW ad cI cT S ++ (q, fk_pr cI P) :: X) → va_S A s.heap H locs → lv_has ls 29 [(4, .int 1), (0, .ref (ad 0)), (1, .ref q), (2, .int y), (3, .int od)] → W p l e rm_E s m ([.ref (ad 0), .ref q, .int y, .int od] : List Value).toArray below meth c H locs 0 0 (MQ below (fk_QE D (fk_ty cI cT cJ) A (kq_Phi ad cI cT q X (n + 20))) ([.ref (ad 0), .ref q, .int y, .int od] : List Value).toArray s 2 12 A) (F0 m 40 ls [.int th]) := by
      intro th H locs ls hP hD hS hl
      refine lv_istore (lv' := [(5, .int th), (4, .int 1), (0, .ref (ad 0)), (1, .ref q), (2, .int y), (3, .int od)]) hx hb dL_wakes_40 hl (by decide) rfl (fun ls hl => ?_)
      have jn68 : ∀ (av : Int32), ∀ (H : Heap) (locs : List Loc) (ls : Array Slot), va_P D vwCl (fk_kW ad cI cT S ++ (q, fk_pr cI P) :: X) H → va_D A (fk_kW ad cI cT S ++ (q, fk_pr cI P) :: X) → va_S A s.heap H locs → lv_has ls 29 [(5, .int th), (4, .int 1), (0, .ref (ad 0)), (1, .ref q), (2, .int y), (3, .int od)] → W p l e rm_E s m ([.ref (ad 0), .ref q, .int y, .int od] : List Value).toArray below meth c H locs 0 0 (MQ below (fk_QE D (fk_ty cI cT cJ) A (kq_Phi ad cI cT q X (n + 20))) ([.ref (ad 0), .ref q, .int y, .int od] : List Value).toArray s 2 12 A) (F0 m 68 ls [.int av]) := by
        intro av H locs ls hP hD hS hl
        refine lv_istore (lv' := [(6, .int av), (5, .int th), (4, .int 1), (0, .ref (ad 0)), (1, .ref q), (2, .int y), (3, .int od)]) hx hb dL_wakes_68 hl (by decide) rfl (fun ls hl => ?_)
        have jn105 : ∀ (bw : Int32), ∀ (H : Heap) (locs : List Loc) (ls : Array Slot), va_P D vwCl (fk_kW ad cI cT S ++ (q, fk_pr cI P) :: X) H → va_D A (fk_kW ad cI cT S ++ (q, fk_pr cI P) :: X) → va_S A s.heap H locs → lv_has ls 29 [(6, .int av), (5, .int th), (4, .int 1), (0, .ref (ad 0)), (1, .ref q), (2, .int y), (3, .int od)] → W p l e rm_E s m ([.ref (ad 0), .ref q, .int y, .int od] : List Value).toArray below meth c H locs 0 0 (MQ below (fk_QE D (fk_ty cI cT cJ) A (kq_Phi ad cI cT q X (n + 20))) ([.ref (ad 0), .ref q, .int y, .int od] : List Value).toArray s 2 12 A) (F0 m 105 ls [.int bw]) := by
          intro bw H locs ls hP hD hS hl
          refine lv_istore (lv' := [(7, .int bw), (6, .int av), (5, .int th), (4, .int 1), (0, .ref (ad 0)), (1, .ref q), (2, .int y), (3, .int od)]) hx hb dL_wakes_105 hl (by decide) rfl (fun ls hl => ?_)
          have jn133 : ∀ (ms : Int32), ∀ (H : Heap) (locs : List Loc) (ls : Array Slot), va_P D vwCl (fk_kW ad cI cT S ++ (q, fk_pr cI P) :: X) H → va_D A (fk_kW ad cI cT S ++ (q, fk_pr cI P) :: X) → va_S A s.heap H locs → lv_has ls 29 [(7, .int bw), (6, .int av), (5, .int th), (4, .int 1), (0, .ref (ad 0)), (1, .ref q), (2, .int y), (3, .int od)] → W p l e rm_E s m ([.ref (ad 0), .ref q, .int y, .int od] : List Value).toArray below meth c H locs 0 0 (MQ below (fk_QE D (fk_ty cI cT cJ) A (kq_Phi ad cI cT q X (n + 20))) ([.ref (ad 0), .ref q, .int y, .int od] : List Value).toArray s 2 12 A) (F0 m 133 ls [.int ms]) := by
            intro ms H locs ls hP hD hS hl
            refine lv_istore (lv' := [(8, .int ms), (7, .int bw), (6, .int av), (5, .int th), (4, .int 1), (0, .ref (ad 0)), (1, .ref q), (2, .int y), (3, .int od)]) hx hb dL_wakes_133 hl (by decide) rfl (fun ls hl => ?_)
            have jn161 : ∀ (fu : Int32), ∀ (H : Heap) (locs : List Loc) (ls : Array Slot), va_P D vwCl (fk_kW ad cI cT S ++ (q, fk_pr cI P) :: X) H → va_D A (fk_kW ad cI cT S ++ (q, fk_pr cI P) :: X) → va_S A s.heap H locs → lv_has ls 29 [(8, .int ms), (7, .int bw), (6, .int av), (5, .int th), (4, .int 1), (0, .ref (ad 0)), (1, .ref q), (2, .int y), (3, .int od)] → W p l e rm_E s m ([.ref (ad 0), .ref q, .int y, .int od] : List Value).toArray below meth c H locs 0 0 (MQ below (fk_QE D (fk_ty cI cT cJ) A (kq_Phi ad cI cT q X (n + 20))) ([.ref (ad 0), .ref q, .int y, .int od] : List Value).toArray s 2 12 A) (F0 m 161 ls [.int fu]) := by
              intro fu H locs ls hP hD hS hl
              refine lv_istore (lv' := [(9, .int fu), (8, .int ms), (7, .int bw), (6, .int av), (5, .int th), (4, .int 1), (0, .ref (ad 0)), (1, .ref q), (2, .int y), (3, .int od)]) hx hb dL_wakes_161 hl (by decide) rfl (fun ls hl => ?_)
              refine lv_iload hx hb dL_wakes_163 (lv_at hl 5 rfl) ?_
              refine lv_if_eq (tgt := 174) hx hb dL_wakes_165 (by decide) (fun c => absurd c (by decide)) (fun _ => ?_)
              refine lv_sipush (v := 255) hx hb dL_wakes_168 (by decide) ?_
              refine lv_goto (tgt := 205) hx hb dL_wakes_171 (by decide) ?_
              refine lv_istore (lv' := [(10, .int 255), (9, .int fu), (8, .int ms), (7, .int bw), (6, .int av), (5, .int th), (4, .int 1), (0, .ref (ad 0)), (1, .ref q), (2, .int y), (3, .int od)]) hx hb dL_wakes_205 hl (by decide) rfl (fun ls hl => ?_)
              have jn253 : ∀ (ov : Int32), ov = fk_b (!(fk_isT th && fk_isA av && fk_isA bw)) → ∀ (H : Heap) (locs : List Loc) (ls : Array Slot), va_P D vwCl (fk_kW ad cI cT S ++ (q, fk_pr cI P) :: X) H → va_D A (fk_kW ad cI cT S ++ (q, fk_pr cI P) :: X) → va_S A s.heap H locs → lv_has ls 29 [(10, .int 255), (9, .int fu), (8, .int ms), (7, .int bw), (6, .int av), (5, .int th), (4, .int 1), (0, .ref (ad 0)), (1, .ref q), (2, .int y), (3, .int od)] → W p l e rm_E s m ([.ref (ad 0), .ref q, .int y, .int od] : List Value).toArray below meth c H locs 0 0 (MQ below (fk_QE D (fk_ty cI cT cJ) A (kq_Phi ad cI cT q X (n + 20))) ([.ref (ad 0), .ref q, .int y, .int od] : List Value).toArray s 2 12 A) (F0 m 253 ls [.int ov]) := by
                intro ov h_ov H locs ls hP hD hS hl
                refine lv_istore (lv' := [(11, .int ov), (10, .int 255), (9, .int fu), (8, .int ms), (7, .int bw), (6, .int av), (5, .int th), (4, .int 1), (0, .ref (ad 0)), (1, .ref q), (2, .int y), (3, .int od)]) hx hb dL_wakes_253 hl (by decide) rfl (fun ls hl => ?_)
                by_cases hout : (fk_isT th && fk_isA av && fk_isA bw) = true
                · have hov : ov = 0 := by rw [h_ov, hout]; rfl
                  simp only [Bool.and_eq_true] at hout
                  obtain ⟨t, ht, eth⟩ := fk_isT_of hout.1.1
                  obtain ⟨a, ha, eav⟩ := fk_isA_of hout.1.2
                  obtain ⟨b, hb9, ebw⟩ := fk_isA_of hout.2
                  have hl : lv_has ls 29 [(11, .int 0), (10, .int 255), (9, .int fu), (8, .int ms), (7, .int (nI b)), (6, .int (nI a)), (5, .int (nI t)), (4, .int 1), (0, .ref (ad 0)), (1, .ref q), (2, .int y), (3, .int od)] := by rw [hov, eth, eav, ebw] at hl; exact hl
                  have jn331 : ∀ (bv : Int32), bv = fk_b (!(!decide (nI a = nI b) && (fk_btw ms 0 8 && fk_btw fu 0 8))) → ∀ (H : Heap) (locs : List Loc) (ls : Array Slot), va_P D vwCl (fk_kW ad cI cT S ++ (q, fk_pr cI P) :: X) H → va_D A (fk_kW ad cI cT S ++ (q, fk_pr cI P) :: X) → va_S A s.heap H locs → lv_has ls 29 [(11, .int 0), (10, .int 255), (9, .int fu), (8, .int ms), (7, .int (nI b)), (6, .int (nI a)), (5, .int (nI t)), (4, .int 1), (0, .ref (ad 0)), (1, .ref q), (2, .int y), (3, .int od)] → W p l e rm_E s m ([.ref (ad 0), .ref q, .int y, .int od] : List Value).toArray below meth c H locs 0 0 (MQ below (fk_QE D (fk_ty cI cT cJ) A (kq_Phi ad cI cT q X (n + 20))) ([.ref (ad 0), .ref q, .int y, .int od] : List Value).toArray s 2 12 A) (F0 m 331 ls [.int bv]) := by
                    intro bv h_bv H locs ls hP hD hS hl
                    refine lv_istore (lv' := [(12, .int bv), (11, .int 0), (10, .int 255), (9, .int fu), (8, .int ms), (7, .int (nI b)), (6, .int (nI a)), (5, .int (nI t)), (4, .int 1), (0, .ref (ad 0)), (1, .ref q), (2, .int y), (3, .int od)]) hx hb dL_wakes_331 hl (by decide) rfl (fun ls hl => ?_)
                    by_cases hbad : (!decide (nI a = nI b) && (fk_btw ms 0 8 && fk_btw fu 0 8)) = true
                    · have hbad9 : bv = 0 := by rw [h_bv, hbad]; rfl
                      have hl : lv_has ls 29 [(12, .int 0), (11, .int 0), (10, .int 255), (9, .int fu), (8, .int ms), (7, .int (nI b)), (6, .int (nI a)), (5, .int (nI t)), (4, .int 1), (0, .ref (ad 0)), (1, .ref q), (2, .int y), (3, .int od)] := by rw [hbad9] at hl; exact hl
                      have hbad9 := hbad
                      simp only [Bool.and_eq_true, Bool.not_eq_true', decide_eq_false_iff_not] at hbad
                      have hab : ¬ a = b := fun z => hbad.1 (by rw [z])
                      obtain ⟨w9, -, hw9, ews⟩ := fk_btw_N (lo := 0) (hi := 8) hbad.2.1 (by decide) (by decide)
                      obtain ⟨v9, -, hv9, efu⟩ := fk_btw_N (lo := 0) (hi := 8) hbad.2.2 (by decide) (by decide)
                      have hm0 : fk_btw (nI w9) 0 8 = true := by rw [← ews]; exact hbad.2.1
                      have hm1 : fk_btw (nI v9) 0 8 = true := by rw [← efu]; exact hbad.2.2
                      have hl : lv_has ls 29 [(12, .int 0), (11, .int 0), (10, .int 255), (9, .int (nI v9)), (8, .int (nI w9)), (7, .int (nI b)), (6, .int (nI a)), (5, .int (nI t)), (4, .int 1), (0, .ref (ad 0)), (1, .ref q), (2, .int y), (3, .int od)] := by rw [ews, efu] at hl; exact hl
                      by_cases hs0 : S 1 t = 0
                      · refine lv_aload_n hx hb dL_wakes_333 rfl (lv_at hl 9 rfl) ?_
                        refine fk_callS (As := [.ref (ad 0)]) (rest := []) ⟨hx, hb, hml, hown, hts⟩ (kl_last l D ad cI cT cJ _ S) (va_cwS 1 hts gL_wakes_L_last rfl rfl rfl (by decide +kernel) ⟨Nat.le_of_ble_eq_true rfl, Nat.le_of_ble_eq_true rfl⟩) hK hP hD hS hA rfl hl.1 rfl (Nat.le_of_ble_eq_true rfl) dL_wakes_334 ⟨Nat.le_of_ble_eq_true rfl, Nat.le_of_ble_eq_true rfl⟩ (fun H locs hP hD hS => ?_)
                        refine W.eq (g2 := F0 m 337 ls [.int (pl_last S)]) rfl ?_
                        refine lv_istore (lv' := [(13, .int (pl_last S)), (12, .int 0), (11, .int 0), (10, .int 255), (9, .int (nI v9)), (8, .int (nI w9)), (7, .int (nI b)), (6, .int (nI a)), (5, .int (nI t)), (4, .int 1), (0, .ref (ad 0)), (1, .ref q), (2, .int y), (3, .int od)]) hx hb dL_wakes_337 hl (by decide) rfl (fun ls hl => ?_)
                        refine lv_iconst (v := 0) hx hb dL_wakes_339 (by decide) ?_
                        refine lv_istore (lv' := [(14, .int 0), (13, .int (pl_last S)), (12, .int 0), (11, .int 0), (10, .int 255), (9, .int (nI v9)), (8, .int (nI w9)), (7, .int (nI b)), (6, .int (nI a)), (5, .int (nI t)), (4, .int 1), (0, .ref (ad 0)), (1, .ref q), (2, .int y), (3, .int od)]) hx hb dL_wakes_340 hl (by decide) rfl (fun ls hl => ?_)
                        refine lv_iconst (v := 0) hx hb dL_wakes_342 (by decide) ?_
                        refine lv_istore (lv' := [(15, .int 0), (14, .int 0), (13, .int (pl_last S)), (12, .int 0), (11, .int 0), (10, .int 255), (9, .int (nI v9)), (8, .int (nI w9)), (7, .int (nI b)), (6, .int (nI a)), (5, .int (nI t)), (4, .int 1), (0, .ref (ad 0)), (1, .ref q), (2, .int y), (3, .int od)]) hx hb dL_wakes_343 hl (by decide) rfl (fun ls hl => ?_)
                        refine lv_lconst (v := 0) hx hb dL_wakes_345 (by decide) ?_
                        refine lv_lstore (lv' := [(16, .long 0), (15, .int 0), (14, .int 0), (13, .int (pl_last S)), (12, .int 0), (11, .int 0), (10, .int 255), (9, .int (nI v9)), (8, .int (nI w9)), (7, .int (nI b)), (6, .int (nI a)), (5, .int (nI t)), (4, .int 1), (0, .ref (ad 0)), (1, .ref q), (2, .int y), (3, .int od)]) hx hb dL_wakes_346 hl (by decide) rfl (fun ls hl => ?_)
                        refine lv_lconst (v := 0) hx hb dL_wakes_348 (by decide) ?_
                        refine lv_lstore (lv' := [(18, .long 0), (16, .long 0), (15, .int 0), (14, .int 0), (13, .int (pl_last S)), (12, .int 0), (11, .int 0), (10, .int 255), (9, .int (nI v9)), (8, .int (nI w9)), (7, .int (nI b)), (6, .int (nI a)), (5, .int (nI t)), (4, .int 1), (0, .ref (ad 0)), (1, .ref q), (2, .int y), (3, .int od)]) hx hb dL_wakes_349 hl (by decide) rfl (fun ls hl => ?_)
                        refine lv_iconst (v := 0) hx hb dL_wakes_351 (by decide) ?_
                        refine lv_istore (lv' := [(20, .int 0), (18, .long 0), (16, .long 0), (15, .int 0), (14, .int 0), (13, .int (pl_last S)), (12, .int 0), (11, .int 0), (10, .int 255), (9, .int (nI v9)), (8, .int (nI w9)), (7, .int (nI b)), (6, .int (nI a)), (5, .int (nI t)), (4, .int 1), (0, .ref (ad 0)), (1, .ref q), (2, .int y), (3, .int od)]) hx hb dL_wakes_352 hl (by decide) rfl (fun ls hl => ?_)
                        have loop1 : ∀ (n1 : Nat) (k : Nat) (F : List Nat) (c1 : Nat) (f1 : Int64) (c2 : Nat) (f2 : Int64), k + n1 = (kq_A S a).length → F ++ ((kq_A S a).drop k).filter (fun t => decide (S 1 t = 1) && decide (S 4 t &&& 255 ≠ 0)) = (kq_wt S a 255) → c1 = (F.take w9).length → f1 = lN (pl_pk (F.take w9)) → c2 = ((F.drop w9).take v9).length → f2 = lN (pl_pk ((F.drop w9).take v9)) → ∀ (H : Heap) (locs : List Loc) (ls : Array Slot), va_P D vwCl (fk_kW ad cI cT S ++ (q, fk_pr cI P) :: X) H → va_D A (fk_kW ad cI cT S ++ (q, fk_pr cI P) :: X) → va_S A s.heap H locs → lv_has ls 29 [(20, .int (nI k)), (14, .int (nI c1)), (16, .long f1), (15, .int (nI c2)), (18, .long f2), (13, .int (pl_last S)), (12, .int 0), (11, .int 0), (10, .int 255), (9, .int (nI v9)), (8, .int (nI w9)), (7, .int (nI b)), (6, .int (nI a)), (5, .int (nI t)), (4, .int 1), (0, .ref (ad 0)), (2, .int y), (3, .int od), (1, .ref q)] → W p l e rm_E s m ([.ref (ad 0), .ref q, .int y, .int od] : List Value).toArray below meth c H locs 0 0 (MQ below (fk_QE D (fk_ty cI cT cJ) A (kq_Phi ad cI cT q X (n + 20))) ([.ref (ad 0), .ref q, .int y, .int od] : List Value).toArray s 2 12 A) (F0 m 354 ls []) := by
                          intro n1
                          induction n1 with
                          | zero =>
                            intro k F c1 f1 c2 f2 hk hF hc1 hf1 hc2 hf2 H locs ls hP hD hS hl
                            have h8 := kq_A8 S a
                            have hFW : F = (kq_wt S a 255) := by rw [← hF, (kq_stop hk).2]; simp
                            obtain ⟨WK, hWK⟩ : ∃ WK, WK = (kq_wt S a 255).take w9 := ⟨_, rfl⟩
                            rw [hFW, ← hWK] at hc1 hf1
                            have hWK8 : ∀ u ∈ WK, u < 8 := fun z hz => by rw [hWK] at hz; exact (kq_wt_mem (List.mem_of_mem_take hz)).1
                            have hWKl : WK.length ≤ 8 := by rw [hWK, List.length_take]; have := kq_wt8 S a 255; omega
                            obtain ⟨MV, hMV⟩ : ∃ MV, MV = ((kq_wt S a 255).drop w9).take v9 := ⟨_, rfl⟩
                            rw [hFW, ← hMV] at hc2 hf2
                            have hMV8 : ∀ u ∈ MV, u < 8 := fun z hz => by rw [hMV] at hz; exact (kq_wt_mem (List.mem_of_mem_drop (List.mem_of_mem_take hz))).1
                            have hMVl : MV.length ≤ 8 := by rw [hMV, List.length_take, List.length_drop]; have := kq_wt8 S a 255; omega
                            have hl : lv_has ls 29 [(20, .int (nI k)), (14, .int (nI WK.length)), (16, .long (lN (pl_pk WK))), (15, .int (nI MV.length)), (18, .long (lN (pl_pk MV))), (13, .int (pl_last S)), (12, .int 0), (11, .int 0), (10, .int 255), (9, .int (nI v9)), (8, .int (nI w9)), (7, .int (nI b)), (6, .int (nI a)), (5, .int (nI t)), (4, .int 1), (0, .ref (ad 0)), (2, .int y), (3, .int od), (1, .ref q)] := by rw [hc1, hf1, hc2, hf2] at hl; exact hl
                            refine lv_iload hx hb dL_wakes_354 (lv_at hl 7 rfl) ?_
                            refine lv_if_ne (tgt := 485) hx hb dL_wakes_356 (by decide) (fun c => absurd c (by decide)) (fun _ => ?_)
                            refine lv_iload hx hb dL_wakes_359 (lv_at hl 6 rfl) ?_
                            refine lv_if_ne (tgt := 485) hx hb dL_wakes_361 (by decide) (fun c => absurd c (by decide)) (fun _ => ?_)
                            refine lv_iload hx hb dL_wakes_364 (lv_at hl 0 rfl) ?_
                            refine lv_aload_n hx hb dL_wakes_366 rfl (lv_at hl 15 rfl) ?_
                            refine lv_iload hx hb dL_wakes_367 (lv_at hl 12 rfl) ?_
                            refine fk_callV (As := [.int (nI a)]) (rest := [.int (nI k)]) ⟨hx, hb, hml, hown, hts⟩ (kc_waiters l D ad cI cT cJ _ S a ha) (cwV 1 hts gL_wakes_X2_waiters rfl rfl rfl (by decide +kernel) ⟨Nat.le_of_ble_eq_true rfl, Nat.le_of_ble_eq_true rfl⟩) (fk_rvK hK hP) hK hP hD hS hA rfl hl.1 rfl (Nat.le_of_ble_eq_true rfl) dL_wakes_369 ⟨Nat.le_of_ble_eq_true rfl, Nat.le_of_ble_eq_true rfl⟩ (fun H locs hP hD hS => ?_)
                            refine W.eq (g2 := F0 m 372 ls [.int (kk_waiters S (nI a)), .int (nI k)]) rfl ?_
                            refine W.eq (g2 := F0 m 372 ls [.int (nI ((kq_A S a).length)), .int (nI k)]) (by rw [show (kk_waiters S (nI a)) = (nI ((kq_A S a).length)) from (kq_waiters _ _)]) ?_
                            refine lv_icmp_ge (tgt := 485) hx hb dL_wakes_372 (by decide) (fun c_128 => ?_) (fun c_128 => absurd (nI_le (a := (kq_A S a).length) (b := k) (by omega) (by omega)) c_128)
                            refine lv_aload_n hx hb dL_wakes_485 rfl (lv_at hl 15 rfl) ?_
                            refine lv_iconst (v := (-1)) hx hb dL_wakes_486 (by decide) ?_
                            refine fk_callS (As := [.ref (ad 0), .int (-1)]) (rest := []) ⟨hx, hb, hml, hown, hts⟩ (kl_threads l D ad cI cT cJ _ S hG.1.sz hG.1.J (-1)) (va_cwS 2 hts gL_wakes_L_threads rfl rfl rfl (by decide +kernel) ⟨Nat.le_of_ble_eq_true rfl, Nat.le_of_ble_eq_true rfl⟩) hK hP hD hS hA rfl hl.1 rfl (Nat.le_of_ble_eq_true rfl) dL_wakes_487 ⟨Nat.le_of_ble_eq_true rfl, Nat.le_of_ble_eq_true rfl⟩ (fun H locs hP hD hS => ?_)
                            refine W.eq (g2 := F0 m 490 ls [.long (pl_thr S (-1))]) rfl ?_
                            refine lv_lstore (lv' := [(20, .long (pl_thr S (-1))), (14, .int (nI WK.length)), (16, .long (lN (pl_pk WK))), (15, .int (nI MV.length)), (18, .long (lN (pl_pk MV))), (13, .int (pl_last S)), (12, .int 0), (11, .int 0), (10, .int 255), (9, .int (nI v9)), (8, .int (nI w9)), (7, .int (nI b)), (6, .int (nI a)), (5, .int (nI t)), (4, .int 1), (0, .ref (ad 0)), (2, .int y), (3, .int od), (1, .ref q)]) hx hb dL_wakes_490 hl (by decide) rfl (fun ls hl => ?_)
                            refine lv_iload hx hb dL_wakes_492 (lv_at hl 7 rfl) ?_
                            refine lv_if_eq (tgt := 501) hx hb dL_wakes_494 (by decide) (fun _ => ?_) (fun c => absurd c (by decide))
                            refine lv_aload_n hx hb dL_wakes_501 rfl (lv_at hl 15 rfl) ?_
                            refine lv_iload hx hb dL_wakes_502 (lv_at hl 12 rfl) ?_
                            refine fk_callV (As := [.int (nI a)]) (rest := []) ⟨hx, hb, hml, hown, hts⟩ (kc_word l D ad cI cT cJ _ S a ha) (cwV 1 hts gL_wakes_X2_word rfl rfl rfl (by decide +kernel) ⟨Nat.le_of_ble_eq_true rfl, Nat.le_of_ble_eq_true rfl⟩) (fk_rvK hK hP) hK hP hD hS hA rfl hl.1 rfl (Nat.le_of_ble_eq_true rfl) dL_wakes_504 ⟨Nat.le_of_ble_eq_true rfl, Nat.le_of_ble_eq_true rfl⟩ (fun H locs hP hD hS => ?_)
                            refine W.eq (g2 := F0 m 507 ls [.int (S 0 a)]) rfl ?_
                            refine lv_istore (lv' := [(22, .int (S 0 a)), (20, .long (pl_thr S (-1))), (14, .int (nI WK.length)), (16, .long (lN (pl_pk WK))), (15, .int (nI MV.length)), (18, .long (lN (pl_pk MV))), (13, .int (pl_last S)), (12, .int 0), (11, .int 0), (10, .int 255), (9, .int (nI v9)), (8, .int (nI w9)), (7, .int (nI b)), (6, .int (nI a)), (5, .int (nI t)), (4, .int 1), (0, .ref (ad 0)), (2, .int y), (3, .int od), (1, .ref q)]) hx hb dL_wakes_507 hl (by decide) rfl (fun ls hl => ?_)
                            refine lv_iload hx hb dL_wakes_509 (lv_at hl 8 rfl) ?_
                            refine lv_if_ne (tgt := 532) hx hb dL_wakes_511 (by decide) (fun c => absurd c (by decide)) (fun _ => ?_)
                            refine lv_iload hx hb dL_wakes_514 (lv_at hl 7 rfl) ?_
                            refine lv_if_ne (tgt := 532) hx hb dL_wakes_516 (by decide) (fun c => absurd c (by decide)) (fun _ => ?_)
                            refine lv_aload_n hx hb dL_wakes_519 rfl (lv_at hl 16 rfl) ?_
                            refine lv_iload hx hb dL_wakes_520 (lv_at hl 14 rfl) ?_
                            refine fk_callV (As := [.int (nI t)]) (rest := []) ⟨hx, hb, hml, hown, hts⟩ (kc_stateOf l D ad cI cT cJ _ S t ht) (cwV 1 hts gL_wakes_X2_stateOf rfl rfl rfl (by decide +kernel) ⟨Nat.le_of_ble_eq_true rfl, Nat.le_of_ble_eq_true rfl⟩) (fk_rvK hK hP) hK hP hD hS hA rfl hl.1 rfl (Nat.le_of_ble_eq_true rfl) dL_wakes_522 ⟨Nat.le_of_ble_eq_true rfl, Nat.le_of_ble_eq_true rfl⟩ (fun H locs hP hD hS => ?_)
                            refine W.eq (g2 := F0 m 525 ls [.int (S 1 t)]) rfl ?_
                            refine W.eq (g2 := F0 m 525 ls [.int 0]) (by rw [show (S 1 t) = (0 : Int32) from hs0]) ?_
                            refine lv_if_ne (tgt := 532) hx hb dL_wakes_525 (by decide) (fun c => absurd c (by decide)) (fun _ => ?_)
                            refine lv_iconst (v := 1) hx hb dL_wakes_528 (by decide) ?_
                            refine lv_goto (tgt := 533) hx hb dL_wakes_529 (by decide) ?_
                            refine lv_istore (lv' := [(23, .int 1), (22, .int (S 0 a)), (20, .long (pl_thr S (-1))), (14, .int (nI WK.length)), (16, .long (lN (pl_pk WK))), (15, .int (nI MV.length)), (18, .long (lN (pl_pk MV))), (13, .int (pl_last S)), (12, .int 0), (11, .int 0), (10, .int 255), (9, .int (nI v9)), (8, .int (nI w9)), (7, .int (nI b)), (6, .int (nI a)), (5, .int (nI t)), (4, .int 1), (0, .ref (ad 0)), (2, .int y), (3, .int od), (1, .ref q)]) hx hb dL_wakes_533 hl (by decide) rfl (fun ls hl => ?_)
                            refine lv_iload hx hb dL_wakes_535 (lv_at hl 16 rfl) ?_
                            refine lv_if_eq (tgt := 566) hx hb dL_wakes_537 (by decide) (fun c => absurd c (by decide)) (fun _ => ?_)
                            refine lv_iload hx hb dL_wakes_540 (lv_at hl 0 rfl) ?_
                            refine lv_if_eq (tgt := 566) hx hb dL_wakes_542 (by decide) (fun c => absurd c (by decide)) (fun _ => ?_)
                            refine lv_aload_n hx hb dL_wakes_545 rfl (lv_at hl 17 rfl) ?_
                            refine lv_iload hx hb dL_wakes_546 (lv_at hl 15 rfl) ?_
                            refine lv_iload hx hb dL_wakes_548 (lv_at hl 14 rfl) ?_
                            refine lv_iload hx hb dL_wakes_550 (lv_at hl 1 rfl) ?_
                            refine lv_iconst (v := 1) hx hb dL_wakes_552 (by decide) ?_
                            refine lv_iadd hx hb dL_wakes_553 ?_
                            refine lv_iload hx hb dL_wakes_554 (lv_at hl 12 rfl) ?_
                            refine lv_iload hx hb dL_wakes_556 (lv_at hl 13 rfl) ?_
                            refine lv_iload hx hb dL_wakes_558 (lv_at hl 11 rfl) ?_
                            refine fk_lcallS (As := [.ref (ad 0), .int (nI t), .int (nI a), .int ((S 0 a) + (1 : Int32)), .int (nI w9), .int (nI b), .int (nI v9)]) (rest := []) ⟨hx, hb, hml, hown, hts⟩ (Lc_requeue l D ad cI cT cJ _ S _ _ _ _ _ _ S (-1) (fun X => by have h9 := kc_requeue l D ad cI cT cJ X S t ht a ha b hb9 hab w9 v9 hw9 hv9 (S 0 a + 1) hs0 hm0 hm1; unfold kk_requeueR kk_requeue at h9; rw [if_neg (fk_ne1 _), if_neg (fk_ne1 _)] at h9; exact h9)) (vx_cwSW 7 hts gL_wakes_L_requeue rfl rfl rfl (by decide +kernel) ⟨Nat.le_of_ble_eq_true rfl, Nat.le_of_ble_eq_true rfl⟩) hK hP hD hS hA hZ hN rfl hl.1 rfl (Nat.le_of_ble_eq_true rfl) dL_wakes_560 ⟨Nat.le_of_ble_eq_true rfl, Nat.le_of_ble_eq_true rfl⟩ (fun H locs hP hD hS => ?_)
                            refine W.eq (g2 := F0 m 563 ls [.int (-1)]) rfl ?_
                            refine lv_goto (tgt := 567) hx hb dL_wakes_563 (by decide) ?_
                            refine lv_istore (lv' := [(24, .int (-1)), (23, .int 1), (22, .int (S 0 a)), (20, .long (pl_thr S (-1))), (14, .int (nI WK.length)), (16, .long (lN (pl_pk WK))), (15, .int (nI MV.length)), (18, .long (lN (pl_pk MV))), (13, .int (pl_last S)), (12, .int 0), (11, .int 0), (10, .int 255), (9, .int (nI v9)), (8, .int (nI w9)), (7, .int (nI b)), (6, .int (nI a)), (5, .int (nI t)), (4, .int 1), (0, .ref (ad 0)), (2, .int y), (3, .int od), (1, .ref q)]) hx hb dL_wakes_567 hl (by decide) rfl (fun ls hl => ?_)
                            refine lv_iload hx hb dL_wakes_569 (lv_at hl 0 rfl) ?_
                            refine lv_iconst (v := (-1)) hx hb dL_wakes_571 (by decide) ?_
                            refine lv_icmp_ne (tgt := 586) hx hb dL_wakes_572 (by decide) (fun c => absurd c (by decide)) (fun _ => ?_)
                            refine lv_aload_n hx hb dL_wakes_575 rfl (lv_at hl 18 rfl) ?_
                            refine lv_iconst (v := (-1)) hx hb dL_wakes_576 (by decide) ?_
                            refine fk_callS (As := [.ref (ad 0), .int (-1)]) (rest := []) ⟨hx, hb, hml, hown, hts⟩ (kl_threads l D ad cI cT cJ _ S hG.1.sz hG.1.J (-1)) (va_cwS 2 hts gL_wakes_L_threads rfl rfl rfl (by decide +kernel) ⟨Nat.le_of_ble_eq_true rfl, Nat.le_of_ble_eq_true rfl⟩) hK hP hD hS hA rfl hl.1 rfl (Nat.le_of_ble_eq_true rfl) dL_wakes_577 ⟨Nat.le_of_ble_eq_true rfl, Nat.le_of_ble_eq_true rfl⟩ (fun H locs hP hD hS => ?_)
                            refine W.eq (g2 := F0 m 580 ls [.long (pl_thr S (-1))]) rfl ?_
                            refine lv_lload hx hb dL_wakes_580 (lv_at hl 3 rfl) ?_
                            refine W.lcmp hx hb dL_wakes_582 ?_
                            refine W.eq (g2 := F0 m 583 ls [.int 0]) (by rw [fk_cmp_self]) ?_
                            refine lv_if_eq (tgt := 588) hx hb dL_wakes_583 (by decide) (fun _ => ?_) (fun c => absurd c (by decide))
                            refine lv_iload hx hb dL_wakes_588 (lv_at hl 17 rfl) ?_
                            refine lv_if_eq (tgt := 612) hx hb dL_wakes_590 (by decide) (fun c => absurd c (by decide)) (fun _ => ?_)
                            refine lv_aload_n hx hb dL_wakes_593 rfl (lv_at hl 18 rfl) ?_
                            refine lv_iload hx hb dL_wakes_594 (lv_at hl 16 rfl) ?_
                            refine lv_iload hx hb dL_wakes_596 (lv_at hl 15 rfl) ?_
                            refine lv_iload hx hb dL_wakes_598 (lv_at hl 2 rfl) ?_
                            refine lv_iload hx hb dL_wakes_600 (lv_at hl 13 rfl) ?_
                            refine lv_iload hx hb dL_wakes_602 (lv_at hl 14 rfl) ?_
                            refine lv_iload hx hb dL_wakes_604 (lv_at hl 12 rfl) ?_
                            obtain ⟨E, hser, hE, heR, hG1, hword, hwk, hmv⟩ := kq_requeue_all hG hn ha hb9 hab hw9 hv9
                            rw [← hWK, ← hMV] at heR
                            rw [← hWK] at hwk
                            rw [← hMV] at hmv
                            refine fk_lcallS (As := [.ref (ad 0), .int (nI t), .int (nI a), .int (S 0 a), .int (nI w9), .int (nI b), .int (nI v9)]) (rest := []) ⟨hx, hb, hml, hown, hts⟩ (Lc_requeue l D ad cI cT cJ _ S _ _ _ _ _ _ (kk_requeue S a b (S 0 a) w9 v9) (nI (WK.length + MV.length)) (fun X => by rw [← heR]; exact kc_requeue l D ad cI cT cJ X S t ht a ha b hb9 hab w9 v9 hw9 hv9 (S 0 a) hs0 hm0 hm1)) (vx_cwSW 7 hts gL_wakes_L_requeue rfl rfl rfl (by decide +kernel) ⟨Nat.le_of_ble_eq_true rfl, Nat.le_of_ble_eq_true rfl⟩) hK hP hD hS hA hZ hN rfl hl.1 rfl (Nat.le_of_ble_eq_true rfl) dL_wakes_606 ⟨Nat.le_of_ble_eq_true rfl, Nat.le_of_ble_eq_true rfl⟩ (fun H locs hP hD hS => ?_)
                            refine W.eq (g2 := F0 m 609 ls [.int (nI (WK.length + MV.length))]) rfl ?_
                            refine lv_goto (tgt := 625) hx hb dL_wakes_609 (by decide) ?_
                            refine lv_istore (lv' := [(25, .int (nI (WK.length + MV.length))), (24, .int (-1)), (23, .int 1), (22, .int (S 0 a)), (20, .long (pl_thr S (-1))), (14, .int (nI WK.length)), (16, .long (lN (pl_pk WK))), (15, .int (nI MV.length)), (18, .long (lN (pl_pk MV))), (13, .int (pl_last S)), (12, .int 0), (11, .int 0), (10, .int 255), (9, .int (nI v9)), (8, .int (nI w9)), (7, .int (nI b)), (6, .int (nI a)), (5, .int (nI t)), (4, .int 1), (0, .ref (ad 0)), (2, .int y), (3, .int od), (1, .ref q)]) hx hb dL_wakes_625 hl (by decide) rfl (fun ls hl => ?_)
                            refine lv_iload hx hb dL_wakes_627 (lv_at hl 2 rfl) ?_
                            refine lv_if_ne (tgt := 676) hx hb dL_wakes_629 (by decide) (fun _ => ?_) (fun c => absurd c (by decide))
                            refine lv_iload hx hb dL_wakes_676 (lv_at hl 0 rfl) ?_
                            refine lv_iload hx hb dL_wakes_678 (lv_at hl 5 rfl) ?_
                            refine lv_iload hx hb dL_wakes_680 (lv_at hl 7 rfl) ?_
                            refine lv_iadd hx hb dL_wakes_682 ?_
                            refine W.eq (g2 := F0 m 683 ls [.int (nI (WK.length + MV.length)), .int (nI (WK.length + MV.length))]) (by rw [nI_add]) ?_
                            refine lv_icmp_ne (tgt := 690) hx hb dL_wakes_683 (by decide) (fun c => absurd rfl c) (fun _ => ?_)
                            refine lv_iconst (v := 1) hx hb dL_wakes_686 (by decide) ?_
                            refine lv_goto (tgt := 691) hx hb dL_wakes_687 (by decide) ?_
                            refine lv_istore (lv' := [(26, .int 1), (25, .int (nI (WK.length + MV.length))), (24, .int (-1)), (23, .int 1), (22, .int (S 0 a)), (20, .long (pl_thr S (-1))), (14, .int (nI WK.length)), (16, .long (lN (pl_pk WK))), (15, .int (nI MV.length)), (18, .long (lN (pl_pk MV))), (13, .int (pl_last S)), (12, .int 0), (11, .int 0), (10, .int 255), (9, .int (nI v9)), (8, .int (nI w9)), (7, .int (nI b)), (6, .int (nI a)), (5, .int (nI t)), (4, .int 1), (0, .ref (ad 0)), (2, .int y), (3, .int od), (1, .ref q)]) hx hb dL_wakes_691 hl (by decide) rfl (fun ls hl => ?_)
                            refine lv_iconst (v := 0) hx hb dL_wakes_693 (by decide) ?_
                            refine lv_istore (lv' := [(27, .int 0), (26, .int 1), (25, .int (nI (WK.length + MV.length))), (24, .int (-1)), (23, .int 1), (22, .int (S 0 a)), (20, .long (pl_thr S (-1))), (14, .int (nI WK.length)), (16, .long (lN (pl_pk WK))), (15, .int (nI MV.length)), (18, .long (lN (pl_pk MV))), (13, .int (pl_last S)), (12, .int 0), (11, .int 0), (10, .int 255), (9, .int (nI v9)), (8, .int (nI w9)), (7, .int (nI b)), (6, .int (nI a)), (5, .int (nI t)), (4, .int 1), (0, .ref (ad 0)), (2, .int y), (3, .int od), (1, .ref q)]) hx hb dL_wakes_694 hl (by decide) rfl (fun ls hl => ?_)
                            have loop3 : ∀ (n1 : Nat) (k : Nat), k + n1 = WK.length → ∀ (H : Heap) (locs : List Loc) (ls : Array Slot), va_P D vwCl (fk_kW ad cI cT (kk_requeue S a b (S 0 a) w9 v9) ++ (q, fk_pr cI P) :: X) H → va_D A (fk_kW ad cI cT (kk_requeue S a b (S 0 a) w9 v9) ++ (q, fk_pr cI P) :: X) → va_S A s.heap H locs → lv_has ls 29 [(27, .int (nI k)), (26, .int 1), (22, .int (S 0 a)), (16, .long (lN (pl_pk WK))), (14, .int (nI WK.length)), (13, .int (pl_last S)), (6, .int (nI a)), (0, .ref (ad 0)), (1, .ref q), (18, .long (lN (pl_pk MV))), (15, .int (nI MV.length)), (7, .int (nI b))] → W p l e rm_E s m ([.ref (ad 0), .ref q, .int y, .int od] : List Value).toArray below meth c H locs (0 + 1 + 1) (0 + 6 + 6) (MQ below (fk_QE D (fk_ty cI cT cJ) A (kq_Phi ad cI cT q X (n + 20))) ([.ref (ad 0), .ref q, .int y, .int od] : List Value).toArray s 2 12 A) (F0 m 696 ls []) := by
                              intro n1
                              induction n1 with
                              | zero =>
                                intro k hk H locs ls hP hD hS hl
                                refine lv_iload hx hb dL_wakes_696 (lv_at hl 0 rfl) ?_
                                refine lv_iload hx hb dL_wakes_698 (lv_at hl 4 rfl) ?_
                                refine lv_icmp_ge (tgt := 801) hx hb dL_wakes_700 (by decide) (fun c_139 => ?_) (fun c_139 => absurd (nI_le (a := WK.length) (b := k) (by omega) (by omega)) c_139)
                                refine lv_iconst (v := 0) hx hb dL_wakes_801 (by decide) ?_
                                refine lv_istore (lv' := [(27, .int 0), (26, .int 1), (22, .int (S 0 a)), (16, .long (lN (pl_pk WK))), (14, .int (nI WK.length)), (13, .int (pl_last S)), (6, .int (nI a)), (0, .ref (ad 0)), (1, .ref q), (18, .long (lN (pl_pk MV))), (15, .int (nI MV.length)), (7, .int (nI b))]) hx hb dL_wakes_802 hl (by decide) rfl (fun ls hl => ?_)
                                have loop4 : ∀ (n1 : Nat) (k : Nat), k + n1 = MV.length → ∀ (H : Heap) (locs : List Loc) (ls : Array Slot), va_P D vwCl (fk_kW ad cI cT (kk_requeue S a b (S 0 a) w9 v9) ++ (q, fk_pr cI P) :: X) H → va_D A (fk_kW ad cI cT (kk_requeue S a b (S 0 a) w9 v9) ++ (q, fk_pr cI P) :: X) → va_S A s.heap H locs → lv_has ls 29 [(27, .int (nI k)), (26, .int 1), (22, .int (S 0 a)), (18, .long (lN (pl_pk MV))), (15, .int (nI MV.length)), (7, .int (nI b)), (6, .int (nI a)), (0, .ref (ad 0)), (1, .ref q)] → W p l e rm_E s m ([.ref (ad 0), .ref q, .int y, .int od] : List Value).toArray below meth c H locs (0 + 1 + 1) (0 + 6 + 6) (MQ below (fk_QE D (fk_ty cI cT cJ) A (kq_Phi ad cI cT q X (n + 20))) ([.ref (ad 0), .ref q, .int y, .int od] : List Value).toArray s 2 12 A) (F0 m 804 ls []) := by
                                  intro n1
                                  induction n1 with
                                  | zero =>
                                    intro k hk H locs ls hP hD hS hl
                                    refine lv_iload hx hb dL_wakes_804 (lv_at hl 0 rfl) ?_
                                    refine lv_iload hx hb dL_wakes_806 (lv_at hl 4 rfl) ?_
                                    refine lv_icmp_ge (tgt := 901) hx hb dL_wakes_808 (by decide) (fun c_140 => ?_) (fun c_140 => absurd (nI_le (a := MV.length) (b := k) (by omega) (by omega)) c_140)
                                    refine lv_iload hx hb dL_wakes_901 (lv_at hl 1 rfl) ?_
                                    refine lv_if_eq (tgt := 921) hx hb dL_wakes_903 (by decide) (fun c => absurd c (by decide)) (fun _ => ?_)
                                    refine lv_aload_n hx hb dL_wakes_906 rfl (lv_at hl 7 rfl) ?_
                                    refine lv_iload hx hb dL_wakes_907 (lv_at hl 6 rfl) ?_
                                    refine fk_callV (As := [.int (nI a)]) (rest := []) ⟨hx, hb, hml, hown, hts⟩ (kc_word l D ad cI cT cJ _ (kk_requeue S a b (S 0 a) w9 v9) a ha) (cwV 1 hts gL_wakes_X2_word rfl rfl rfl (by decide +kernel) ⟨Nat.le_of_ble_eq_true rfl, Nat.le_of_ble_eq_true rfl⟩) (fk_rvK hK hP) hK hP hD hS hA rfl hl.1 rfl (Nat.le_of_ble_eq_true rfl) dL_wakes_909 ⟨Nat.le_of_ble_eq_true rfl, Nat.le_of_ble_eq_true rfl⟩ (fun H locs hP hD hS => ?_)
                                    refine W.eq (g2 := F0 m 912 ls [.int ((kk_requeue S a b (S 0 a) w9 v9) 0 a)]) rfl ?_
                                    refine W.eq (g2 := F0 m 912 ls [.int (S 0 a)]) (by rw [show ((kk_requeue S a b (S 0 a) w9 v9) 0 a) = (S 0 a) from hword]) ?_
                                    refine lv_iload hx hb dL_wakes_912 (lv_at hl 2 rfl) ?_
                                    refine lv_icmp_ne (tgt := 921) hx hb dL_wakes_914 (by decide) (fun c => absurd rfl c) (fun _ => ?_)
                                    refine lv_iconst (v := 1) hx hb dL_wakes_917 (by decide) ?_
                                    refine lv_goto (tgt := 922) hx hb dL_wakes_918 (by decide) ?_
                                    exact fk_zretE (Nat.le_of_ble_eq_true rfl) (Nat.le_of_ble_eq_true rfl) hx hb hr hlocks hP hK hD hS rfl ⟨rfl, _, _, rfl, (hG1).wk (by omega)⟩ dL_wakes_922
                                  | succ n1 ih4 =>
                                    intro k hk H locs ls hP hD hS hl
                                    obtain ⟨u, hgu, -⟩ := kq_step hk
                                    have hu9 := hMV8 u (List.mem_of_getElem? hgu)
                                    obtain ⟨hk1, hk2, hk3⟩ := hmv k u hgu
                                    refine lv_iload hx hb dL_wakes_804 (lv_at hl 0 rfl) ?_
                                    refine lv_iload hx hb dL_wakes_806 (lv_at hl 4 rfl) ?_
                                    refine lv_icmp_ge (tgt := 901) hx hb dL_wakes_808 (by decide) (fun c_142 => absurd c_142 (nI_ge (a := k) (b := MV.length) (by omega) (by omega))) (fun c_142 => ?_)
                                    refine lv_iload hx hb dL_wakes_811 (lv_at hl 1 rfl) ?_
                                    refine lv_if_eq (tgt := 901) hx hb dL_wakes_813 (by decide) (fun c => absurd c (by decide)) (fun _ => ?_)
                                    refine lv_aload_n hx hb dL_wakes_816 rfl (lv_at hl 7 rfl) ?_
                                    refine lv_lload hx hb dL_wakes_817 (lv_at hl 3 rfl) ?_
                                    refine lv_iconst (v := 4) hx hb dL_wakes_819 (by decide) ?_
                                    refine lv_iload hx hb dL_wakes_820 (lv_at hl 0 rfl) ?_
                                    refine lv_imul hx hb dL_wakes_822 ?_
                                    refine W.eq (g2 := F0 m 823 ls [.int (nI (4 * k)), .long (lN (pl_pk MV)), .ref (ad 0)]) (by rw [show (4 : Int32) = nI 4 from rfl, pk_mul]) ?_
                                    refine lv_lshr hx hb dL_wakes_823 rfl ?_
                                    refine lv_ldc2 (own := RL) (v := 15) hx hb hown (hts (.constantLong RL 154 (15)) (List.mem_of_getElem? (i := 4) rfl)) dL_wakes_824 ?_
                                    refine lv_land hx hb dL_wakes_827 ?_
                                    refine lv_l2i hx hb dL_wakes_828 rfl ?_
                                    refine W.eq (g2 := F0 m 829 ls [.int (nI u), .ref (ad 0)]) (by rw [pl_get hMV8 hMVl hgu]) ?_
                                    refine fk_callV (As := [.int (nI u)]) (rest := []) ⟨hx, hb, hml, hown, hts⟩ (kc_stateOf l D ad cI cT cJ _ (kk_requeue S a b (S 0 a) w9 v9) u hu9) (cwV 1 hts gL_wakes_X2_stateOf rfl rfl rfl (by decide +kernel) ⟨Nat.le_of_ble_eq_true rfl, Nat.le_of_ble_eq_true rfl⟩) (fk_rvK hK hP) hK hP hD hS hA rfl hl.1 rfl (Nat.le_of_ble_eq_true rfl) dL_wakes_829 ⟨Nat.le_of_ble_eq_true rfl, Nat.le_of_ble_eq_true rfl⟩ (fun H locs hP hD hS => ?_)
                                    refine W.eq (g2 := F0 m 832 ls [.int ((kk_requeue S a b (S 0 a) w9 v9) 1 u)]) rfl ?_
                                    refine W.eq (g2 := F0 m 832 ls [.int 1]) (by rw [show ((kk_requeue S a b (S 0 a) w9 v9) 1 u) = (1 : Int32) from hk1]) ?_
                                    refine lv_iconst (v := 1) hx hb dL_wakes_832 (by decide) ?_
                                    refine lv_icmp_ne (tgt := 892) hx hb dL_wakes_833 (by decide) (fun c => absurd c (by decide)) (fun _ => ?_)
                                    refine lv_aload_n hx hb dL_wakes_836 rfl (lv_at hl 7 rfl) ?_
                                    refine lv_lload hx hb dL_wakes_837 (lv_at hl 3 rfl) ?_
                                    refine lv_iconst (v := 4) hx hb dL_wakes_839 (by decide) ?_
                                    refine lv_iload hx hb dL_wakes_840 (lv_at hl 0 rfl) ?_
                                    refine lv_imul hx hb dL_wakes_842 ?_
                                    refine W.eq (g2 := F0 m 843 ls [.int (nI (4 * k)), .long (lN (pl_pk MV)), .ref (ad 0)]) (by rw [show (4 : Int32) = nI 4 from rfl, pk_mul]) ?_
                                    refine lv_lshr hx hb dL_wakes_843 rfl ?_
                                    refine lv_ldc2 (own := RL) (v := 15) hx hb hown (hts (.constantLong RL 154 (15)) (List.mem_of_getElem? (i := 4) rfl)) dL_wakes_844 ?_
                                    refine lv_land hx hb dL_wakes_847 ?_
                                    refine lv_l2i hx hb dL_wakes_848 rfl ?_
                                    refine W.eq (g2 := F0 m 849 ls [.int (nI u), .ref (ad 0)]) (by rw [pl_get hMV8 hMVl hgu]) ?_
                                    refine fk_callV (As := [.int (nI u)]) (rest := []) ⟨hx, hb, hml, hown, hts⟩ (kc_addressOf l D ad cI cT cJ _ (kk_requeue S a b (S 0 a) w9 v9) u hu9) (cwV 1 hts gL_wakes_X2_addressOf rfl rfl rfl (by decide +kernel) ⟨Nat.le_of_ble_eq_true rfl, Nat.le_of_ble_eq_true rfl⟩) (fk_rvK hK hP) hK hP hD hS hA rfl hl.1 rfl (Nat.le_of_ble_eq_true rfl) dL_wakes_849 ⟨Nat.le_of_ble_eq_true rfl, Nat.le_of_ble_eq_true rfl⟩ (fun H locs hP hD hS => ?_)
                                    refine W.eq (g2 := F0 m 852 ls [.int ((kk_requeue S a b (S 0 a) w9 v9) 3 u)]) rfl ?_
                                    refine W.eq (g2 := F0 m 852 ls [.int (nI b)]) (by rw [show ((kk_requeue S a b (S 0 a) w9 v9) 3 u) = (nI b) from hk2]) ?_
                                    refine lv_iload hx hb dL_wakes_852 (lv_at hl 5 rfl) ?_
                                    refine lv_icmp_ne (tgt := 892) hx hb dL_wakes_854 (by decide) (fun c => absurd rfl c) (fun _ => ?_)
                                    refine lv_iload hx hb dL_wakes_857 (lv_at hl 0 rfl) ?_
                                    refine lv_iload hx hb dL_wakes_859 (lv_at hl 4 rfl) ?_
                                    refine lv_iconst (v := 1) hx hb dL_wakes_861 (by decide) ?_
                                    refine lv_isub hx hb dL_wakes_862 ?_
                                    refine lv_icmp_lt (tgt := 888) hx hb dL_wakes_863 (by decide) (fun c_145 => ?_) (fun c_145 => ?_)
                                    · refine lv_iconst (v := 1) hx hb dL_wakes_888 (by decide) ?_
                                      refine lv_goto (tgt := 893) hx hb dL_wakes_889 (by decide) ?_
                                      refine lv_istore (lv' := [(26, .int 1), (27, .int (nI k)), (22, .int (S 0 a)), (18, .long (lN (pl_pk MV))), (15, .int (nI MV.length)), (7, .int (nI b)), (6, .int (nI a)), (0, .ref (ad 0)), (1, .ref q)]) hx hb dL_wakes_893 hl (by decide) rfl (fun ls hl => ?_)
                                      refine lv_iinc (v := (nI (k + 1))) (lv' := [(27, .int (nI (k + 1))), (26, .int 1), (22, .int (S 0 a)), (18, .long (lN (pl_pk MV))), (15, .int (nI MV.length)), (7, .int (nI b)), (6, .int (nI a)), (0, .ref (ad 0)), (1, .ref q)]) hx hb dL_wakes_895 hl (k := 1) rfl (nI_1 k) (by decide) rfl (fun ls hl => ?_)
                                      refine lv_goto (tgt := 804) hx hb dL_wakes_898 (by decide) ?_
                                      exact ih4 (k + 1) (by omega) _ _ _ hP hD hS (lv_sub hl [0, 1, 2, 3, 4, 5, 6, 7, 8] rfl)
                                    · have hkl := hk3 (kq_lastk (by omega) hMVl c_145)
                                      refine lv_aload_n hx hb dL_wakes_866 rfl (lv_at hl 7 rfl) ?_
                                      refine lv_aload_n hx hb dL_wakes_867 rfl (lv_at hl 8 rfl) ?_
                                      refine lv_lload hx hb dL_wakes_868 (lv_at hl 3 rfl) ?_
                                      refine lv_iconst (v := 4) hx hb dL_wakes_870 (by decide) ?_
                                      refine lv_iload hx hb dL_wakes_871 (lv_at hl 0 rfl) ?_
                                      refine lv_imul hx hb dL_wakes_873 ?_
                                      refine W.eq (g2 := F0 m 874 ls [.int (nI (4 * k)), .long (lN (pl_pk MV)), .ref q, .ref (ad 0)]) (by rw [show (4 : Int32) = nI 4 from rfl, pk_mul]) ?_
                                      refine lv_lshr hx hb dL_wakes_874 rfl ?_
                                      refine lv_ldc2 (own := RL) (v := 15) hx hb hown (hts (.constantLong RL 154 (15)) (List.mem_of_getElem? (i := 4) rfl)) dL_wakes_875 ?_
                                      refine lv_land hx hb dL_wakes_878 ?_
                                      refine lv_l2i hx hb dL_wakes_879 rfl ?_
                                      refine W.eq (g2 := F0 m 880 ls [.int (nI u), .ref q, .ref (ad 0)]) (by rw [pl_get hMV8 hMVl hgu]) ?_
                                      refine lv_iload hx hb dL_wakes_880 (lv_at hl 5 rfl) ?_
                                      refine fk_callS (As := [.ref (ad 0), .ref q, .int (nI u), .int (nI b)]) (rest := []) ⟨hx, hb, hml, hown, hts⟩ (kl_joined l D ad cI cT cJ _ (kk_requeue S a b (S 0 a) w9 v9) q P u b hG1.1.J hkl hG1.1.pr) (va_cwS 4 hts gL_wakes_L_joined rfl rfl rfl (by decide +kernel) ⟨Nat.le_of_ble_eq_true rfl, Nat.le_of_ble_eq_true rfl⟩) hK hP hD hS hA rfl hl.1 rfl (Nat.le_of_ble_eq_true rfl) dL_wakes_882 ⟨Nat.le_of_ble_eq_true rfl, Nat.le_of_ble_eq_true rfl⟩ (fun H locs hP hD hS => ?_)
                                      refine W.eq (g2 := F0 m 885 ls [.int 1]) rfl ?_
                                      refine lv_if_eq (tgt := 892) hx hb dL_wakes_885 (by decide) (fun c => absurd c (by decide)) (fun _ => ?_)
                                      refine lv_iconst (v := 1) hx hb dL_wakes_888 (by decide) ?_
                                      refine lv_goto (tgt := 893) hx hb dL_wakes_889 (by decide) ?_
                                      refine lv_istore (lv' := [(26, .int 1), (27, .int (nI k)), (22, .int (S 0 a)), (18, .long (lN (pl_pk MV))), (15, .int (nI MV.length)), (7, .int (nI b)), (6, .int (nI a)), (0, .ref (ad 0)), (1, .ref q)]) hx hb dL_wakes_893 hl (by decide) rfl (fun ls hl => ?_)
                                      refine lv_iinc (v := (nI (k + 1))) (lv' := [(27, .int (nI (k + 1))), (26, .int 1), (22, .int (S 0 a)), (18, .long (lN (pl_pk MV))), (15, .int (nI MV.length)), (7, .int (nI b)), (6, .int (nI a)), (0, .ref (ad 0)), (1, .ref q)]) hx hb dL_wakes_895 hl (k := 1) rfl (nI_1 k) (by decide) rfl (fun ls hl => ?_)
                                      refine lv_goto (tgt := 804) hx hb dL_wakes_898 (by decide) ?_
                                      exact ih4 (k + 1) (by omega) _ _ _ hP hD hS (lv_sub hl [0, 1, 2, 3, 4, 5, 6, 7, 8] rfl)
                                exact loop4 MV.length 0 (by omega) _ _ _ hP hD hS (lv_sub hl [0, 1, 2, 9, 10, 11, 6, 7, 8] rfl)
                              | succ n1 ih3 =>
                                intro k hk H locs ls hP hD hS hl
                                obtain ⟨u, hgu, -⟩ := kq_step hk
                                have hu9 := hWK8 u (List.mem_of_getElem? hgu)
                                obtain ⟨hk1, hk2, hk3⟩ := hwk k u hgu
                                refine lv_iload hx hb dL_wakes_696 (lv_at hl 0 rfl) ?_
                                refine lv_iload hx hb dL_wakes_698 (lv_at hl 4 rfl) ?_
                                refine lv_icmp_ge (tgt := 801) hx hb dL_wakes_700 (by decide) (fun c_147 => absurd c_147 (nI_ge (a := k) (b := WK.length) (by omega) (by omega))) (fun c_147 => ?_)
                                refine lv_iload hx hb dL_wakes_703 (lv_at hl 1 rfl) ?_
                                refine lv_if_eq (tgt := 801) hx hb dL_wakes_705 (by decide) (fun c => absurd c (by decide)) (fun _ => ?_)
                                refine lv_lload hx hb dL_wakes_708 (lv_at hl 3 rfl) ?_
                                refine lv_iconst (v := 4) hx hb dL_wakes_710 (by decide) ?_
                                refine lv_iload hx hb dL_wakes_711 (lv_at hl 0 rfl) ?_
                                refine lv_imul hx hb dL_wakes_713 ?_
                                refine W.eq (g2 := F0 m 714 ls [.int (nI (4 * k)), .long (lN (pl_pk WK))]) (by rw [show (4 : Int32) = nI 4 from rfl, pk_mul]) ?_
                                refine lv_lshr hx hb dL_wakes_714 rfl ?_
                                refine lv_ldc2 (own := RL) (v := 15) hx hb hown (hts (.constantLong RL 154 (15)) (List.mem_of_getElem? (i := 4) rfl)) dL_wakes_715 ?_
                                refine lv_land hx hb dL_wakes_718 ?_
                                refine lv_l2i hx hb dL_wakes_719 rfl ?_
                                refine W.eq (g2 := F0 m 720 ls [.int (nI u)]) (by rw [pl_get hWK8 hWKl hgu]) ?_
                                refine lv_istore (lv' := [(28, .int (nI u)), (27, .int (nI k)), (26, .int 1), (22, .int (S 0 a)), (16, .long (lN (pl_pk WK))), (14, .int (nI WK.length)), (13, .int (pl_last S)), (6, .int (nI a)), (0, .ref (ad 0)), (1, .ref q), (18, .long (lN (pl_pk MV))), (15, .int (nI MV.length)), (7, .int (nI b))]) hx hb dL_wakes_720 hl (by decide) rfl (fun ls hl => ?_)
                                refine lv_aload_n hx hb dL_wakes_722 rfl (lv_at hl 8 rfl) ?_
                                refine lv_iload hx hb dL_wakes_723 (lv_at hl 0 rfl) ?_
                                refine fk_callV (As := [.int (nI u)]) (rest := []) ⟨hx, hb, hml, hown, hts⟩ (kc_stateOf l D ad cI cT cJ _ (kk_requeue S a b (S 0 a) w9 v9) u hu9) (cwV 1 hts gL_wakes_X2_stateOf rfl rfl rfl (by decide +kernel) ⟨Nat.le_of_ble_eq_true rfl, Nat.le_of_ble_eq_true rfl⟩) (fk_rvK hK hP) hK hP hD hS hA rfl hl.1 rfl (Nat.le_of_ble_eq_true rfl) dL_wakes_725 ⟨Nat.le_of_ble_eq_true rfl, Nat.le_of_ble_eq_true rfl⟩ (fun H locs hP hD hS => ?_)
                                refine W.eq (g2 := F0 m 728 ls [.int ((kk_requeue S a b (S 0 a) w9 v9) 1 u)]) rfl ?_
                                refine W.eq (g2 := F0 m 728 ls [.int 0]) (by rw [show ((kk_requeue S a b (S 0 a) w9 v9) 1 u) = (0 : Int32) from hk1]) ?_
                                refine lv_if_ne (tgt := 792) hx hb dL_wakes_728 (by decide) (fun c => absurd c (by decide)) (fun _ => ?_)
                                refine lv_aload_n hx hb dL_wakes_731 rfl (lv_at hl 8 rfl) ?_
                                refine lv_iload hx hb dL_wakes_732 (lv_at hl 0 rfl) ?_
                                refine fk_callV (As := [.int (nI u)]) (rest := []) ⟨hx, hb, hml, hown, hts⟩ (kc_resultOf l D ad cI cT cJ _ (kk_requeue S a b (S 0 a) w9 v9) u hu9) (cwV 1 hts gL_wakes_X2_resultOf rfl rfl rfl (by decide +kernel) ⟨Nat.le_of_ble_eq_true rfl, Nat.le_of_ble_eq_true rfl⟩) (fk_rvK hK hP) hK hP hD hS hA rfl hl.1 rfl (Nat.le_of_ble_eq_true rfl) dL_wakes_734 ⟨Nat.le_of_ble_eq_true rfl, Nat.le_of_ble_eq_true rfl⟩ (fun H locs hP hD hS => ?_)
                                refine W.eq (g2 := F0 m 737 ls [.int ((kk_requeue S a b (S 0 a) w9 v9) 8 u)]) rfl ?_
                                refine W.eq (g2 := F0 m 737 ls [.int 0]) (by rw [show ((kk_requeue S a b (S 0 a) w9 v9) 8 u) = (0 : Int32) from hk2]) ?_
                                refine lv_if_ne (tgt := 792) hx hb dL_wakes_737 (by decide) (fun c => absurd c (by decide)) (fun _ => ?_)
                                refine lv_iload hx hb dL_wakes_740 (lv_at hl 1 rfl) ?_
                                refine lv_if_ne (tgt := 759) hx hb dL_wakes_742 (by decide) (fun c_151 => ?_) (fun c_151 => ?_)
                                · have hk0 : 1 ≤ k := Nat.pos_of_ne_zero (fun z => c_151 (by rw [z]; rfl))
                                  obtain ⟨u2, hgu2, -⟩ := kq_step (L := WK) (k := k - 1) (n := n1 + 1) (by omega)
                                  have hu29 := hWK8 u2 (List.mem_of_getElem? hgu2)
                                  obtain ⟨-, -, hk4⟩ := hwk (k - 1) u2 hgu2
                                  refine lv_aload_n hx hb dL_wakes_759 rfl (lv_at hl 8 rfl) ?_
                                  refine lv_iload hx hb dL_wakes_760 (lv_at hl 0 rfl) ?_
                                  refine fk_callV (As := [.int (nI u)]) (rest := []) ⟨hx, hb, hml, hown, hts⟩ (kc_serialOf l D ad cI cT cJ _ (kk_requeue S a b (S 0 a) w9 v9) u hu9) (cwV 1 hts gL_wakes_X2_serialOf rfl rfl rfl (by decide +kernel) ⟨Nat.le_of_ble_eq_true rfl, Nat.le_of_ble_eq_true rfl⟩) (fk_rvK hK hP) hK hP hD hS hA rfl hl.1 rfl (Nat.le_of_ble_eq_true rfl) dL_wakes_762 ⟨Nat.le_of_ble_eq_true rfl, Nat.le_of_ble_eq_true rfl⟩ (fun H locs hP hD hS => ?_)
                                  refine W.eq (g2 := F0 m 765 ls [.int ((kk_requeue S a b (S 0 a) w9 v9) 9 u)]) rfl ?_
                                  refine W.eq (g2 := F0 m 765 ls [.int (nI (E + k + 1))]) (by rw [show ((kk_requeue S a b (S 0 a) w9 v9) 9 u) = (nI (E + k + 1)) from hk3]) ?_
                                  refine lv_aload_n hx hb dL_wakes_765 rfl (lv_at hl 8 rfl) ?_
                                  refine lv_lload hx hb dL_wakes_766 (lv_at hl 4 rfl) ?_
                                  refine lv_iconst (v := 4) hx hb dL_wakes_768 (by decide) ?_
                                  refine lv_iload hx hb dL_wakes_769 (lv_at hl 1 rfl) ?_
                                  refine lv_imul hx hb dL_wakes_771 ?_
                                  refine W.eq (g2 := F0 m 772 ls [.int (nI (4 * k)), .long (lN (pl_pk WK)), .ref (ad 0), .int (nI (E + k + 1))]) (by rw [show (4 : Int32) = nI 4 from rfl, pk_mul]) ?_
                                  refine lv_iconst (v := 4) hx hb dL_wakes_772 (by decide) ?_
                                  refine lv_isub hx hb dL_wakes_773 ?_
                                  refine lv_lshr hx hb dL_wakes_774 rfl ?_
                                  refine lv_ldc2 (own := RL) (v := 15) hx hb hown (hts (.constantLong RL 154 (15)) (List.mem_of_getElem? (i := 4) rfl)) dL_wakes_775 ?_
                                  refine lv_land hx hb dL_wakes_778 ?_
                                  refine lv_l2i hx hb dL_wakes_779 rfl ?_
                                  refine W.eq (g2 := F0 m 780 ls [.int (nI u2), .ref (ad 0), .int (nI (E + k + 1))]) (by rw [pl_get4 hWK8 hWKl hk0 hgu2]) ?_
                                  refine fk_callV (As := [.int (nI u2)]) (rest := [.int (nI (E + k + 1))]) ⟨hx, hb, hml, hown, hts⟩ (kc_serialOf l D ad cI cT cJ _ (kk_requeue S a b (S 0 a) w9 v9) u2 hu29) (cwV 1 hts gL_wakes_X2_serialOf rfl rfl rfl (by decide +kernel) ⟨Nat.le_of_ble_eq_true rfl, Nat.le_of_ble_eq_true rfl⟩) (fk_rvK hK hP) hK hP hD hS hA rfl hl.1 rfl (Nat.le_of_ble_eq_true rfl) dL_wakes_780 ⟨Nat.le_of_ble_eq_true rfl, Nat.le_of_ble_eq_true rfl⟩ (fun H locs hP hD hS => ?_)
                                  refine W.eq (g2 := F0 m 783 ls [.int ((kk_requeue S a b (S 0 a) w9 v9) 9 u2), .int (nI (E + k + 1))]) rfl ?_
                                  refine W.eq (g2 := F0 m 783 ls [.int (nI (E + (k - 1) + 1)), .int (nI (E + k + 1))]) (by rw [show ((kk_requeue S a b (S 0 a) w9 v9) 9 u2) = (nI (E + (k - 1) + 1)) from hk4]) ?_
                                  refine lv_iconst (v := 1) hx hb dL_wakes_783 (by decide) ?_
                                  refine lv_iadd hx hb dL_wakes_784 ?_
                                  refine W.eq (g2 := F0 m 785 ls [.int (nI (E + (k - 1) + 1 + 1)), .int (nI (E + k + 1))]) (by rw [nI_1]) ?_
                                  refine lv_icmp_ne (tgt := 792) hx hb dL_wakes_785 (by decide) (fun c_152 => absurd c_152 (fun h9 => h9 (congrArg nI (by omega)))) (fun c_152 => ?_)
                                  refine lv_iconst (v := 1) hx hb dL_wakes_788 (by decide) ?_
                                  refine lv_goto (tgt := 793) hx hb dL_wakes_789 (by decide) ?_
                                  refine lv_istore (lv' := [(26, .int 1), (28, .int (nI u)), (27, .int (nI k)), (22, .int (S 0 a)), (16, .long (lN (pl_pk WK))), (14, .int (nI WK.length)), (13, .int (pl_last S)), (6, .int (nI a)), (0, .ref (ad 0)), (1, .ref q), (18, .long (lN (pl_pk MV))), (15, .int (nI MV.length)), (7, .int (nI b))]) hx hb dL_wakes_793 hl (by decide) rfl (fun ls hl => ?_)
                                  refine lv_iinc (v := (nI (k + 1))) (lv' := [(27, .int (nI (k + 1))), (26, .int 1), (28, .int (nI u)), (22, .int (S 0 a)), (16, .long (lN (pl_pk WK))), (14, .int (nI WK.length)), (13, .int (pl_last S)), (6, .int (nI a)), (0, .ref (ad 0)), (1, .ref q), (18, .long (lN (pl_pk MV))), (15, .int (nI MV.length)), (7, .int (nI b))]) hx hb dL_wakes_795 hl (k := 2) rfl (nI_1 k) (by decide) rfl (fun ls hl => ?_)
                                  refine lv_goto (tgt := 696) hx hb dL_wakes_798 (by decide) ?_
                                  exact ih3 (k + 1) (by omega) _ _ _ hP hD hS (lv_sub hl [0, 1, 3, 4, 5, 6, 7, 8, 9, 10, 11, 12] rfl)
                                · refine lv_aload_n hx hb dL_wakes_745 rfl (lv_at hl 8 rfl) ?_
                                  refine lv_iload hx hb dL_wakes_746 (lv_at hl 0 rfl) ?_
                                  refine fk_callV (As := [.int (nI u)]) (rest := []) ⟨hx, hb, hml, hown, hts⟩ (kc_serialOf l D ad cI cT cJ _ (kk_requeue S a b (S 0 a) w9 v9) u hu9) (cwV 1 hts gL_wakes_X2_serialOf rfl rfl rfl (by decide +kernel) ⟨Nat.le_of_ble_eq_true rfl, Nat.le_of_ble_eq_true rfl⟩) (fk_rvK hK hP) hK hP hD hS hA rfl hl.1 rfl (Nat.le_of_ble_eq_true rfl) dL_wakes_748 ⟨Nat.le_of_ble_eq_true rfl, Nat.le_of_ble_eq_true rfl⟩ (fun H locs hP hD hS => ?_)
                                  refine W.eq (g2 := F0 m 751 ls [.int ((kk_requeue S a b (S 0 a) w9 v9) 9 u)]) rfl ?_
                                  refine W.eq (g2 := F0 m 751 ls [.int (nI (E + k + 1))]) (by rw [show ((kk_requeue S a b (S 0 a) w9 v9) 9 u) = (nI (E + k + 1)) from hk3]) ?_
                                  refine lv_iload hx hb dL_wakes_751 (lv_at hl 6 rfl) ?_
                                  refine lv_icmp_le (tgt := 792) hx hb dL_wakes_753 (by decide) (fun c_153 => absurd c_153 (Int32.not_le.mpr (hser k (by omega)))) (fun c_153 => ?_)
                                  refine lv_goto (tgt := 788) hx hb dL_wakes_756 (by decide) ?_
                                  refine lv_iconst (v := 1) hx hb dL_wakes_788 (by decide) ?_
                                  refine lv_goto (tgt := 793) hx hb dL_wakes_789 (by decide) ?_
                                  refine lv_istore (lv' := [(26, .int 1), (28, .int (nI u)), (27, .int (nI k)), (22, .int (S 0 a)), (16, .long (lN (pl_pk WK))), (14, .int (nI WK.length)), (13, .int (pl_last S)), (6, .int (nI a)), (0, .ref (ad 0)), (1, .ref q), (18, .long (lN (pl_pk MV))), (15, .int (nI MV.length)), (7, .int (nI b))]) hx hb dL_wakes_793 hl (by decide) rfl (fun ls hl => ?_)
                                  refine lv_iinc (v := (nI (k + 1))) (lv' := [(27, .int (nI (k + 1))), (26, .int 1), (28, .int (nI u)), (22, .int (S 0 a)), (16, .long (lN (pl_pk WK))), (14, .int (nI WK.length)), (13, .int (pl_last S)), (6, .int (nI a)), (0, .ref (ad 0)), (1, .ref q), (18, .long (lN (pl_pk MV))), (15, .int (nI MV.length)), (7, .int (nI b))]) hx hb dL_wakes_795 hl (k := 2) rfl (nI_1 k) (by decide) rfl (fun ls hl => ?_)
                                  refine lv_goto (tgt := 696) hx hb dL_wakes_798 (by decide) ?_
                                  exact ih3 (k + 1) (by omega) _ _ _ hP hD hS (lv_sub hl [0, 1, 3, 4, 5, 6, 7, 8, 9, 10, 11, 12] rfl)
                            exact loop3 WK.length 0 (by omega) _ _ _ hP hD hS (lv_sub hl [0, 1, 5, 8, 7, 11, 18, 21, 24, 10, 9, 17] rfl)
                          | succ n1 ih1 =>
                            intro k F c1 f1 c2 f2 hk hF hc1 hf1 hc2 hf2 H locs ls hP hD hS hl
                            have h8 := kq_A8 S a
                            obtain ⟨u, hgu, hdu⟩ := kq_step hk
                            have hu9 := kq_A_lt hgu
                            rw [hdu] at hF
                            obtain ⟨hF1, hF0⟩ := kq_put hF
                            have hF8 : ∀ u ∈ F, u < 8 := fun z hz => (kq_wt_mem (show z ∈ (kq_wt S a 255) by rw [← hF]; exact List.mem_append_left _ hz)).1
                            have hFl : F.length ≤ 8 := by have h1 := congrArg List.length hF; rw [List.length_append] at h1; have := kq_wt8 S a 255; omega
                            refine lv_iload hx hb dL_wakes_354 (lv_at hl 7 rfl) ?_
                            refine lv_if_ne (tgt := 485) hx hb dL_wakes_356 (by decide) (fun c => absurd c (by decide)) (fun _ => ?_)
                            refine lv_iload hx hb dL_wakes_359 (lv_at hl 6 rfl) ?_
                            refine lv_if_ne (tgt := 485) hx hb dL_wakes_361 (by decide) (fun c => absurd c (by decide)) (fun _ => ?_)
                            refine lv_iload hx hb dL_wakes_364 (lv_at hl 0 rfl) ?_
                            refine lv_aload_n hx hb dL_wakes_366 rfl (lv_at hl 15 rfl) ?_
                            refine lv_iload hx hb dL_wakes_367 (lv_at hl 12 rfl) ?_
                            refine fk_callV (As := [.int (nI a)]) (rest := [.int (nI k)]) ⟨hx, hb, hml, hown, hts⟩ (kc_waiters l D ad cI cT cJ _ S a ha) (cwV 1 hts gL_wakes_X2_waiters rfl rfl rfl (by decide +kernel) ⟨Nat.le_of_ble_eq_true rfl, Nat.le_of_ble_eq_true rfl⟩) (fk_rvK hK hP) hK hP hD hS hA rfl hl.1 rfl (Nat.le_of_ble_eq_true rfl) dL_wakes_369 ⟨Nat.le_of_ble_eq_true rfl, Nat.le_of_ble_eq_true rfl⟩ (fun H locs hP hD hS => ?_)
                            refine W.eq (g2 := F0 m 372 ls [.int (kk_waiters S (nI a)), .int (nI k)]) rfl ?_
                            refine W.eq (g2 := F0 m 372 ls [.int (nI ((kq_A S a).length)), .int (nI k)]) (by rw [show (kk_waiters S (nI a)) = (nI ((kq_A S a).length)) from (kq_waiters _ _)]) ?_
                            refine lv_icmp_ge (tgt := 485) hx hb dL_wakes_372 (by decide) (fun c_156 => absurd c_156 (nI_ge (a := k) (b := (kq_A S a).length) (by omega) (by omega))) (fun c_156 => ?_)
                            refine lv_aload_n hx hb dL_wakes_375 rfl (lv_at hl 15 rfl) ?_
                            refine lv_iload hx hb dL_wakes_376 (lv_at hl 12 rfl) ?_
                            refine lv_iload hx hb dL_wakes_378 (lv_at hl 0 rfl) ?_
                            refine fk_callV (As := [.int (nI a), .int (nI k)]) (rest := []) ⟨hx, hb, hml, hown, hts⟩ (kc_waiterAt l D ad cI cT cJ _ S a ha (nI k) u (by rw [kq_wAt hG.1.J (by omega) (by omega)]; exact hgu)) (cwV 2 hts gL_wakes_X2_waiterAt rfl rfl rfl (by decide +kernel) ⟨Nat.le_of_ble_eq_true rfl, Nat.le_of_ble_eq_true rfl⟩) (fk_rvK hK hP) hK hP hD hS hA rfl hl.1 rfl (Nat.le_of_ble_eq_true rfl) dL_wakes_380 ⟨Nat.le_of_ble_eq_true rfl, Nat.le_of_ble_eq_true rfl⟩ (fun H locs hP hD hS => ?_)
                            refine W.eq (g2 := F0 m 383 ls [.int (nI u)]) rfl ?_
                            refine lv_istore (lv' := [(21, .int (nI u)), (20, .int (nI k)), (14, .int (nI c1)), (16, .long f1), (15, .int (nI c2)), (18, .long f2), (13, .int (pl_last S)), (12, .int 0), (11, .int 0), (10, .int 255), (9, .int (nI v9)), (8, .int (nI w9)), (7, .int (nI b)), (6, .int (nI a)), (5, .int (nI t)), (4, .int 1), (0, .ref (ad 0)), (2, .int y), (3, .int od), (1, .ref q)]) hx hb dL_wakes_383 hl (by decide) rfl (fun ls hl => ?_)
                            by_cases hs1 : S 1 u = 1
                            · have hft : ¬ S 4 u &&& 255 = 0 := fk_mask255 (kq_mask hG.1 hu9 hs1).2
                              have hF9 := hF1 (by rw [decide_eq_true hs1, decide_eq_true (show S 4 u &&& 255 ≠ 0 from hft)]; rfl)
                              by_cases hlt : F.length < w9
                              · have hTF : F.take w9 = F := List.take_of_length_le (by omega)
                                have hTu : (F ++ [u]).take w9 = F ++ [u] := List.take_of_length_le (by rw [List.length_append]; simp; omega)
                                rw [hTF] at hc1 hf1
                                have hD0 : F.drop w9 = [] := List.drop_eq_nil_of_le (by omega)
                                have hD1 : (F ++ [u]).drop w9 = [] := List.drop_eq_nil_of_le (by rw [List.length_append]; simp; omega)
                                have hl : lv_has ls 29 [(21, .int (nI u)), (20, .int (nI k)), (14, .int (nI F.length)), (16, .long (lN (pl_pk F))), (15, .int (nI c2)), (18, .long f2), (13, .int (pl_last S)), (12, .int 0), (11, .int 0), (10, .int 255), (9, .int (nI v9)), (8, .int (nI w9)), (7, .int (nI b)), (6, .int (nI a)), (5, .int (nI t)), (4, .int 1), (0, .ref (ad 0)), (2, .int y), (3, .int od), (1, .ref q)] := by rw [hc1, hf1] at hl; exact hl
                                refine lv_aload_n hx hb dL_wakes_385 rfl (lv_at hl 16 rfl) ?_
                                refine lv_iload hx hb dL_wakes_386 (lv_at hl 0 rfl) ?_
                                refine fk_callV (As := [.int (nI u)]) (rest := []) ⟨hx, hb, hml, hown, hts⟩ (kc_stateOf l D ad cI cT cJ _ S u hu9) (cwV 1 hts gL_wakes_X2_stateOf rfl rfl rfl (by decide +kernel) ⟨Nat.le_of_ble_eq_true rfl, Nat.le_of_ble_eq_true rfl⟩) (fk_rvK hK hP) hK hP hD hS hA rfl hl.1 rfl (Nat.le_of_ble_eq_true rfl) dL_wakes_388 ⟨Nat.le_of_ble_eq_true rfl, Nat.le_of_ble_eq_true rfl⟩ (fun H locs hP hD hS => ?_)
                                refine W.eq (g2 := F0 m 391 ls [.int (S 1 u)]) rfl ?_
                                refine W.eq (g2 := F0 m 391 ls [.int 1]) (by rw [show (S 1 u) = (1 : Int32) from hs1]) ?_
                                refine lv_iconst (v := 1) hx hb dL_wakes_391 (by decide) ?_
                                refine lv_icmp_ne (tgt := 434) hx hb dL_wakes_392 (by decide) (fun c => absurd c (by decide)) (fun _ => ?_)
                                refine lv_iload hx hb dL_wakes_395 (lv_at hl 2 rfl) ?_
                                refine lv_iload hx hb dL_wakes_397 (lv_at hl 11 rfl) ?_
                                refine lv_icmp_ge (tgt := 434) hx hb dL_wakes_399 (by decide) (fun c_158 => absurd c_158 (nI_ge (a := F.length) (b := w9) hlt (by omega))) (fun c_158 => ?_)
                                refine lv_aload_n hx hb dL_wakes_402 rfl (lv_at hl 19 rfl) ?_
                                refine lv_bipush (v := 8) hx hb dL_wakes_403 (by decide) ?_
                                refine lv_iload hx hb dL_wakes_405 (lv_at hl 0 rfl) ?_
                                refine lv_iadd hx hb dL_wakes_407 ?_
                                refine W.eq (g2 := F0 m 408 ls [.int (nI (8 + u)), .ref q]) (by rw [show (8 : Int32) = nI 8 from rfl, nI_add]) ?_
                                refine va_iald hx hb hK hP 27 0 fk_at27 rfl (vp_in_nI (show 8 + u < 16 from (by omega)) (by decide)) dL_wakes_408 ?_
                                refine W.eq (g2 := F0 m 409 ls [.int (P (8 + u))]) (by rw [nI_clamp (by omega)]) ?_
                                refine W.eq (g2 := F0 m 409 ls [.int (S 4 u)]) (by rw [show (P (8 + u)) = (S 4 u) from (kq_mask hG.1 hu9 hs1).1]) ?_
                                refine lv_iload hx hb dL_wakes_409 (lv_at hl 9 rfl) ?_
                                refine lv_iand hx hb dL_wakes_411 ?_
                                refine lv_if_eq (tgt := 434) hx hb dL_wakes_412 (by decide) (fun c_159 => absurd c_159 hft) (fun c_159 => ?_)
                                refine lv_lload hx hb dL_wakes_415 (lv_at hl 3 rfl) ?_
                                refine lv_iload hx hb dL_wakes_417 (lv_at hl 0 rfl) ?_
                                refine lv_i2l hx hb dL_wakes_419 rfl ?_
                                refine lv_iconst (v := 4) hx hb dL_wakes_420 (by decide) ?_
                                refine lv_iload hx hb dL_wakes_421 (lv_at hl 2 rfl) ?_
                                refine lv_imul hx hb dL_wakes_423 ?_
                                refine W.eq (g2 := F0 m 424 ls [.int (nI (4 * F.length)), .long ((nI u).toInt64), .long (lN (pl_pk F))]) (by rw [show (4 : Int32) = nI 4 from rfl, pk_mul]) ?_
                                refine lv_lshl hx hb dL_wakes_424 rfl ?_
                                refine lv_lor hx hb dL_wakes_425 ?_
                                refine W.eq (g2 := F0 m 426 ls [.long (lN (pl_pk (F ++ [u])))]) (by rw [pl_put hF8 (by omega) hu9]) ?_
                                refine lv_lstore (lv' := [(16, .long (lN (pl_pk (F ++ [u])))), (21, .int (nI u)), (20, .int (nI k)), (14, .int (nI F.length)), (15, .int (nI c2)), (18, .long f2), (13, .int (pl_last S)), (12, .int 0), (11, .int 0), (10, .int 255), (9, .int (nI v9)), (8, .int (nI w9)), (7, .int (nI b)), (6, .int (nI a)), (5, .int (nI t)), (4, .int 1), (0, .ref (ad 0)), (2, .int y), (3, .int od), (1, .ref q)]) hx hb dL_wakes_426 hl (by decide) rfl (fun ls hl => ?_)
                                refine lv_iinc (v := (nI (F.length + 1))) (lv' := [(14, .int (nI (F.length + 1))), (16, .long (lN (pl_pk (F ++ [u])))), (21, .int (nI u)), (20, .int (nI k)), (15, .int (nI c2)), (18, .long f2), (13, .int (pl_last S)), (12, .int 0), (11, .int 0), (10, .int 255), (9, .int (nI v9)), (8, .int (nI w9)), (7, .int (nI b)), (6, .int (nI a)), (5, .int (nI t)), (4, .int 1), (0, .ref (ad 0)), (2, .int y), (3, .int od), (1, .ref q)]) hx hb dL_wakes_428 hl (k := 3) rfl (nI_1 F.length) (by decide) rfl (fun ls hl => ?_)
                                refine lv_goto (tgt := 479) hx hb dL_wakes_431 (by decide) ?_
                                refine lv_iinc (v := (nI (k + 1))) (lv' := [(20, .int (nI (k + 1))), (14, .int (nI (F.length + 1))), (16, .long (lN (pl_pk (F ++ [u])))), (21, .int (nI u)), (15, .int (nI c2)), (18, .long f2), (13, .int (pl_last S)), (12, .int 0), (11, .int 0), (10, .int 255), (9, .int (nI v9)), (8, .int (nI w9)), (7, .int (nI b)), (6, .int (nI a)), (5, .int (nI t)), (4, .int 1), (0, .ref (ad 0)), (2, .int y), (3, .int od), (1, .ref q)]) hx hb dL_wakes_479 hl (k := 3) rfl (nI_1 k) (by decide) rfl (fun ls hl => ?_)
                                refine lv_goto (tgt := 354) hx hb dL_wakes_482 (by decide) ?_
                                exact ih1 (k + 1) (F ++ [u]) (F.length + 1) (lN (pl_pk (F ++ [u]))) c2 f2 (by omega) hF9 (by rw [hTu, List.length_append]; rfl) (by rw [hTu]) (by rw [hc2, hD0, hD1]) (by rw [hf2, hD0, hD1]) _ _ _ hP hD hS (lv_sub hl [0, 1, 2, 4, 5, 6, 7, 8, 9, 10, 11, 12, 13, 14, 15, 16, 17, 18, 19] rfl)
                              · have hcw : c1 = w9 := by rw [hc1, List.length_take]; omega
                                have hTb : (F ++ [u]).take w9 = F.take w9 := List.take_append_of_le_length (by omega)
                                have hl : lv_has ls 29 [(21, .int (nI u)), (20, .int (nI k)), (14, .int (nI w9)), (16, .long f1), (15, .int (nI c2)), (18, .long f2), (13, .int (pl_last S)), (12, .int 0), (11, .int 0), (10, .int 255), (9, .int (nI v9)), (8, .int (nI w9)), (7, .int (nI b)), (6, .int (nI a)), (5, .int (nI t)), (4, .int 1), (0, .ref (ad 0)), (2, .int y), (3, .int od), (1, .ref q)] := by rw [hcw] at hl; exact hl
                                have hDb : (F ++ [u]).drop w9 = F.drop w9 ++ [u] := List.drop_append_of_le_length (by omega)
                                have hDl : (F.drop w9).length ≤ 8 := by rw [List.length_drop]; omega
                                by_cases hl2 : (F.drop w9).length < v9
                                · have hTd : (F.drop w9).take v9 = F.drop w9 := List.take_of_length_le (by omega)
                                  have hTv : (F.drop w9 ++ [u]).take v9 = F.drop w9 ++ [u] := List.take_of_length_le (by rw [List.length_append]; simp only [List.length_cons, List.length_nil]; omega)
                                  rw [hTd] at hc2 hf2
                                  have hl : lv_has ls 29 [(21, .int (nI u)), (20, .int (nI k)), (14, .int (nI w9)), (16, .long f1), (15, .int (nI ((F.drop w9).length))), (18, .long (lN (pl_pk (F.drop w9)))), (13, .int (pl_last S)), (12, .int 0), (11, .int 0), (10, .int 255), (9, .int (nI v9)), (8, .int (nI w9)), (7, .int (nI b)), (6, .int (nI a)), (5, .int (nI t)), (4, .int 1), (0, .ref (ad 0)), (2, .int y), (3, .int od), (1, .ref q)] := by rw [hc2, hf2] at hl; exact hl
                                  refine lv_aload_n hx hb dL_wakes_385 rfl (lv_at hl 16 rfl) ?_
                                  refine lv_iload hx hb dL_wakes_386 (lv_at hl 0 rfl) ?_
                                  refine fk_callV (As := [.int (nI u)]) (rest := []) ⟨hx, hb, hml, hown, hts⟩ (kc_stateOf l D ad cI cT cJ _ S u hu9) (cwV 1 hts gL_wakes_X2_stateOf rfl rfl rfl (by decide +kernel) ⟨Nat.le_of_ble_eq_true rfl, Nat.le_of_ble_eq_true rfl⟩) (fk_rvK hK hP) hK hP hD hS hA rfl hl.1 rfl (Nat.le_of_ble_eq_true rfl) dL_wakes_388 ⟨Nat.le_of_ble_eq_true rfl, Nat.le_of_ble_eq_true rfl⟩ (fun H locs hP hD hS => ?_)
                                  refine W.eq (g2 := F0 m 391 ls [.int (S 1 u)]) rfl ?_
                                  refine W.eq (g2 := F0 m 391 ls [.int 1]) (by rw [show (S 1 u) = (1 : Int32) from hs1]) ?_
                                  refine lv_iconst (v := 1) hx hb dL_wakes_391 (by decide) ?_
                                  refine lv_icmp_ne (tgt := 434) hx hb dL_wakes_392 (by decide) (fun c => absurd c (by decide)) (fun _ => ?_)
                                  refine lv_iload hx hb dL_wakes_395 (lv_at hl 2 rfl) ?_
                                  refine lv_iload hx hb dL_wakes_397 (lv_at hl 11 rfl) ?_
                                  refine lv_icmp_ge (tgt := 434) hx hb dL_wakes_399 (by decide) (fun c_161 => ?_) (fun c9 => absurd (nI_le (Nat.le_refl w9) (by omega)) c9)
                                  refine lv_aload_n hx hb dL_wakes_434 rfl (lv_at hl 16 rfl) ?_
                                  refine lv_iload hx hb dL_wakes_435 (lv_at hl 0 rfl) ?_
                                  refine fk_callV (As := [.int (nI u)]) (rest := []) ⟨hx, hb, hml, hown, hts⟩ (kc_stateOf l D ad cI cT cJ _ S u hu9) (cwV 1 hts gL_wakes_X2_stateOf rfl rfl rfl (by decide +kernel) ⟨Nat.le_of_ble_eq_true rfl, Nat.le_of_ble_eq_true rfl⟩) (fk_rvK hK hP) hK hP hD hS hA rfl hl.1 rfl (Nat.le_of_ble_eq_true rfl) dL_wakes_437 ⟨Nat.le_of_ble_eq_true rfl, Nat.le_of_ble_eq_true rfl⟩ (fun H locs hP hD hS => ?_)
                                  refine W.eq (g2 := F0 m 440 ls [.int (S 1 u)]) rfl ?_
                                  refine W.eq (g2 := F0 m 440 ls [.int 1]) (by rw [show (S 1 u) = (1 : Int32) from hs1]) ?_
                                  refine lv_iconst (v := 1) hx hb dL_wakes_440 (by decide) ?_
                                  refine lv_icmp_ne (tgt := 479) hx hb dL_wakes_441 (by decide) (fun c => absurd c (by decide)) (fun _ => ?_)
                                  refine lv_iload hx hb dL_wakes_444 (lv_at hl 15 rfl) ?_
                                  refine lv_if_eq (tgt := 479) hx hb dL_wakes_446 (by decide) (fun c => absurd c (by decide)) (fun _ => ?_)
                                  refine lv_iload hx hb dL_wakes_449 (lv_at hl 2 rfl) ?_
                                  refine lv_iload hx hb dL_wakes_451 (lv_at hl 11 rfl) ?_
                                  refine lv_icmp_ne (tgt := 479) hx hb dL_wakes_453 (by decide) (fun c => absurd rfl c) (fun _ => ?_)
                                  refine lv_iload hx hb dL_wakes_456 (lv_at hl 4 rfl) ?_
                                  refine lv_iload hx hb dL_wakes_458 (lv_at hl 10 rfl) ?_
                                  refine lv_icmp_ge (tgt := 479) hx hb dL_wakes_460 (by decide) (fun c_164 => absurd c_164 (nI_ge (a := (F.drop w9).length) (b := v9) hl2 (by omega))) (fun c_164 => ?_)
                                  refine lv_lload hx hb dL_wakes_463 (lv_at hl 5 rfl) ?_
                                  refine lv_iload hx hb dL_wakes_465 (lv_at hl 0 rfl) ?_
                                  refine lv_i2l hx hb dL_wakes_467 rfl ?_
                                  refine lv_iconst (v := 4) hx hb dL_wakes_468 (by decide) ?_
                                  refine lv_iload hx hb dL_wakes_469 (lv_at hl 4 rfl) ?_
                                  refine lv_imul hx hb dL_wakes_471 ?_
                                  refine W.eq (g2 := F0 m 472 ls [.int (nI (4 * ((F.drop w9).length))), .long ((nI u).toInt64), .long (lN (pl_pk (F.drop w9)))]) (by rw [show (4 : Int32) = nI 4 from rfl, pk_mul]) ?_
                                  refine lv_lshl hx hb dL_wakes_472 rfl ?_
                                  refine lv_lor hx hb dL_wakes_473 ?_
                                  refine W.eq (g2 := F0 m 474 ls [.long (lN (pl_pk (F.drop w9 ++ [u])))]) (by rw [pl_put (fun z hz => hF8 z (List.mem_of_mem_drop hz)) (by omega) hu9]) ?_
                                  refine lv_lstore (lv' := [(18, .long (lN (pl_pk (F.drop w9 ++ [u])))), (21, .int (nI u)), (20, .int (nI k)), (14, .int (nI w9)), (16, .long f1), (15, .int (nI ((F.drop w9).length))), (13, .int (pl_last S)), (12, .int 0), (11, .int 0), (10, .int 255), (9, .int (nI v9)), (8, .int (nI w9)), (7, .int (nI b)), (6, .int (nI a)), (5, .int (nI t)), (4, .int 1), (0, .ref (ad 0)), (2, .int y), (3, .int od), (1, .ref q)]) hx hb dL_wakes_474 hl (by decide) rfl (fun ls hl => ?_)
                                  refine lv_iinc (v := (nI ((F.drop w9).length + 1))) (lv' := [(15, .int (nI ((F.drop w9).length + 1))), (18, .long (lN (pl_pk (F.drop w9 ++ [u])))), (21, .int (nI u)), (20, .int (nI k)), (14, .int (nI w9)), (16, .long f1), (13, .int (pl_last S)), (12, .int 0), (11, .int 0), (10, .int 255), (9, .int (nI v9)), (8, .int (nI w9)), (7, .int (nI b)), (6, .int (nI a)), (5, .int (nI t)), (4, .int 1), (0, .ref (ad 0)), (2, .int y), (3, .int od), (1, .ref q)]) hx hb dL_wakes_476 hl (k := 5) rfl (nI_1 ((F.drop w9).length)) (by decide) rfl (fun ls hl => ?_)
                                  refine lv_iinc (v := (nI (k + 1))) (lv' := [(20, .int (nI (k + 1))), (15, .int (nI ((F.drop w9).length + 1))), (18, .long (lN (pl_pk (F.drop w9 ++ [u])))), (21, .int (nI u)), (14, .int (nI w9)), (16, .long f1), (13, .int (pl_last S)), (12, .int 0), (11, .int 0), (10, .int 255), (9, .int (nI v9)), (8, .int (nI w9)), (7, .int (nI b)), (6, .int (nI a)), (5, .int (nI t)), (4, .int 1), (0, .ref (ad 0)), (2, .int y), (3, .int od), (1, .ref q)]) hx hb dL_wakes_479 hl (k := 3) rfl (nI_1 k) (by decide) rfl (fun ls hl => ?_)
                                  refine lv_goto (tgt := 354) hx hb dL_wakes_482 (by decide) ?_
                                  exact ih1 (k + 1) (F ++ [u]) w9 f1 ((F.drop w9).length + 1) (lN (pl_pk (F.drop w9 ++ [u]))) (by omega) hF9 (by rw [hTb, ← hc1, hcw]) (by rw [hTb]; exact hf1) (by rw [hDb, hTv, List.length_append]; rfl) (by rw [hDb, hTv]) _ _ _ hP hD hS (lv_sub hl [0, 4, 5, 1, 2, 6, 7, 8, 9, 10, 11, 12, 13, 14, 15, 16, 17, 18, 19] rfl)
                                · have hcv : c2 = v9 := by rw [hc2, List.length_take]; omega
                                  have hTv : (F.drop w9 ++ [u]).take v9 = (F.drop w9).take v9 := List.take_append_of_le_length (by omega)
                                  have hl : lv_has ls 29 [(21, .int (nI u)), (20, .int (nI k)), (14, .int (nI w9)), (16, .long f1), (15, .int (nI v9)), (18, .long f2), (13, .int (pl_last S)), (12, .int 0), (11, .int 0), (10, .int 255), (9, .int (nI v9)), (8, .int (nI w9)), (7, .int (nI b)), (6, .int (nI a)), (5, .int (nI t)), (4, .int 1), (0, .ref (ad 0)), (2, .int y), (3, .int od), (1, .ref q)] := by rw [hcv] at hl; exact hl
                                  refine lv_aload_n hx hb dL_wakes_385 rfl (lv_at hl 16 rfl) ?_
                                  refine lv_iload hx hb dL_wakes_386 (lv_at hl 0 rfl) ?_
                                  refine fk_callV (As := [.int (nI u)]) (rest := []) ⟨hx, hb, hml, hown, hts⟩ (kc_stateOf l D ad cI cT cJ _ S u hu9) (cwV 1 hts gL_wakes_X2_stateOf rfl rfl rfl (by decide +kernel) ⟨Nat.le_of_ble_eq_true rfl, Nat.le_of_ble_eq_true rfl⟩) (fk_rvK hK hP) hK hP hD hS hA rfl hl.1 rfl (Nat.le_of_ble_eq_true rfl) dL_wakes_388 ⟨Nat.le_of_ble_eq_true rfl, Nat.le_of_ble_eq_true rfl⟩ (fun H locs hP hD hS => ?_)
                                  refine W.eq (g2 := F0 m 391 ls [.int (S 1 u)]) rfl ?_
                                  refine W.eq (g2 := F0 m 391 ls [.int 1]) (by rw [show (S 1 u) = (1 : Int32) from hs1]) ?_
                                  refine lv_iconst (v := 1) hx hb dL_wakes_391 (by decide) ?_
                                  refine lv_icmp_ne (tgt := 434) hx hb dL_wakes_392 (by decide) (fun c => absurd c (by decide)) (fun _ => ?_)
                                  refine lv_iload hx hb dL_wakes_395 (lv_at hl 2 rfl) ?_
                                  refine lv_iload hx hb dL_wakes_397 (lv_at hl 11 rfl) ?_
                                  refine lv_icmp_ge (tgt := 434) hx hb dL_wakes_399 (by decide) (fun c_166 => ?_) (fun c9 => absurd (nI_le (Nat.le_refl w9) (by omega)) c9)
                                  refine lv_aload_n hx hb dL_wakes_434 rfl (lv_at hl 16 rfl) ?_
                                  refine lv_iload hx hb dL_wakes_435 (lv_at hl 0 rfl) ?_
                                  refine fk_callV (As := [.int (nI u)]) (rest := []) ⟨hx, hb, hml, hown, hts⟩ (kc_stateOf l D ad cI cT cJ _ S u hu9) (cwV 1 hts gL_wakes_X2_stateOf rfl rfl rfl (by decide +kernel) ⟨Nat.le_of_ble_eq_true rfl, Nat.le_of_ble_eq_true rfl⟩) (fk_rvK hK hP) hK hP hD hS hA rfl hl.1 rfl (Nat.le_of_ble_eq_true rfl) dL_wakes_437 ⟨Nat.le_of_ble_eq_true rfl, Nat.le_of_ble_eq_true rfl⟩ (fun H locs hP hD hS => ?_)
                                  refine W.eq (g2 := F0 m 440 ls [.int (S 1 u)]) rfl ?_
                                  refine W.eq (g2 := F0 m 440 ls [.int 1]) (by rw [show (S 1 u) = (1 : Int32) from hs1]) ?_
                                  refine lv_iconst (v := 1) hx hb dL_wakes_440 (by decide) ?_
                                  refine lv_icmp_ne (tgt := 479) hx hb dL_wakes_441 (by decide) (fun c => absurd c (by decide)) (fun _ => ?_)
                                  refine lv_iload hx hb dL_wakes_444 (lv_at hl 15 rfl) ?_
                                  refine lv_if_eq (tgt := 479) hx hb dL_wakes_446 (by decide) (fun c => absurd c (by decide)) (fun _ => ?_)
                                  refine lv_iload hx hb dL_wakes_449 (lv_at hl 2 rfl) ?_
                                  refine lv_iload hx hb dL_wakes_451 (lv_at hl 11 rfl) ?_
                                  refine lv_icmp_ne (tgt := 479) hx hb dL_wakes_453 (by decide) (fun c => absurd rfl c) (fun _ => ?_)
                                  refine lv_iload hx hb dL_wakes_456 (lv_at hl 4 rfl) ?_
                                  refine lv_iload hx hb dL_wakes_458 (lv_at hl 10 rfl) ?_
                                  refine lv_icmp_ge (tgt := 479) hx hb dL_wakes_460 (by decide) (fun c_169 => ?_) (fun c9 => absurd (nI_le (Nat.le_refl v9) (by omega)) c9)
                                  refine lv_iinc (v := (nI (k + 1))) (lv' := [(20, .int (nI (k + 1))), (21, .int (nI u)), (14, .int (nI w9)), (16, .long f1), (15, .int (nI v9)), (18, .long f2), (13, .int (pl_last S)), (12, .int 0), (11, .int 0), (10, .int 255), (9, .int (nI v9)), (8, .int (nI w9)), (7, .int (nI b)), (6, .int (nI a)), (5, .int (nI t)), (4, .int 1), (0, .ref (ad 0)), (2, .int y), (3, .int od), (1, .ref q)]) hx hb dL_wakes_479 hl (k := 1) rfl (nI_1 k) (by decide) rfl (fun ls hl => ?_)
                                  refine lv_goto (tgt := 354) hx hb dL_wakes_482 (by decide) ?_
                                  exact ih1 (k + 1) (F ++ [u]) w9 f1 v9 f2 (by omega) hF9 (by rw [hTb, ← hc1, hcw]) (by rw [hTb]; exact hf1) (by rw [hDb, hTv, ← hc2, hcv]) (by rw [hDb, hTv]; exact hf2) _ _ _ hP hD hS (lv_sub hl [0, 2, 3, 4, 5, 6, 7, 8, 9, 10, 11, 12, 13, 14, 15, 16, 17, 18, 19] rfl)
                            · have hF9 := hF0 (by rw [decide_eq_false hs1]; rfl)
                              refine lv_aload_n hx hb dL_wakes_385 rfl (lv_at hl 16 rfl) ?_
                              refine lv_iload hx hb dL_wakes_386 (lv_at hl 0 rfl) ?_
                              refine fk_callV (As := [.int (nI u)]) (rest := []) ⟨hx, hb, hml, hown, hts⟩ (kc_stateOf l D ad cI cT cJ _ S u hu9) (cwV 1 hts gL_wakes_X2_stateOf rfl rfl rfl (by decide +kernel) ⟨Nat.le_of_ble_eq_true rfl, Nat.le_of_ble_eq_true rfl⟩) (fk_rvK hK hP) hK hP hD hS hA rfl hl.1 rfl (Nat.le_of_ble_eq_true rfl) dL_wakes_388 ⟨Nat.le_of_ble_eq_true rfl, Nat.le_of_ble_eq_true rfl⟩ (fun H locs hP hD hS => ?_)
                              refine W.eq (g2 := F0 m 391 ls [.int (S 1 u)]) rfl ?_
                              refine lv_iconst (v := 1) hx hb dL_wakes_391 (by decide) ?_
                              refine lv_icmp_ne (tgt := 434) hx hb dL_wakes_392 (by decide) (fun c_170 => ?_) (fun c9 => absurd c9 hs1)
                              refine lv_aload_n hx hb dL_wakes_434 rfl (lv_at hl 16 rfl) ?_
                              refine lv_iload hx hb dL_wakes_435 (lv_at hl 0 rfl) ?_
                              refine fk_callV (As := [.int (nI u)]) (rest := []) ⟨hx, hb, hml, hown, hts⟩ (kc_stateOf l D ad cI cT cJ _ S u hu9) (cwV 1 hts gL_wakes_X2_stateOf rfl rfl rfl (by decide +kernel) ⟨Nat.le_of_ble_eq_true rfl, Nat.le_of_ble_eq_true rfl⟩) (fk_rvK hK hP) hK hP hD hS hA rfl hl.1 rfl (Nat.le_of_ble_eq_true rfl) dL_wakes_437 ⟨Nat.le_of_ble_eq_true rfl, Nat.le_of_ble_eq_true rfl⟩ (fun H locs hP hD hS => ?_)
                              refine W.eq (g2 := F0 m 440 ls [.int (S 1 u)]) rfl ?_
                              refine lv_iconst (v := 1) hx hb dL_wakes_440 (by decide) ?_
                              refine lv_icmp_ne (tgt := 479) hx hb dL_wakes_441 (by decide) (fun c_171 => ?_) (fun c9 => absurd c9 hs1)
                              refine lv_iinc (v := (nI (k + 1))) (lv' := [(20, .int (nI (k + 1))), (21, .int (nI u)), (14, .int (nI c1)), (16, .long f1), (15, .int (nI c2)), (18, .long f2), (13, .int (pl_last S)), (12, .int 0), (11, .int 0), (10, .int 255), (9, .int (nI v9)), (8, .int (nI w9)), (7, .int (nI b)), (6, .int (nI a)), (5, .int (nI t)), (4, .int 1), (0, .ref (ad 0)), (2, .int y), (3, .int od), (1, .ref q)]) hx hb dL_wakes_479 hl (k := 1) rfl (nI_1 k) (by decide) rfl (fun ls hl => ?_)
                              refine lv_goto (tgt := 354) hx hb dL_wakes_482 (by decide) ?_
                              exact ih1 (k + 1) F c1 f1 c2 f2 (by omega) hF9 hc1 hf1 hc2 hf2 _ _ _ hP hD hS (lv_sub hl [0, 2, 3, 4, 5, 6, 7, 8, 9, 10, 11, 12, 13, 14, 15, 16, 17, 18, 19] rfl)
                        exact loop1 (kq_A S a).length 0 [] 0 0 0 0 (by omega) (by rw [List.nil_append]; rfl) (by rw [List.take_nil]; rfl) (by rw [List.take_nil]; rfl) (by rw [List.drop_nil, List.take_nil]; rfl) (by rw [List.drop_nil, List.take_nil]; rfl) _ _ _ hP hD hS (lv_sub hl [0, 4, 2, 3, 1, 5, 6, 7, 8, 9, 10, 11, 12, 13, 14, 15, 17, 18, 16] rfl)
                      · refine lv_aload_n hx hb dL_wakes_333 rfl (lv_at hl 9 rfl) ?_
                        refine fk_callS (As := [.ref (ad 0)]) (rest := []) ⟨hx, hb, hml, hown, hts⟩ (kl_last l D ad cI cT cJ _ S) (va_cwS 1 hts gL_wakes_L_last rfl rfl rfl (by decide +kernel) ⟨Nat.le_of_ble_eq_true rfl, Nat.le_of_ble_eq_true rfl⟩) hK hP hD hS hA rfl hl.1 rfl (Nat.le_of_ble_eq_true rfl) dL_wakes_334 ⟨Nat.le_of_ble_eq_true rfl, Nat.le_of_ble_eq_true rfl⟩ (fun H locs hP hD hS => ?_)
                        refine W.eq (g2 := F0 m 337 ls [.int (pl_last S)]) rfl ?_
                        refine lv_istore (lv' := [(13, .int (pl_last S)), (12, .int 0), (11, .int 0), (10, .int 255), (9, .int (nI v9)), (8, .int (nI w9)), (7, .int (nI b)), (6, .int (nI a)), (5, .int (nI t)), (4, .int 1), (0, .ref (ad 0)), (1, .ref q), (2, .int y), (3, .int od)]) hx hb dL_wakes_337 hl (by decide) rfl (fun ls hl => ?_)
                        refine lv_iconst (v := 0) hx hb dL_wakes_339 (by decide) ?_
                        refine lv_istore (lv' := [(14, .int 0), (13, .int (pl_last S)), (12, .int 0), (11, .int 0), (10, .int 255), (9, .int (nI v9)), (8, .int (nI w9)), (7, .int (nI b)), (6, .int (nI a)), (5, .int (nI t)), (4, .int 1), (0, .ref (ad 0)), (1, .ref q), (2, .int y), (3, .int od)]) hx hb dL_wakes_340 hl (by decide) rfl (fun ls hl => ?_)
                        refine lv_iconst (v := 0) hx hb dL_wakes_342 (by decide) ?_
                        refine lv_istore (lv' := [(15, .int 0), (14, .int 0), (13, .int (pl_last S)), (12, .int 0), (11, .int 0), (10, .int 255), (9, .int (nI v9)), (8, .int (nI w9)), (7, .int (nI b)), (6, .int (nI a)), (5, .int (nI t)), (4, .int 1), (0, .ref (ad 0)), (1, .ref q), (2, .int y), (3, .int od)]) hx hb dL_wakes_343 hl (by decide) rfl (fun ls hl => ?_)
                        refine lv_lconst (v := 0) hx hb dL_wakes_345 (by decide) ?_
                        refine lv_lstore (lv' := [(16, .long 0), (15, .int 0), (14, .int 0), (13, .int (pl_last S)), (12, .int 0), (11, .int 0), (10, .int 255), (9, .int (nI v9)), (8, .int (nI w9)), (7, .int (nI b)), (6, .int (nI a)), (5, .int (nI t)), (4, .int 1), (0, .ref (ad 0)), (1, .ref q), (2, .int y), (3, .int od)]) hx hb dL_wakes_346 hl (by decide) rfl (fun ls hl => ?_)
                        refine lv_lconst (v := 0) hx hb dL_wakes_348 (by decide) ?_
                        refine lv_lstore (lv' := [(18, .long 0), (16, .long 0), (15, .int 0), (14, .int 0), (13, .int (pl_last S)), (12, .int 0), (11, .int 0), (10, .int 255), (9, .int (nI v9)), (8, .int (nI w9)), (7, .int (nI b)), (6, .int (nI a)), (5, .int (nI t)), (4, .int 1), (0, .ref (ad 0)), (1, .ref q), (2, .int y), (3, .int od)]) hx hb dL_wakes_349 hl (by decide) rfl (fun ls hl => ?_)
                        refine lv_iconst (v := 0) hx hb dL_wakes_351 (by decide) ?_
                        refine lv_istore (lv' := [(20, .int 0), (18, .long 0), (16, .long 0), (15, .int 0), (14, .int 0), (13, .int (pl_last S)), (12, .int 0), (11, .int 0), (10, .int 255), (9, .int (nI v9)), (8, .int (nI w9)), (7, .int (nI b)), (6, .int (nI a)), (5, .int (nI t)), (4, .int 1), (0, .ref (ad 0)), (1, .ref q), (2, .int y), (3, .int od)]) hx hb dL_wakes_352 hl (by decide) rfl (fun ls hl => ?_)
                        have loop1 : ∀ (n1 : Nat) (k : Nat) (F : List Nat) (c1 : Nat) (f1 : Int64) (c2 : Nat) (f2 : Int64), k + n1 = (kq_A S a).length → F ++ ((kq_A S a).drop k).filter (fun t => decide (S 1 t = 1) && decide (S 4 t &&& 255 ≠ 0)) = (kq_wt S a 255) → c1 = (F.take w9).length → f1 = lN (pl_pk (F.take w9)) → c2 = ((F.drop w9).take v9).length → f2 = lN (pl_pk ((F.drop w9).take v9)) → ∀ (H : Heap) (locs : List Loc) (ls : Array Slot), va_P D vwCl (fk_kW ad cI cT S ++ (q, fk_pr cI P) :: X) H → va_D A (fk_kW ad cI cT S ++ (q, fk_pr cI P) :: X) → va_S A s.heap H locs → lv_has ls 29 [(20, .int (nI k)), (14, .int (nI c1)), (16, .long f1), (15, .int (nI c2)), (18, .long f2), (13, .int (pl_last S)), (12, .int 0), (11, .int 0), (10, .int 255), (9, .int (nI v9)), (8, .int (nI w9)), (7, .int (nI b)), (6, .int (nI a)), (5, .int (nI t)), (4, .int 1), (0, .ref (ad 0)), (2, .int y), (3, .int od), (1, .ref q)] → W p l e rm_E s m ([.ref (ad 0), .ref q, .int y, .int od] : List Value).toArray below meth c H locs 0 0 (MQ below (fk_QE D (fk_ty cI cT cJ) A (kq_Phi ad cI cT q X (n + 20))) ([.ref (ad 0), .ref q, .int y, .int od] : List Value).toArray s 2 12 A) (F0 m 354 ls []) := by
                          intro n1
                          induction n1 with
                          | zero =>
                            intro k F c1 f1 c2 f2 hk hF hc1 hf1 hc2 hf2 H locs ls hP hD hS hl
                            have h8 := kq_A8 S a
                            have hFW : F = (kq_wt S a 255) := by rw [← hF, (kq_stop hk).2]; simp
                            obtain ⟨WK, hWK⟩ : ∃ WK, WK = (kq_wt S a 255).take w9 := ⟨_, rfl⟩
                            rw [hFW, ← hWK] at hc1 hf1
                            have hWK8 : ∀ u ∈ WK, u < 8 := fun z hz => by rw [hWK] at hz; exact (kq_wt_mem (List.mem_of_mem_take hz)).1
                            have hWKl : WK.length ≤ 8 := by rw [hWK, List.length_take]; have := kq_wt8 S a 255; omega
                            obtain ⟨MV, hMV⟩ : ∃ MV, MV = ((kq_wt S a 255).drop w9).take v9 := ⟨_, rfl⟩
                            rw [hFW, ← hMV] at hc2 hf2
                            have hMV8 : ∀ u ∈ MV, u < 8 := fun z hz => by rw [hMV] at hz; exact (kq_wt_mem (List.mem_of_mem_drop (List.mem_of_mem_take hz))).1
                            have hMVl : MV.length ≤ 8 := by rw [hMV, List.length_take, List.length_drop]; have := kq_wt8 S a 255; omega
                            have hl : lv_has ls 29 [(20, .int (nI k)), (14, .int (nI WK.length)), (16, .long (lN (pl_pk WK))), (15, .int (nI MV.length)), (18, .long (lN (pl_pk MV))), (13, .int (pl_last S)), (12, .int 0), (11, .int 0), (10, .int 255), (9, .int (nI v9)), (8, .int (nI w9)), (7, .int (nI b)), (6, .int (nI a)), (5, .int (nI t)), (4, .int 1), (0, .ref (ad 0)), (2, .int y), (3, .int od), (1, .ref q)] := by rw [hc1, hf1, hc2, hf2] at hl; exact hl
                            refine lv_iload hx hb dL_wakes_354 (lv_at hl 7 rfl) ?_
                            refine lv_if_ne (tgt := 485) hx hb dL_wakes_356 (by decide) (fun c => absurd c (by decide)) (fun _ => ?_)
                            refine lv_iload hx hb dL_wakes_359 (lv_at hl 6 rfl) ?_
                            refine lv_if_ne (tgt := 485) hx hb dL_wakes_361 (by decide) (fun c => absurd c (by decide)) (fun _ => ?_)
                            refine lv_iload hx hb dL_wakes_364 (lv_at hl 0 rfl) ?_
                            refine lv_aload_n hx hb dL_wakes_366 rfl (lv_at hl 15 rfl) ?_
                            refine lv_iload hx hb dL_wakes_367 (lv_at hl 12 rfl) ?_
                            refine fk_callV (As := [.int (nI a)]) (rest := [.int (nI k)]) ⟨hx, hb, hml, hown, hts⟩ (kc_waiters l D ad cI cT cJ _ S a ha) (cwV 1 hts gL_wakes_X2_waiters rfl rfl rfl (by decide +kernel) ⟨Nat.le_of_ble_eq_true rfl, Nat.le_of_ble_eq_true rfl⟩) (fk_rvK hK hP) hK hP hD hS hA rfl hl.1 rfl (Nat.le_of_ble_eq_true rfl) dL_wakes_369 ⟨Nat.le_of_ble_eq_true rfl, Nat.le_of_ble_eq_true rfl⟩ (fun H locs hP hD hS => ?_)
                            refine W.eq (g2 := F0 m 372 ls [.int (kk_waiters S (nI a)), .int (nI k)]) rfl ?_
                            refine W.eq (g2 := F0 m 372 ls [.int (nI ((kq_A S a).length)), .int (nI k)]) (by rw [show (kk_waiters S (nI a)) = (nI ((kq_A S a).length)) from (kq_waiters _ _)]) ?_
                            refine lv_icmp_ge (tgt := 485) hx hb dL_wakes_372 (by decide) (fun c_174 => ?_) (fun c_174 => absurd (nI_le (a := (kq_A S a).length) (b := k) (by omega) (by omega)) c_174)
                            refine lv_aload_n hx hb dL_wakes_485 rfl (lv_at hl 15 rfl) ?_
                            refine lv_iconst (v := (-1)) hx hb dL_wakes_486 (by decide) ?_
                            refine fk_callS (As := [.ref (ad 0), .int (-1)]) (rest := []) ⟨hx, hb, hml, hown, hts⟩ (kl_threads l D ad cI cT cJ _ S hG.1.sz hG.1.J (-1)) (va_cwS 2 hts gL_wakes_L_threads rfl rfl rfl (by decide +kernel) ⟨Nat.le_of_ble_eq_true rfl, Nat.le_of_ble_eq_true rfl⟩) hK hP hD hS hA rfl hl.1 rfl (Nat.le_of_ble_eq_true rfl) dL_wakes_487 ⟨Nat.le_of_ble_eq_true rfl, Nat.le_of_ble_eq_true rfl⟩ (fun H locs hP hD hS => ?_)
                            refine W.eq (g2 := F0 m 490 ls [.long (pl_thr S (-1))]) rfl ?_
                            refine lv_lstore (lv' := [(20, .long (pl_thr S (-1))), (14, .int (nI WK.length)), (16, .long (lN (pl_pk WK))), (15, .int (nI MV.length)), (18, .long (lN (pl_pk MV))), (13, .int (pl_last S)), (12, .int 0), (11, .int 0), (10, .int 255), (9, .int (nI v9)), (8, .int (nI w9)), (7, .int (nI b)), (6, .int (nI a)), (5, .int (nI t)), (4, .int 1), (0, .ref (ad 0)), (2, .int y), (3, .int od), (1, .ref q)]) hx hb dL_wakes_490 hl (by decide) rfl (fun ls hl => ?_)
                            refine lv_iload hx hb dL_wakes_492 (lv_at hl 7 rfl) ?_
                            refine lv_if_eq (tgt := 501) hx hb dL_wakes_494 (by decide) (fun _ => ?_) (fun c => absurd c (by decide))
                            refine lv_aload_n hx hb dL_wakes_501 rfl (lv_at hl 15 rfl) ?_
                            refine lv_iload hx hb dL_wakes_502 (lv_at hl 12 rfl) ?_
                            refine fk_callV (As := [.int (nI a)]) (rest := []) ⟨hx, hb, hml, hown, hts⟩ (kc_word l D ad cI cT cJ _ S a ha) (cwV 1 hts gL_wakes_X2_word rfl rfl rfl (by decide +kernel) ⟨Nat.le_of_ble_eq_true rfl, Nat.le_of_ble_eq_true rfl⟩) (fk_rvK hK hP) hK hP hD hS hA rfl hl.1 rfl (Nat.le_of_ble_eq_true rfl) dL_wakes_504 ⟨Nat.le_of_ble_eq_true rfl, Nat.le_of_ble_eq_true rfl⟩ (fun H locs hP hD hS => ?_)
                            refine W.eq (g2 := F0 m 507 ls [.int (S 0 a)]) rfl ?_
                            refine lv_istore (lv' := [(22, .int (S 0 a)), (20, .long (pl_thr S (-1))), (14, .int (nI WK.length)), (16, .long (lN (pl_pk WK))), (15, .int (nI MV.length)), (18, .long (lN (pl_pk MV))), (13, .int (pl_last S)), (12, .int 0), (11, .int 0), (10, .int 255), (9, .int (nI v9)), (8, .int (nI w9)), (7, .int (nI b)), (6, .int (nI a)), (5, .int (nI t)), (4, .int 1), (0, .ref (ad 0)), (2, .int y), (3, .int od), (1, .ref q)]) hx hb dL_wakes_507 hl (by decide) rfl (fun ls hl => ?_)
                            refine lv_iload hx hb dL_wakes_509 (lv_at hl 8 rfl) ?_
                            refine lv_if_ne (tgt := 532) hx hb dL_wakes_511 (by decide) (fun c => absurd c (by decide)) (fun _ => ?_)
                            refine lv_iload hx hb dL_wakes_514 (lv_at hl 7 rfl) ?_
                            refine lv_if_ne (tgt := 532) hx hb dL_wakes_516 (by decide) (fun c => absurd c (by decide)) (fun _ => ?_)
                            refine lv_aload_n hx hb dL_wakes_519 rfl (lv_at hl 16 rfl) ?_
                            refine lv_iload hx hb dL_wakes_520 (lv_at hl 14 rfl) ?_
                            refine fk_callV (As := [.int (nI t)]) (rest := []) ⟨hx, hb, hml, hown, hts⟩ (kc_stateOf l D ad cI cT cJ _ S t ht) (cwV 1 hts gL_wakes_X2_stateOf rfl rfl rfl (by decide +kernel) ⟨Nat.le_of_ble_eq_true rfl, Nat.le_of_ble_eq_true rfl⟩) (fk_rvK hK hP) hK hP hD hS hA rfl hl.1 rfl (Nat.le_of_ble_eq_true rfl) dL_wakes_522 ⟨Nat.le_of_ble_eq_true rfl, Nat.le_of_ble_eq_true rfl⟩ (fun H locs hP hD hS => ?_)
                            refine W.eq (g2 := F0 m 525 ls [.int (S 1 t)]) rfl ?_
                            refine lv_if_ne (tgt := 532) hx hb dL_wakes_525 (by decide) (fun c_178 => ?_) (fun c9 => absurd c9 hs0)
                            refine lv_iconst (v := 0) hx hb dL_wakes_532 (by decide) ?_
                            refine lv_istore (lv' := [(23, .int 0), (22, .int (S 0 a)), (20, .long (pl_thr S (-1))), (14, .int (nI WK.length)), (16, .long (lN (pl_pk WK))), (15, .int (nI MV.length)), (18, .long (lN (pl_pk MV))), (13, .int (pl_last S)), (12, .int 0), (11, .int 0), (10, .int 255), (9, .int (nI v9)), (8, .int (nI w9)), (7, .int (nI b)), (6, .int (nI a)), (5, .int (nI t)), (4, .int 1), (0, .ref (ad 0)), (2, .int y), (3, .int od), (1, .ref q)]) hx hb dL_wakes_533 hl (by decide) rfl (fun ls hl => ?_)
                            refine lv_iload hx hb dL_wakes_535 (lv_at hl 16 rfl) ?_
                            refine lv_if_eq (tgt := 566) hx hb dL_wakes_537 (by decide) (fun c => absurd c (by decide)) (fun _ => ?_)
                            refine lv_iload hx hb dL_wakes_540 (lv_at hl 0 rfl) ?_
                            refine lv_if_eq (tgt := 566) hx hb dL_wakes_542 (by decide) (fun _ => ?_) (fun c => absurd c (by decide))
                            refine lv_iconst (v := (-1)) hx hb dL_wakes_566 (by decide) ?_
                            refine lv_istore (lv' := [(24, .int (-1)), (23, .int 0), (22, .int (S 0 a)), (20, .long (pl_thr S (-1))), (14, .int (nI WK.length)), (16, .long (lN (pl_pk WK))), (15, .int (nI MV.length)), (18, .long (lN (pl_pk MV))), (13, .int (pl_last S)), (12, .int 0), (11, .int 0), (10, .int 255), (9, .int (nI v9)), (8, .int (nI w9)), (7, .int (nI b)), (6, .int (nI a)), (5, .int (nI t)), (4, .int 1), (0, .ref (ad 0)), (2, .int y), (3, .int od), (1, .ref q)]) hx hb dL_wakes_567 hl (by decide) rfl (fun ls hl => ?_)
                            refine lv_iload hx hb dL_wakes_569 (lv_at hl 0 rfl) ?_
                            refine lv_iconst (v := (-1)) hx hb dL_wakes_571 (by decide) ?_
                            refine lv_icmp_ne (tgt := 586) hx hb dL_wakes_572 (by decide) (fun c => absurd c (by decide)) (fun _ => ?_)
                            refine lv_aload_n hx hb dL_wakes_575 rfl (lv_at hl 18 rfl) ?_
                            refine lv_iconst (v := (-1)) hx hb dL_wakes_576 (by decide) ?_
                            refine fk_callS (As := [.ref (ad 0), .int (-1)]) (rest := []) ⟨hx, hb, hml, hown, hts⟩ (kl_threads l D ad cI cT cJ _ S hG.1.sz hG.1.J (-1)) (va_cwS 2 hts gL_wakes_L_threads rfl rfl rfl (by decide +kernel) ⟨Nat.le_of_ble_eq_true rfl, Nat.le_of_ble_eq_true rfl⟩) hK hP hD hS hA rfl hl.1 rfl (Nat.le_of_ble_eq_true rfl) dL_wakes_577 ⟨Nat.le_of_ble_eq_true rfl, Nat.le_of_ble_eq_true rfl⟩ (fun H locs hP hD hS => ?_)
                            refine W.eq (g2 := F0 m 580 ls [.long (pl_thr S (-1))]) rfl ?_
                            refine lv_lload hx hb dL_wakes_580 (lv_at hl 3 rfl) ?_
                            refine W.lcmp hx hb dL_wakes_582 ?_
                            refine W.eq (g2 := F0 m 583 ls [.int 0]) (by rw [fk_cmp_self]) ?_
                            refine lv_if_eq (tgt := 588) hx hb dL_wakes_583 (by decide) (fun _ => ?_) (fun c => absurd c (by decide))
                            refine lv_iload hx hb dL_wakes_588 (lv_at hl 17 rfl) ?_
                            refine lv_if_eq (tgt := 612) hx hb dL_wakes_590 (by decide) (fun c => absurd c (by decide)) (fun _ => ?_)
                            refine lv_aload_n hx hb dL_wakes_593 rfl (lv_at hl 18 rfl) ?_
                            refine lv_iload hx hb dL_wakes_594 (lv_at hl 16 rfl) ?_
                            refine lv_iload hx hb dL_wakes_596 (lv_at hl 15 rfl) ?_
                            refine lv_iload hx hb dL_wakes_598 (lv_at hl 2 rfl) ?_
                            refine lv_iload hx hb dL_wakes_600 (lv_at hl 13 rfl) ?_
                            refine lv_iload hx hb dL_wakes_602 (lv_at hl 14 rfl) ?_
                            refine lv_iload hx hb dL_wakes_604 (lv_at hl 12 rfl) ?_
                            refine fk_lcallS (As := [.ref (ad 0), .int (nI t), .int (nI a), .int (S 0 a), .int (nI w9), .int (nI b), .int (nI v9)]) (rest := []) ⟨hx, hb, hml, hown, hts⟩ (Lx_requeue_IS l D ad cI cT cJ _ S _ _ _ _ _ _ (fun X => kx_requeue_7 l D ad cI cT cJ X S hst t ht a ha b hb9 hab _ _ _ hm0 hm1 hs0)) (vx_cwSW 7 hts gL_wakes_L_requeue rfl rfl rfl (by decide +kernel) ⟨Nat.le_of_ble_eq_true rfl, Nat.le_of_ble_eq_true rfl⟩) hK hP hD hS hA hZ hN rfl hl.1 rfl (Nat.le_of_ble_eq_true rfl) dL_wakes_606 ⟨Nat.le_of_ble_eq_true rfl, Nat.le_of_ble_eq_true rfl⟩ (fun H locs hP hD hS => ?_)
                            refine W.eq (g2 := F0 m 609 ls [.int (-2147483203)]) rfl ?_
                            refine lv_goto (tgt := 625) hx hb dL_wakes_609 (by decide) ?_
                            refine lv_istore (lv' := [(25, .int (-2147483203)), (24, .int (-1)), (23, .int 0), (22, .int (S 0 a)), (20, .long (pl_thr S (-1))), (14, .int (nI WK.length)), (16, .long (lN (pl_pk WK))), (15, .int (nI MV.length)), (18, .long (lN (pl_pk MV))), (13, .int (pl_last S)), (12, .int 0), (11, .int 0), (10, .int 255), (9, .int (nI v9)), (8, .int (nI w9)), (7, .int (nI b)), (6, .int (nI a)), (5, .int (nI t)), (4, .int 1), (0, .ref (ad 0)), (2, .int y), (3, .int od), (1, .ref q)]) hx hb dL_wakes_625 hl (by decide) rfl (fun ls hl => ?_)
                            refine lv_iload hx hb dL_wakes_627 (lv_at hl 2 rfl) ?_
                            refine lv_if_ne (tgt := 676) hx hb dL_wakes_629 (by decide) (fun c => absurd c (by decide)) (fun _ => ?_)
                            refine lv_iload hx hb dL_wakes_632 (lv_at hl 0 rfl) ?_
                            refine lv_iload hx hb dL_wakes_634 (lv_at hl 11 rfl) ?_
                            refine lv_if_eq (tgt := 644) hx hb dL_wakes_636 (by decide) (fun _ => ?_) (fun c => absurd c (by decide))
                            refine lv_iload hx hb dL_wakes_644 (lv_at hl 10 rfl) ?_
                            refine lv_if_eq (tgt := 654) hx hb dL_wakes_646 (by decide) (fun _ => ?_) (fun c => absurd c (by decide))
                            refine lv_ldc (own := RL) (v := (-2147483203)) hx hb hown (hts (.constant RL 23 (-2147483203)) (List.mem_of_getElem? (i := 3) rfl)) dL_wakes_654 ?_
                            refine lv_icmp_ne (tgt := 674) hx hb dL_wakes_656 (by decide) (fun c => absurd c (by decide)) (fun _ => ?_)
                            refine lv_aload_n hx hb dL_wakes_659 rfl (lv_at hl 19 rfl) ?_
                            refine lv_iconst (v := (-1)) hx hb dL_wakes_660 (by decide) ?_
                            refine fk_callS (As := [.ref (ad 0), .int (-1)]) (rest := []) ⟨hx, hb, hml, hown, hts⟩ (kl_threads l D ad cI cT cJ _ S hG.1.sz hG.1.J (-1)) (va_cwS 2 hts gL_wakes_L_threads rfl rfl rfl (by decide +kernel) ⟨Nat.le_of_ble_eq_true rfl, Nat.le_of_ble_eq_true rfl⟩) hK hP hD hS hA rfl hl.1 rfl (Nat.le_of_ble_eq_true rfl) dL_wakes_661 ⟨Nat.le_of_ble_eq_true rfl, Nat.le_of_ble_eq_true rfl⟩ (fun H locs hP hD hS => ?_)
                            refine W.eq (g2 := F0 m 664 ls [.long (pl_thr S (-1))]) rfl ?_
                            refine lv_lload hx hb dL_wakes_664 (lv_at hl 4 rfl) ?_
                            refine W.lcmp hx hb dL_wakes_666 ?_
                            refine W.eq (g2 := F0 m 667 ls [.int 0]) (by rw [fk_cmp_self]) ?_
                            refine lv_if_ne (tgt := 674) hx hb dL_wakes_667 (by decide) (fun c => absurd c (by decide)) (fun _ => ?_)
                            refine lv_iconst (v := 1) hx hb dL_wakes_670 (by decide) ?_
                            refine lv_goto (tgt := 675) hx hb dL_wakes_671 (by decide) ?_
                            exact fk_zretE (Nat.le_of_ble_eq_true rfl) (Nat.le_of_ble_eq_true rfl) hx hb hr hlocks hP hK hD hS rfl ⟨rfl, _, _, rfl, (hG).wk (by omega)⟩ dL_wakes_675
                          | succ n1 ih1 =>
                            intro k F c1 f1 c2 f2 hk hF hc1 hf1 hc2 hf2 H locs ls hP hD hS hl
                            have h8 := kq_A8 S a
                            obtain ⟨u, hgu, hdu⟩ := kq_step hk
                            have hu9 := kq_A_lt hgu
                            rw [hdu] at hF
                            obtain ⟨hF1, hF0⟩ := kq_put hF
                            have hF8 : ∀ u ∈ F, u < 8 := fun z hz => (kq_wt_mem (show z ∈ (kq_wt S a 255) by rw [← hF]; exact List.mem_append_left _ hz)).1
                            have hFl : F.length ≤ 8 := by have h1 := congrArg List.length hF; rw [List.length_append] at h1; have := kq_wt8 S a 255; omega
                            refine lv_iload hx hb dL_wakes_354 (lv_at hl 7 rfl) ?_
                            refine lv_if_ne (tgt := 485) hx hb dL_wakes_356 (by decide) (fun c => absurd c (by decide)) (fun _ => ?_)
                            refine lv_iload hx hb dL_wakes_359 (lv_at hl 6 rfl) ?_
                            refine lv_if_ne (tgt := 485) hx hb dL_wakes_361 (by decide) (fun c => absurd c (by decide)) (fun _ => ?_)
                            refine lv_iload hx hb dL_wakes_364 (lv_at hl 0 rfl) ?_
                            refine lv_aload_n hx hb dL_wakes_366 rfl (lv_at hl 15 rfl) ?_
                            refine lv_iload hx hb dL_wakes_367 (lv_at hl 12 rfl) ?_
                            refine fk_callV (As := [.int (nI a)]) (rest := [.int (nI k)]) ⟨hx, hb, hml, hown, hts⟩ (kc_waiters l D ad cI cT cJ _ S a ha) (cwV 1 hts gL_wakes_X2_waiters rfl rfl rfl (by decide +kernel) ⟨Nat.le_of_ble_eq_true rfl, Nat.le_of_ble_eq_true rfl⟩) (fk_rvK hK hP) hK hP hD hS hA rfl hl.1 rfl (Nat.le_of_ble_eq_true rfl) dL_wakes_369 ⟨Nat.le_of_ble_eq_true rfl, Nat.le_of_ble_eq_true rfl⟩ (fun H locs hP hD hS => ?_)
                            refine W.eq (g2 := F0 m 372 ls [.int (kk_waiters S (nI a)), .int (nI k)]) rfl ?_
                            refine W.eq (g2 := F0 m 372 ls [.int (nI ((kq_A S a).length)), .int (nI k)]) (by rw [show (kk_waiters S (nI a)) = (nI ((kq_A S a).length)) from (kq_waiters _ _)]) ?_
                            refine lv_icmp_ge (tgt := 485) hx hb dL_wakes_372 (by decide) (fun c_191 => absurd c_191 (nI_ge (a := k) (b := (kq_A S a).length) (by omega) (by omega))) (fun c_191 => ?_)
                            refine lv_aload_n hx hb dL_wakes_375 rfl (lv_at hl 15 rfl) ?_
                            refine lv_iload hx hb dL_wakes_376 (lv_at hl 12 rfl) ?_
                            refine lv_iload hx hb dL_wakes_378 (lv_at hl 0 rfl) ?_
                            refine fk_callV (As := [.int (nI a), .int (nI k)]) (rest := []) ⟨hx, hb, hml, hown, hts⟩ (kc_waiterAt l D ad cI cT cJ _ S a ha (nI k) u (by rw [kq_wAt hG.1.J (by omega) (by omega)]; exact hgu)) (cwV 2 hts gL_wakes_X2_waiterAt rfl rfl rfl (by decide +kernel) ⟨Nat.le_of_ble_eq_true rfl, Nat.le_of_ble_eq_true rfl⟩) (fk_rvK hK hP) hK hP hD hS hA rfl hl.1 rfl (Nat.le_of_ble_eq_true rfl) dL_wakes_380 ⟨Nat.le_of_ble_eq_true rfl, Nat.le_of_ble_eq_true rfl⟩ (fun H locs hP hD hS => ?_)
                            refine W.eq (g2 := F0 m 383 ls [.int (nI u)]) rfl ?_
                            refine lv_istore (lv' := [(21, .int (nI u)), (20, .int (nI k)), (14, .int (nI c1)), (16, .long f1), (15, .int (nI c2)), (18, .long f2), (13, .int (pl_last S)), (12, .int 0), (11, .int 0), (10, .int 255), (9, .int (nI v9)), (8, .int (nI w9)), (7, .int (nI b)), (6, .int (nI a)), (5, .int (nI t)), (4, .int 1), (0, .ref (ad 0)), (2, .int y), (3, .int od), (1, .ref q)]) hx hb dL_wakes_383 hl (by decide) rfl (fun ls hl => ?_)
                            by_cases hs1 : S 1 u = 1
                            · have hft : ¬ S 4 u &&& 255 = 0 := fk_mask255 (kq_mask hG.1 hu9 hs1).2
                              have hF9 := hF1 (by rw [decide_eq_true hs1, decide_eq_true (show S 4 u &&& 255 ≠ 0 from hft)]; rfl)
                              by_cases hlt : F.length < w9
                              · have hTF : F.take w9 = F := List.take_of_length_le (by omega)
                                have hTu : (F ++ [u]).take w9 = F ++ [u] := List.take_of_length_le (by rw [List.length_append]; simp; omega)
                                rw [hTF] at hc1 hf1
                                have hD0 : F.drop w9 = [] := List.drop_eq_nil_of_le (by omega)
                                have hD1 : (F ++ [u]).drop w9 = [] := List.drop_eq_nil_of_le (by rw [List.length_append]; simp; omega)
                                have hl : lv_has ls 29 [(21, .int (nI u)), (20, .int (nI k)), (14, .int (nI F.length)), (16, .long (lN (pl_pk F))), (15, .int (nI c2)), (18, .long f2), (13, .int (pl_last S)), (12, .int 0), (11, .int 0), (10, .int 255), (9, .int (nI v9)), (8, .int (nI w9)), (7, .int (nI b)), (6, .int (nI a)), (5, .int (nI t)), (4, .int 1), (0, .ref (ad 0)), (2, .int y), (3, .int od), (1, .ref q)] := by rw [hc1, hf1] at hl; exact hl
                                refine lv_aload_n hx hb dL_wakes_385 rfl (lv_at hl 16 rfl) ?_
                                refine lv_iload hx hb dL_wakes_386 (lv_at hl 0 rfl) ?_
                                refine fk_callV (As := [.int (nI u)]) (rest := []) ⟨hx, hb, hml, hown, hts⟩ (kc_stateOf l D ad cI cT cJ _ S u hu9) (cwV 1 hts gL_wakes_X2_stateOf rfl rfl rfl (by decide +kernel) ⟨Nat.le_of_ble_eq_true rfl, Nat.le_of_ble_eq_true rfl⟩) (fk_rvK hK hP) hK hP hD hS hA rfl hl.1 rfl (Nat.le_of_ble_eq_true rfl) dL_wakes_388 ⟨Nat.le_of_ble_eq_true rfl, Nat.le_of_ble_eq_true rfl⟩ (fun H locs hP hD hS => ?_)
                                refine W.eq (g2 := F0 m 391 ls [.int (S 1 u)]) rfl ?_
                                refine W.eq (g2 := F0 m 391 ls [.int 1]) (by rw [show (S 1 u) = (1 : Int32) from hs1]) ?_
                                refine lv_iconst (v := 1) hx hb dL_wakes_391 (by decide) ?_
                                refine lv_icmp_ne (tgt := 434) hx hb dL_wakes_392 (by decide) (fun c => absurd c (by decide)) (fun _ => ?_)
                                refine lv_iload hx hb dL_wakes_395 (lv_at hl 2 rfl) ?_
                                refine lv_iload hx hb dL_wakes_397 (lv_at hl 11 rfl) ?_
                                refine lv_icmp_ge (tgt := 434) hx hb dL_wakes_399 (by decide) (fun c_193 => absurd c_193 (nI_ge (a := F.length) (b := w9) hlt (by omega))) (fun c_193 => ?_)
                                refine lv_aload_n hx hb dL_wakes_402 rfl (lv_at hl 19 rfl) ?_
                                refine lv_bipush (v := 8) hx hb dL_wakes_403 (by decide) ?_
                                refine lv_iload hx hb dL_wakes_405 (lv_at hl 0 rfl) ?_
                                refine lv_iadd hx hb dL_wakes_407 ?_
                                refine W.eq (g2 := F0 m 408 ls [.int (nI (8 + u)), .ref q]) (by rw [show (8 : Int32) = nI 8 from rfl, nI_add]) ?_
                                refine va_iald hx hb hK hP 27 0 fk_at27 rfl (vp_in_nI (show 8 + u < 16 from (by omega)) (by decide)) dL_wakes_408 ?_
                                refine W.eq (g2 := F0 m 409 ls [.int (P (8 + u))]) (by rw [nI_clamp (by omega)]) ?_
                                refine W.eq (g2 := F0 m 409 ls [.int (S 4 u)]) (by rw [show (P (8 + u)) = (S 4 u) from (kq_mask hG.1 hu9 hs1).1]) ?_
                                refine lv_iload hx hb dL_wakes_409 (lv_at hl 9 rfl) ?_
                                refine lv_iand hx hb dL_wakes_411 ?_
                                refine lv_if_eq (tgt := 434) hx hb dL_wakes_412 (by decide) (fun c_194 => absurd c_194 hft) (fun c_194 => ?_)
                                refine lv_lload hx hb dL_wakes_415 (lv_at hl 3 rfl) ?_
                                refine lv_iload hx hb dL_wakes_417 (lv_at hl 0 rfl) ?_
                                refine lv_i2l hx hb dL_wakes_419 rfl ?_
                                refine lv_iconst (v := 4) hx hb dL_wakes_420 (by decide) ?_
                                refine lv_iload hx hb dL_wakes_421 (lv_at hl 2 rfl) ?_
                                refine lv_imul hx hb dL_wakes_423 ?_
                                refine W.eq (g2 := F0 m 424 ls [.int (nI (4 * F.length)), .long ((nI u).toInt64), .long (lN (pl_pk F))]) (by rw [show (4 : Int32) = nI 4 from rfl, pk_mul]) ?_
                                refine lv_lshl hx hb dL_wakes_424 rfl ?_
                                refine lv_lor hx hb dL_wakes_425 ?_
                                refine W.eq (g2 := F0 m 426 ls [.long (lN (pl_pk (F ++ [u])))]) (by rw [pl_put hF8 (by omega) hu9]) ?_
                                refine lv_lstore (lv' := [(16, .long (lN (pl_pk (F ++ [u])))), (21, .int (nI u)), (20, .int (nI k)), (14, .int (nI F.length)), (15, .int (nI c2)), (18, .long f2), (13, .int (pl_last S)), (12, .int 0), (11, .int 0), (10, .int 255), (9, .int (nI v9)), (8, .int (nI w9)), (7, .int (nI b)), (6, .int (nI a)), (5, .int (nI t)), (4, .int 1), (0, .ref (ad 0)), (2, .int y), (3, .int od), (1, .ref q)]) hx hb dL_wakes_426 hl (by decide) rfl (fun ls hl => ?_)
                                refine lv_iinc (v := (nI (F.length + 1))) (lv' := [(14, .int (nI (F.length + 1))), (16, .long (lN (pl_pk (F ++ [u])))), (21, .int (nI u)), (20, .int (nI k)), (15, .int (nI c2)), (18, .long f2), (13, .int (pl_last S)), (12, .int 0), (11, .int 0), (10, .int 255), (9, .int (nI v9)), (8, .int (nI w9)), (7, .int (nI b)), (6, .int (nI a)), (5, .int (nI t)), (4, .int 1), (0, .ref (ad 0)), (2, .int y), (3, .int od), (1, .ref q)]) hx hb dL_wakes_428 hl (k := 3) rfl (nI_1 F.length) (by decide) rfl (fun ls hl => ?_)
                                refine lv_goto (tgt := 479) hx hb dL_wakes_431 (by decide) ?_
                                refine lv_iinc (v := (nI (k + 1))) (lv' := [(20, .int (nI (k + 1))), (14, .int (nI (F.length + 1))), (16, .long (lN (pl_pk (F ++ [u])))), (21, .int (nI u)), (15, .int (nI c2)), (18, .long f2), (13, .int (pl_last S)), (12, .int 0), (11, .int 0), (10, .int 255), (9, .int (nI v9)), (8, .int (nI w9)), (7, .int (nI b)), (6, .int (nI a)), (5, .int (nI t)), (4, .int 1), (0, .ref (ad 0)), (2, .int y), (3, .int od), (1, .ref q)]) hx hb dL_wakes_479 hl (k := 3) rfl (nI_1 k) (by decide) rfl (fun ls hl => ?_)
                                refine lv_goto (tgt := 354) hx hb dL_wakes_482 (by decide) ?_
                                exact ih1 (k + 1) (F ++ [u]) (F.length + 1) (lN (pl_pk (F ++ [u]))) c2 f2 (by omega) hF9 (by rw [hTu, List.length_append]; rfl) (by rw [hTu]) (by rw [hc2, hD0, hD1]) (by rw [hf2, hD0, hD1]) _ _ _ hP hD hS (lv_sub hl [0, 1, 2, 4, 5, 6, 7, 8, 9, 10, 11, 12, 13, 14, 15, 16, 17, 18, 19] rfl)
                              · have hcw : c1 = w9 := by rw [hc1, List.length_take]; omega
                                have hTb : (F ++ [u]).take w9 = F.take w9 := List.take_append_of_le_length (by omega)
                                have hl : lv_has ls 29 [(21, .int (nI u)), (20, .int (nI k)), (14, .int (nI w9)), (16, .long f1), (15, .int (nI c2)), (18, .long f2), (13, .int (pl_last S)), (12, .int 0), (11, .int 0), (10, .int 255), (9, .int (nI v9)), (8, .int (nI w9)), (7, .int (nI b)), (6, .int (nI a)), (5, .int (nI t)), (4, .int 1), (0, .ref (ad 0)), (2, .int y), (3, .int od), (1, .ref q)] := by rw [hcw] at hl; exact hl
                                have hDb : (F ++ [u]).drop w9 = F.drop w9 ++ [u] := List.drop_append_of_le_length (by omega)
                                have hDl : (F.drop w9).length ≤ 8 := by rw [List.length_drop]; omega
                                by_cases hl2 : (F.drop w9).length < v9
                                · have hTd : (F.drop w9).take v9 = F.drop w9 := List.take_of_length_le (by omega)
                                  have hTv : (F.drop w9 ++ [u]).take v9 = F.drop w9 ++ [u] := List.take_of_length_le (by rw [List.length_append]; simp only [List.length_cons, List.length_nil]; omega)
                                  rw [hTd] at hc2 hf2
                                  have hl : lv_has ls 29 [(21, .int (nI u)), (20, .int (nI k)), (14, .int (nI w9)), (16, .long f1), (15, .int (nI ((F.drop w9).length))), (18, .long (lN (pl_pk (F.drop w9)))), (13, .int (pl_last S)), (12, .int 0), (11, .int 0), (10, .int 255), (9, .int (nI v9)), (8, .int (nI w9)), (7, .int (nI b)), (6, .int (nI a)), (5, .int (nI t)), (4, .int 1), (0, .ref (ad 0)), (2, .int y), (3, .int od), (1, .ref q)] := by rw [hc2, hf2] at hl; exact hl
                                  refine lv_aload_n hx hb dL_wakes_385 rfl (lv_at hl 16 rfl) ?_
                                  refine lv_iload hx hb dL_wakes_386 (lv_at hl 0 rfl) ?_
                                  refine fk_callV (As := [.int (nI u)]) (rest := []) ⟨hx, hb, hml, hown, hts⟩ (kc_stateOf l D ad cI cT cJ _ S u hu9) (cwV 1 hts gL_wakes_X2_stateOf rfl rfl rfl (by decide +kernel) ⟨Nat.le_of_ble_eq_true rfl, Nat.le_of_ble_eq_true rfl⟩) (fk_rvK hK hP) hK hP hD hS hA rfl hl.1 rfl (Nat.le_of_ble_eq_true rfl) dL_wakes_388 ⟨Nat.le_of_ble_eq_true rfl, Nat.le_of_ble_eq_true rfl⟩ (fun H locs hP hD hS => ?_)
                                  refine W.eq (g2 := F0 m 391 ls [.int (S 1 u)]) rfl ?_
                                  refine W.eq (g2 := F0 m 391 ls [.int 1]) (by rw [show (S 1 u) = (1 : Int32) from hs1]) ?_
                                  refine lv_iconst (v := 1) hx hb dL_wakes_391 (by decide) ?_
                                  refine lv_icmp_ne (tgt := 434) hx hb dL_wakes_392 (by decide) (fun c => absurd c (by decide)) (fun _ => ?_)
                                  refine lv_iload hx hb dL_wakes_395 (lv_at hl 2 rfl) ?_
                                  refine lv_iload hx hb dL_wakes_397 (lv_at hl 11 rfl) ?_
                                  refine lv_icmp_ge (tgt := 434) hx hb dL_wakes_399 (by decide) (fun c_196 => ?_) (fun c9 => absurd (nI_le (Nat.le_refl w9) (by omega)) c9)
                                  refine lv_aload_n hx hb dL_wakes_434 rfl (lv_at hl 16 rfl) ?_
                                  refine lv_iload hx hb dL_wakes_435 (lv_at hl 0 rfl) ?_
                                  refine fk_callV (As := [.int (nI u)]) (rest := []) ⟨hx, hb, hml, hown, hts⟩ (kc_stateOf l D ad cI cT cJ _ S u hu9) (cwV 1 hts gL_wakes_X2_stateOf rfl rfl rfl (by decide +kernel) ⟨Nat.le_of_ble_eq_true rfl, Nat.le_of_ble_eq_true rfl⟩) (fk_rvK hK hP) hK hP hD hS hA rfl hl.1 rfl (Nat.le_of_ble_eq_true rfl) dL_wakes_437 ⟨Nat.le_of_ble_eq_true rfl, Nat.le_of_ble_eq_true rfl⟩ (fun H locs hP hD hS => ?_)
                                  refine W.eq (g2 := F0 m 440 ls [.int (S 1 u)]) rfl ?_
                                  refine W.eq (g2 := F0 m 440 ls [.int 1]) (by rw [show (S 1 u) = (1 : Int32) from hs1]) ?_
                                  refine lv_iconst (v := 1) hx hb dL_wakes_440 (by decide) ?_
                                  refine lv_icmp_ne (tgt := 479) hx hb dL_wakes_441 (by decide) (fun c => absurd c (by decide)) (fun _ => ?_)
                                  refine lv_iload hx hb dL_wakes_444 (lv_at hl 15 rfl) ?_
                                  refine lv_if_eq (tgt := 479) hx hb dL_wakes_446 (by decide) (fun c => absurd c (by decide)) (fun _ => ?_)
                                  refine lv_iload hx hb dL_wakes_449 (lv_at hl 2 rfl) ?_
                                  refine lv_iload hx hb dL_wakes_451 (lv_at hl 11 rfl) ?_
                                  refine lv_icmp_ne (tgt := 479) hx hb dL_wakes_453 (by decide) (fun c => absurd rfl c) (fun _ => ?_)
                                  refine lv_iload hx hb dL_wakes_456 (lv_at hl 4 rfl) ?_
                                  refine lv_iload hx hb dL_wakes_458 (lv_at hl 10 rfl) ?_
                                  refine lv_icmp_ge (tgt := 479) hx hb dL_wakes_460 (by decide) (fun c_199 => absurd c_199 (nI_ge (a := (F.drop w9).length) (b := v9) hl2 (by omega))) (fun c_199 => ?_)
                                  refine lv_lload hx hb dL_wakes_463 (lv_at hl 5 rfl) ?_
                                  refine lv_iload hx hb dL_wakes_465 (lv_at hl 0 rfl) ?_
                                  refine lv_i2l hx hb dL_wakes_467 rfl ?_
                                  refine lv_iconst (v := 4) hx hb dL_wakes_468 (by decide) ?_
                                  refine lv_iload hx hb dL_wakes_469 (lv_at hl 4 rfl) ?_
                                  refine lv_imul hx hb dL_wakes_471 ?_
                                  refine W.eq (g2 := F0 m 472 ls [.int (nI (4 * ((F.drop w9).length))), .long ((nI u).toInt64), .long (lN (pl_pk (F.drop w9)))]) (by rw [show (4 : Int32) = nI 4 from rfl, pk_mul]) ?_
                                  refine lv_lshl hx hb dL_wakes_472 rfl ?_
                                  refine lv_lor hx hb dL_wakes_473 ?_
                                  refine W.eq (g2 := F0 m 474 ls [.long (lN (pl_pk (F.drop w9 ++ [u])))]) (by rw [pl_put (fun z hz => hF8 z (List.mem_of_mem_drop hz)) (by omega) hu9]) ?_
                                  refine lv_lstore (lv' := [(18, .long (lN (pl_pk (F.drop w9 ++ [u])))), (21, .int (nI u)), (20, .int (nI k)), (14, .int (nI w9)), (16, .long f1), (15, .int (nI ((F.drop w9).length))), (13, .int (pl_last S)), (12, .int 0), (11, .int 0), (10, .int 255), (9, .int (nI v9)), (8, .int (nI w9)), (7, .int (nI b)), (6, .int (nI a)), (5, .int (nI t)), (4, .int 1), (0, .ref (ad 0)), (2, .int y), (3, .int od), (1, .ref q)]) hx hb dL_wakes_474 hl (by decide) rfl (fun ls hl => ?_)
                                  refine lv_iinc (v := (nI ((F.drop w9).length + 1))) (lv' := [(15, .int (nI ((F.drop w9).length + 1))), (18, .long (lN (pl_pk (F.drop w9 ++ [u])))), (21, .int (nI u)), (20, .int (nI k)), (14, .int (nI w9)), (16, .long f1), (13, .int (pl_last S)), (12, .int 0), (11, .int 0), (10, .int 255), (9, .int (nI v9)), (8, .int (nI w9)), (7, .int (nI b)), (6, .int (nI a)), (5, .int (nI t)), (4, .int 1), (0, .ref (ad 0)), (2, .int y), (3, .int od), (1, .ref q)]) hx hb dL_wakes_476 hl (k := 5) rfl (nI_1 ((F.drop w9).length)) (by decide) rfl (fun ls hl => ?_)
                                  refine lv_iinc (v := (nI (k + 1))) (lv' := [(20, .int (nI (k + 1))), (15, .int (nI ((F.drop w9).length + 1))), (18, .long (lN (pl_pk (F.drop w9 ++ [u])))), (21, .int (nI u)), (14, .int (nI w9)), (16, .long f1), (13, .int (pl_last S)), (12, .int 0), (11, .int 0), (10, .int 255), (9, .int (nI v9)), (8, .int (nI w9)), (7, .int (nI b)), (6, .int (nI a)), (5, .int (nI t)), (4, .int 1), (0, .ref (ad 0)), (2, .int y), (3, .int od), (1, .ref q)]) hx hb dL_wakes_479 hl (k := 3) rfl (nI_1 k) (by decide) rfl (fun ls hl => ?_)
                                  refine lv_goto (tgt := 354) hx hb dL_wakes_482 (by decide) ?_
                                  exact ih1 (k + 1) (F ++ [u]) w9 f1 ((F.drop w9).length + 1) (lN (pl_pk (F.drop w9 ++ [u]))) (by omega) hF9 (by rw [hTb, ← hc1, hcw]) (by rw [hTb]; exact hf1) (by rw [hDb, hTv, List.length_append]; rfl) (by rw [hDb, hTv]) _ _ _ hP hD hS (lv_sub hl [0, 4, 5, 1, 2, 6, 7, 8, 9, 10, 11, 12, 13, 14, 15, 16, 17, 18, 19] rfl)
                                · have hcv : c2 = v9 := by rw [hc2, List.length_take]; omega
                                  have hTv : (F.drop w9 ++ [u]).take v9 = (F.drop w9).take v9 := List.take_append_of_le_length (by omega)
                                  have hl : lv_has ls 29 [(21, .int (nI u)), (20, .int (nI k)), (14, .int (nI w9)), (16, .long f1), (15, .int (nI v9)), (18, .long f2), (13, .int (pl_last S)), (12, .int 0), (11, .int 0), (10, .int 255), (9, .int (nI v9)), (8, .int (nI w9)), (7, .int (nI b)), (6, .int (nI a)), (5, .int (nI t)), (4, .int 1), (0, .ref (ad 0)), (2, .int y), (3, .int od), (1, .ref q)] := by rw [hcv] at hl; exact hl
                                  refine lv_aload_n hx hb dL_wakes_385 rfl (lv_at hl 16 rfl) ?_
                                  refine lv_iload hx hb dL_wakes_386 (lv_at hl 0 rfl) ?_
                                  refine fk_callV (As := [.int (nI u)]) (rest := []) ⟨hx, hb, hml, hown, hts⟩ (kc_stateOf l D ad cI cT cJ _ S u hu9) (cwV 1 hts gL_wakes_X2_stateOf rfl rfl rfl (by decide +kernel) ⟨Nat.le_of_ble_eq_true rfl, Nat.le_of_ble_eq_true rfl⟩) (fk_rvK hK hP) hK hP hD hS hA rfl hl.1 rfl (Nat.le_of_ble_eq_true rfl) dL_wakes_388 ⟨Nat.le_of_ble_eq_true rfl, Nat.le_of_ble_eq_true rfl⟩ (fun H locs hP hD hS => ?_)
                                  refine W.eq (g2 := F0 m 391 ls [.int (S 1 u)]) rfl ?_
                                  refine W.eq (g2 := F0 m 391 ls [.int 1]) (by rw [show (S 1 u) = (1 : Int32) from hs1]) ?_
                                  refine lv_iconst (v := 1) hx hb dL_wakes_391 (by decide) ?_
                                  refine lv_icmp_ne (tgt := 434) hx hb dL_wakes_392 (by decide) (fun c => absurd c (by decide)) (fun _ => ?_)
                                  refine lv_iload hx hb dL_wakes_395 (lv_at hl 2 rfl) ?_
                                  refine lv_iload hx hb dL_wakes_397 (lv_at hl 11 rfl) ?_
                                  refine lv_icmp_ge (tgt := 434) hx hb dL_wakes_399 (by decide) (fun c_201 => ?_) (fun c9 => absurd (nI_le (Nat.le_refl w9) (by omega)) c9)
                                  refine lv_aload_n hx hb dL_wakes_434 rfl (lv_at hl 16 rfl) ?_
                                  refine lv_iload hx hb dL_wakes_435 (lv_at hl 0 rfl) ?_
                                  refine fk_callV (As := [.int (nI u)]) (rest := []) ⟨hx, hb, hml, hown, hts⟩ (kc_stateOf l D ad cI cT cJ _ S u hu9) (cwV 1 hts gL_wakes_X2_stateOf rfl rfl rfl (by decide +kernel) ⟨Nat.le_of_ble_eq_true rfl, Nat.le_of_ble_eq_true rfl⟩) (fk_rvK hK hP) hK hP hD hS hA rfl hl.1 rfl (Nat.le_of_ble_eq_true rfl) dL_wakes_437 ⟨Nat.le_of_ble_eq_true rfl, Nat.le_of_ble_eq_true rfl⟩ (fun H locs hP hD hS => ?_)
                                  refine W.eq (g2 := F0 m 440 ls [.int (S 1 u)]) rfl ?_
                                  refine W.eq (g2 := F0 m 440 ls [.int 1]) (by rw [show (S 1 u) = (1 : Int32) from hs1]) ?_
                                  refine lv_iconst (v := 1) hx hb dL_wakes_440 (by decide) ?_
                                  refine lv_icmp_ne (tgt := 479) hx hb dL_wakes_441 (by decide) (fun c => absurd c (by decide)) (fun _ => ?_)
                                  refine lv_iload hx hb dL_wakes_444 (lv_at hl 15 rfl) ?_
                                  refine lv_if_eq (tgt := 479) hx hb dL_wakes_446 (by decide) (fun c => absurd c (by decide)) (fun _ => ?_)
                                  refine lv_iload hx hb dL_wakes_449 (lv_at hl 2 rfl) ?_
                                  refine lv_iload hx hb dL_wakes_451 (lv_at hl 11 rfl) ?_
                                  refine lv_icmp_ne (tgt := 479) hx hb dL_wakes_453 (by decide) (fun c => absurd rfl c) (fun _ => ?_)
                                  refine lv_iload hx hb dL_wakes_456 (lv_at hl 4 rfl) ?_
                                  refine lv_iload hx hb dL_wakes_458 (lv_at hl 10 rfl) ?_
                                  refine lv_icmp_ge (tgt := 479) hx hb dL_wakes_460 (by decide) (fun c_204 => ?_) (fun c9 => absurd (nI_le (Nat.le_refl v9) (by omega)) c9)
                                  refine lv_iinc (v := (nI (k + 1))) (lv' := [(20, .int (nI (k + 1))), (21, .int (nI u)), (14, .int (nI w9)), (16, .long f1), (15, .int (nI v9)), (18, .long f2), (13, .int (pl_last S)), (12, .int 0), (11, .int 0), (10, .int 255), (9, .int (nI v9)), (8, .int (nI w9)), (7, .int (nI b)), (6, .int (nI a)), (5, .int (nI t)), (4, .int 1), (0, .ref (ad 0)), (2, .int y), (3, .int od), (1, .ref q)]) hx hb dL_wakes_479 hl (k := 1) rfl (nI_1 k) (by decide) rfl (fun ls hl => ?_)
                                  refine lv_goto (tgt := 354) hx hb dL_wakes_482 (by decide) ?_
                                  exact ih1 (k + 1) (F ++ [u]) w9 f1 v9 f2 (by omega) hF9 (by rw [hTb, ← hc1, hcw]) (by rw [hTb]; exact hf1) (by rw [hDb, hTv, ← hc2, hcv]) (by rw [hDb, hTv]; exact hf2) _ _ _ hP hD hS (lv_sub hl [0, 2, 3, 4, 5, 6, 7, 8, 9, 10, 11, 12, 13, 14, 15, 16, 17, 18, 19] rfl)
                            · have hF9 := hF0 (by rw [decide_eq_false hs1]; rfl)
                              refine lv_aload_n hx hb dL_wakes_385 rfl (lv_at hl 16 rfl) ?_
                              refine lv_iload hx hb dL_wakes_386 (lv_at hl 0 rfl) ?_
                              refine fk_callV (As := [.int (nI u)]) (rest := []) ⟨hx, hb, hml, hown, hts⟩ (kc_stateOf l D ad cI cT cJ _ S u hu9) (cwV 1 hts gL_wakes_X2_stateOf rfl rfl rfl (by decide +kernel) ⟨Nat.le_of_ble_eq_true rfl, Nat.le_of_ble_eq_true rfl⟩) (fk_rvK hK hP) hK hP hD hS hA rfl hl.1 rfl (Nat.le_of_ble_eq_true rfl) dL_wakes_388 ⟨Nat.le_of_ble_eq_true rfl, Nat.le_of_ble_eq_true rfl⟩ (fun H locs hP hD hS => ?_)
                              refine W.eq (g2 := F0 m 391 ls [.int (S 1 u)]) rfl ?_
                              refine lv_iconst (v := 1) hx hb dL_wakes_391 (by decide) ?_
                              refine lv_icmp_ne (tgt := 434) hx hb dL_wakes_392 (by decide) (fun c_205 => ?_) (fun c9 => absurd c9 hs1)
                              refine lv_aload_n hx hb dL_wakes_434 rfl (lv_at hl 16 rfl) ?_
                              refine lv_iload hx hb dL_wakes_435 (lv_at hl 0 rfl) ?_
                              refine fk_callV (As := [.int (nI u)]) (rest := []) ⟨hx, hb, hml, hown, hts⟩ (kc_stateOf l D ad cI cT cJ _ S u hu9) (cwV 1 hts gL_wakes_X2_stateOf rfl rfl rfl (by decide +kernel) ⟨Nat.le_of_ble_eq_true rfl, Nat.le_of_ble_eq_true rfl⟩) (fk_rvK hK hP) hK hP hD hS hA rfl hl.1 rfl (Nat.le_of_ble_eq_true rfl) dL_wakes_437 ⟨Nat.le_of_ble_eq_true rfl, Nat.le_of_ble_eq_true rfl⟩ (fun H locs hP hD hS => ?_)
                              refine W.eq (g2 := F0 m 440 ls [.int (S 1 u)]) rfl ?_
                              refine lv_iconst (v := 1) hx hb dL_wakes_440 (by decide) ?_
                              refine lv_icmp_ne (tgt := 479) hx hb dL_wakes_441 (by decide) (fun c_206 => ?_) (fun c9 => absurd c9 hs1)
                              refine lv_iinc (v := (nI (k + 1))) (lv' := [(20, .int (nI (k + 1))), (21, .int (nI u)), (14, .int (nI c1)), (16, .long f1), (15, .int (nI c2)), (18, .long f2), (13, .int (pl_last S)), (12, .int 0), (11, .int 0), (10, .int 255), (9, .int (nI v9)), (8, .int (nI w9)), (7, .int (nI b)), (6, .int (nI a)), (5, .int (nI t)), (4, .int 1), (0, .ref (ad 0)), (2, .int y), (3, .int od), (1, .ref q)]) hx hb dL_wakes_479 hl (k := 1) rfl (nI_1 k) (by decide) rfl (fun ls hl => ?_)
                              refine lv_goto (tgt := 354) hx hb dL_wakes_482 (by decide) ?_
                              exact ih1 (k + 1) F c1 f1 c2 f2 (by omega) hF9 hc1 hf1 hc2 hf2 _ _ _ hP hD hS (lv_sub hl [0, 2, 3, 4, 5, 6, 7, 8, 9, 10, 11, 12, 13, 14, 15, 16, 17, 18, 19] rfl)
                        exact loop1 (kq_A S a).length 0 [] 0 0 0 0 (by omega) (by rw [List.nil_append]; rfl) (by rw [List.take_nil]; rfl) (by rw [List.take_nil]; rfl) (by rw [List.drop_nil, List.take_nil]; rfl) (by rw [List.drop_nil, List.take_nil]; rfl) _ _ _ hP hD hS (lv_sub hl [0, 4, 2, 3, 1, 5, 6, 7, 8, 9, 10, 11, 12, 13, 14, 15, 17, 18, 16] rfl)
                    · have hbad8 : (!decide (nI a = nI b) && (fk_btw ms 0 8 && fk_btw fu 0 8)) = false := Bool.eq_false_iff.mpr hbad
                      have hbad9 : bv = 1 := by rw [h_bv, hbad8]; rfl
                      have hl : lv_has ls 29 [(12, .int 1), (11, .int 0), (10, .int 255), (9, .int fu), (8, .int ms), (7, .int (nI b)), (6, .int (nI a)), (5, .int (nI t)), (4, .int 1), (0, .ref (ad 0)), (1, .ref q), (2, .int y), (3, .int od)] := by rw [hbad9] at hl; exact hl
                      refine lv_aload_n hx hb dL_wakes_333 rfl (lv_at hl 9 rfl) ?_
                      refine fk_callS (As := [.ref (ad 0)]) (rest := []) ⟨hx, hb, hml, hown, hts⟩ (kl_last l D ad cI cT cJ _ S) (va_cwS 1 hts gL_wakes_L_last rfl rfl rfl (by decide +kernel) ⟨Nat.le_of_ble_eq_true rfl, Nat.le_of_ble_eq_true rfl⟩) hK hP hD hS hA rfl hl.1 rfl (Nat.le_of_ble_eq_true rfl) dL_wakes_334 ⟨Nat.le_of_ble_eq_true rfl, Nat.le_of_ble_eq_true rfl⟩ (fun H locs hP hD hS => ?_)
                      refine W.eq (g2 := F0 m 337 ls [.int (pl_last S)]) rfl ?_
                      refine lv_istore (lv' := [(13, .int (pl_last S)), (12, .int 1), (11, .int 0), (10, .int 255), (9, .int fu), (8, .int ms), (7, .int (nI b)), (6, .int (nI a)), (5, .int (nI t)), (4, .int 1), (0, .ref (ad 0)), (1, .ref q), (2, .int y), (3, .int od)]) hx hb dL_wakes_337 hl (by decide) rfl (fun ls hl => ?_)
                      refine lv_iconst (v := 0) hx hb dL_wakes_339 (by decide) ?_
                      refine lv_istore (lv' := [(14, .int 0), (13, .int (pl_last S)), (12, .int 1), (11, .int 0), (10, .int 255), (9, .int fu), (8, .int ms), (7, .int (nI b)), (6, .int (nI a)), (5, .int (nI t)), (4, .int 1), (0, .ref (ad 0)), (1, .ref q), (2, .int y), (3, .int od)]) hx hb dL_wakes_340 hl (by decide) rfl (fun ls hl => ?_)
                      refine lv_iconst (v := 0) hx hb dL_wakes_342 (by decide) ?_
                      refine lv_istore (lv' := [(15, .int 0), (14, .int 0), (13, .int (pl_last S)), (12, .int 1), (11, .int 0), (10, .int 255), (9, .int fu), (8, .int ms), (7, .int (nI b)), (6, .int (nI a)), (5, .int (nI t)), (4, .int 1), (0, .ref (ad 0)), (1, .ref q), (2, .int y), (3, .int od)]) hx hb dL_wakes_343 hl (by decide) rfl (fun ls hl => ?_)
                      refine lv_lconst (v := 0) hx hb dL_wakes_345 (by decide) ?_
                      refine lv_lstore (lv' := [(16, .long 0), (15, .int 0), (14, .int 0), (13, .int (pl_last S)), (12, .int 1), (11, .int 0), (10, .int 255), (9, .int fu), (8, .int ms), (7, .int (nI b)), (6, .int (nI a)), (5, .int (nI t)), (4, .int 1), (0, .ref (ad 0)), (1, .ref q), (2, .int y), (3, .int od)]) hx hb dL_wakes_346 hl (by decide) rfl (fun ls hl => ?_)
                      refine lv_lconst (v := 0) hx hb dL_wakes_348 (by decide) ?_
                      refine lv_lstore (lv' := [(18, .long 0), (16, .long 0), (15, .int 0), (14, .int 0), (13, .int (pl_last S)), (12, .int 1), (11, .int 0), (10, .int 255), (9, .int fu), (8, .int ms), (7, .int (nI b)), (6, .int (nI a)), (5, .int (nI t)), (4, .int 1), (0, .ref (ad 0)), (1, .ref q), (2, .int y), (3, .int od)]) hx hb dL_wakes_349 hl (by decide) rfl (fun ls hl => ?_)
                      refine lv_iconst (v := 0) hx hb dL_wakes_351 (by decide) ?_
                      refine lv_istore (lv' := [(20, .int 0), (18, .long 0), (16, .long 0), (15, .int 0), (14, .int 0), (13, .int (pl_last S)), (12, .int 1), (11, .int 0), (10, .int 255), (9, .int fu), (8, .int ms), (7, .int (nI b)), (6, .int (nI a)), (5, .int (nI t)), (4, .int 1), (0, .ref (ad 0)), (1, .ref q), (2, .int y), (3, .int od)]) hx hb dL_wakes_352 hl (by decide) rfl (fun ls hl => ?_)
                      refine lv_iload hx hb dL_wakes_354 (lv_at hl 7 rfl) ?_
                      refine lv_if_ne (tgt := 485) hx hb dL_wakes_356 (by decide) (fun c => absurd c (by decide)) (fun _ => ?_)
                      refine lv_iload hx hb dL_wakes_359 (lv_at hl 6 rfl) ?_
                      refine lv_if_ne (tgt := 485) hx hb dL_wakes_361 (by decide) (fun _ => ?_) (fun c => absurd c (by decide))
                      refine lv_aload_n hx hb dL_wakes_485 rfl (lv_at hl 15 rfl) ?_
                      refine lv_iconst (v := (-1)) hx hb dL_wakes_486 (by decide) ?_
                      refine fk_callS (As := [.ref (ad 0), .int (-1)]) (rest := []) ⟨hx, hb, hml, hown, hts⟩ (kl_threads l D ad cI cT cJ _ S hG.1.sz hG.1.J (-1)) (va_cwS 2 hts gL_wakes_L_threads rfl rfl rfl (by decide +kernel) ⟨Nat.le_of_ble_eq_true rfl, Nat.le_of_ble_eq_true rfl⟩) hK hP hD hS hA rfl hl.1 rfl (Nat.le_of_ble_eq_true rfl) dL_wakes_487 ⟨Nat.le_of_ble_eq_true rfl, Nat.le_of_ble_eq_true rfl⟩ (fun H locs hP hD hS => ?_)
                      refine W.eq (g2 := F0 m 490 ls [.long (pl_thr S (-1))]) rfl ?_
                      refine lv_lstore (lv' := [(20, .long (pl_thr S (-1))), (18, .long 0), (16, .long 0), (15, .int 0), (14, .int 0), (13, .int (pl_last S)), (12, .int 1), (11, .int 0), (10, .int 255), (9, .int fu), (8, .int ms), (7, .int (nI b)), (6, .int (nI a)), (5, .int (nI t)), (4, .int 1), (0, .ref (ad 0)), (1, .ref q), (2, .int y), (3, .int od)]) hx hb dL_wakes_490 hl (by decide) rfl (fun ls hl => ?_)
                      refine lv_iload hx hb dL_wakes_492 (lv_at hl 7 rfl) ?_
                      refine lv_if_eq (tgt := 501) hx hb dL_wakes_494 (by decide) (fun _ => ?_) (fun c => absurd c (by decide))
                      refine lv_aload_n hx hb dL_wakes_501 rfl (lv_at hl 15 rfl) ?_
                      refine lv_iload hx hb dL_wakes_502 (lv_at hl 12 rfl) ?_
                      refine fk_callV (As := [.int (nI a)]) (rest := []) ⟨hx, hb, hml, hown, hts⟩ (kc_word l D ad cI cT cJ _ S a ha) (cwV 1 hts gL_wakes_X2_word rfl rfl rfl (by decide +kernel) ⟨Nat.le_of_ble_eq_true rfl, Nat.le_of_ble_eq_true rfl⟩) (fk_rvK hK hP) hK hP hD hS hA rfl hl.1 rfl (Nat.le_of_ble_eq_true rfl) dL_wakes_504 ⟨Nat.le_of_ble_eq_true rfl, Nat.le_of_ble_eq_true rfl⟩ (fun H locs hP hD hS => ?_)
                      refine W.eq (g2 := F0 m 507 ls [.int (S 0 a)]) rfl ?_
                      refine lv_istore (lv' := [(22, .int (S 0 a)), (20, .long (pl_thr S (-1))), (18, .long 0), (16, .long 0), (15, .int 0), (14, .int 0), (13, .int (pl_last S)), (12, .int 1), (11, .int 0), (10, .int 255), (9, .int fu), (8, .int ms), (7, .int (nI b)), (6, .int (nI a)), (5, .int (nI t)), (4, .int 1), (0, .ref (ad 0)), (1, .ref q), (2, .int y), (3, .int od)]) hx hb dL_wakes_507 hl (by decide) rfl (fun ls hl => ?_)
                      refine lv_iload hx hb dL_wakes_509 (lv_at hl 8 rfl) ?_
                      refine lv_if_ne (tgt := 532) hx hb dL_wakes_511 (by decide) (fun c => absurd c (by decide)) (fun _ => ?_)
                      refine lv_iload hx hb dL_wakes_514 (lv_at hl 7 rfl) ?_
                      refine lv_if_ne (tgt := 532) hx hb dL_wakes_516 (by decide) (fun _ => ?_) (fun c => absurd c (by decide))
                      refine lv_iconst (v := 0) hx hb dL_wakes_532 (by decide) ?_
                      refine lv_istore (lv' := [(23, .int 0), (22, .int (S 0 a)), (20, .long (pl_thr S (-1))), (18, .long 0), (16, .long 0), (15, .int 0), (14, .int 0), (13, .int (pl_last S)), (12, .int 1), (11, .int 0), (10, .int 255), (9, .int fu), (8, .int ms), (7, .int (nI b)), (6, .int (nI a)), (5, .int (nI t)), (4, .int 1), (0, .ref (ad 0)), (1, .ref q), (2, .int y), (3, .int od)]) hx hb dL_wakes_533 hl (by decide) rfl (fun ls hl => ?_)
                      refine lv_iload hx hb dL_wakes_535 (lv_at hl 16 rfl) ?_
                      refine lv_if_eq (tgt := 566) hx hb dL_wakes_537 (by decide) (fun c => absurd c (by decide)) (fun _ => ?_)
                      refine lv_iload hx hb dL_wakes_540 (lv_at hl 0 rfl) ?_
                      refine lv_if_eq (tgt := 566) hx hb dL_wakes_542 (by decide) (fun _ => ?_) (fun c => absurd c (by decide))
                      refine lv_iconst (v := (-1)) hx hb dL_wakes_566 (by decide) ?_
                      refine lv_istore (lv' := [(24, .int (-1)), (23, .int 0), (22, .int (S 0 a)), (20, .long (pl_thr S (-1))), (18, .long 0), (16, .long 0), (15, .int 0), (14, .int 0), (13, .int (pl_last S)), (12, .int 1), (11, .int 0), (10, .int 255), (9, .int fu), (8, .int ms), (7, .int (nI b)), (6, .int (nI a)), (5, .int (nI t)), (4, .int 1), (0, .ref (ad 0)), (1, .ref q), (2, .int y), (3, .int od)]) hx hb dL_wakes_567 hl (by decide) rfl (fun ls hl => ?_)
                      refine lv_iload hx hb dL_wakes_569 (lv_at hl 0 rfl) ?_
                      refine lv_iconst (v := (-1)) hx hb dL_wakes_571 (by decide) ?_
                      refine lv_icmp_ne (tgt := 586) hx hb dL_wakes_572 (by decide) (fun c => absurd c (by decide)) (fun _ => ?_)
                      refine lv_aload_n hx hb dL_wakes_575 rfl (lv_at hl 18 rfl) ?_
                      refine lv_iconst (v := (-1)) hx hb dL_wakes_576 (by decide) ?_
                      refine fk_callS (As := [.ref (ad 0), .int (-1)]) (rest := []) ⟨hx, hb, hml, hown, hts⟩ (kl_threads l D ad cI cT cJ _ S hG.1.sz hG.1.J (-1)) (va_cwS 2 hts gL_wakes_L_threads rfl rfl rfl (by decide +kernel) ⟨Nat.le_of_ble_eq_true rfl, Nat.le_of_ble_eq_true rfl⟩) hK hP hD hS hA rfl hl.1 rfl (Nat.le_of_ble_eq_true rfl) dL_wakes_577 ⟨Nat.le_of_ble_eq_true rfl, Nat.le_of_ble_eq_true rfl⟩ (fun H locs hP hD hS => ?_)
                      refine W.eq (g2 := F0 m 580 ls [.long (pl_thr S (-1))]) rfl ?_
                      refine lv_lload hx hb dL_wakes_580 (lv_at hl 3 rfl) ?_
                      refine W.lcmp hx hb dL_wakes_582 ?_
                      refine W.eq (g2 := F0 m 583 ls [.int 0]) (by rw [fk_cmp_self]) ?_
                      refine lv_if_eq (tgt := 588) hx hb dL_wakes_583 (by decide) (fun _ => ?_) (fun c => absurd c (by decide))
                      refine lv_iload hx hb dL_wakes_588 (lv_at hl 17 rfl) ?_
                      refine lv_if_eq (tgt := 612) hx hb dL_wakes_590 (by decide) (fun c => absurd c (by decide)) (fun _ => ?_)
                      refine lv_aload_n hx hb dL_wakes_593 rfl (lv_at hl 18 rfl) ?_
                      refine lv_iload hx hb dL_wakes_594 (lv_at hl 16 rfl) ?_
                      refine lv_iload hx hb dL_wakes_596 (lv_at hl 15 rfl) ?_
                      refine lv_iload hx hb dL_wakes_598 (lv_at hl 2 rfl) ?_
                      refine lv_iload hx hb dL_wakes_600 (lv_at hl 13 rfl) ?_
                      refine lv_iload hx hb dL_wakes_602 (lv_at hl 14 rfl) ?_
                      refine lv_iload hx hb dL_wakes_604 (lv_at hl 12 rfl) ?_
                      refine fk_lcallS (As := [.ref (ad 0), .int (nI t), .int (nI a), .int (S 0 a), .int ms, .int (nI b), .int fu]) (rest := []) ⟨hx, hb, hml, hown, hts⟩ (Lx_requeue_IA l D ad cI cT cJ _ S _ _ _ _ _ _ (xo_requeueA l D ad cI cT cJ S t a b ht ha hb9 _ _ _ hst hbad8)) (vx_cwSW 7 hts gL_wakes_L_requeue rfl rfl rfl (by decide +kernel) ⟨Nat.le_of_ble_eq_true rfl, Nat.le_of_ble_eq_true rfl⟩) hK hP hD hS hA hZ hN rfl hl.1 rfl (Nat.le_of_ble_eq_true rfl) dL_wakes_606 ⟨Nat.le_of_ble_eq_true rfl, Nat.le_of_ble_eq_true rfl⟩ (fun H locs hP hD hS => ?_)
                      refine W.eq (g2 := F0 m 609 ls [.int (-2147483202)]) rfl ?_
                      refine lv_goto (tgt := 625) hx hb dL_wakes_609 (by decide) ?_
                      refine lv_istore (lv' := [(25, .int (-2147483202)), (24, .int (-1)), (23, .int 0), (22, .int (S 0 a)), (20, .long (pl_thr S (-1))), (18, .long 0), (16, .long 0), (15, .int 0), (14, .int 0), (13, .int (pl_last S)), (12, .int 1), (11, .int 0), (10, .int 255), (9, .int fu), (8, .int ms), (7, .int (nI b)), (6, .int (nI a)), (5, .int (nI t)), (4, .int 1), (0, .ref (ad 0)), (1, .ref q), (2, .int y), (3, .int od)]) hx hb dL_wakes_625 hl (by decide) rfl (fun ls hl => ?_)
                      refine lv_iload hx hb dL_wakes_627 (lv_at hl 2 rfl) ?_
                      refine lv_if_ne (tgt := 676) hx hb dL_wakes_629 (by decide) (fun c => absurd c (by decide)) (fun _ => ?_)
                      refine lv_iload hx hb dL_wakes_632 (lv_at hl 0 rfl) ?_
                      refine lv_iload hx hb dL_wakes_634 (lv_at hl 11 rfl) ?_
                      refine lv_if_eq (tgt := 644) hx hb dL_wakes_636 (by decide) (fun _ => ?_) (fun c => absurd c (by decide))
                      refine lv_iload hx hb dL_wakes_644 (lv_at hl 10 rfl) ?_
                      refine lv_if_eq (tgt := 654) hx hb dL_wakes_646 (by decide) (fun c => absurd c (by decide)) (fun _ => ?_)
                      refine lv_ldc (own := RL) (v := (-2147483202)) hx hb hown (hts (.constant RL 20 (-2147483202)) (List.mem_of_getElem? (i := 2) rfl)) dL_wakes_649 ?_
                      refine lv_goto (tgt := 656) hx hb dL_wakes_651 (by decide) ?_
                      refine lv_icmp_ne (tgt := 674) hx hb dL_wakes_656 (by decide) (fun c => absurd c (by decide)) (fun _ => ?_)
                      refine lv_aload_n hx hb dL_wakes_659 rfl (lv_at hl 19 rfl) ?_
                      refine lv_iconst (v := (-1)) hx hb dL_wakes_660 (by decide) ?_
                      refine fk_callS (As := [.ref (ad 0), .int (-1)]) (rest := []) ⟨hx, hb, hml, hown, hts⟩ (kl_threads l D ad cI cT cJ _ S hG.1.sz hG.1.J (-1)) (va_cwS 2 hts gL_wakes_L_threads rfl rfl rfl (by decide +kernel) ⟨Nat.le_of_ble_eq_true rfl, Nat.le_of_ble_eq_true rfl⟩) hK hP hD hS hA rfl hl.1 rfl (Nat.le_of_ble_eq_true rfl) dL_wakes_661 ⟨Nat.le_of_ble_eq_true rfl, Nat.le_of_ble_eq_true rfl⟩ (fun H locs hP hD hS => ?_)
                      refine W.eq (g2 := F0 m 664 ls [.long (pl_thr S (-1))]) rfl ?_
                      refine lv_lload hx hb dL_wakes_664 (lv_at hl 4 rfl) ?_
                      refine W.lcmp hx hb dL_wakes_666 ?_
                      refine W.eq (g2 := F0 m 667 ls [.int 0]) (by rw [fk_cmp_self]) ?_
                      refine lv_if_ne (tgt := 674) hx hb dL_wakes_667 (by decide) (fun c => absurd c (by decide)) (fun _ => ?_)
                      refine lv_iconst (v := 1) hx hb dL_wakes_670 (by decide) ?_
                      refine lv_goto (tgt := 675) hx hb dL_wakes_671 (by decide) ?_
                      exact fk_zretE (Nat.le_of_ble_eq_true rfl) (Nat.le_of_ble_eq_true rfl) hx hb hr hlocks hP hK hD hS rfl ⟨rfl, _, _, rfl, (hG).wk (by omega)⟩ dL_wakes_675
                  refine lv_iload hx hb dL_wakes_255 (lv_at hl 7 rfl) ?_
                  refine lv_if_eq (tgt := 299) hx hb dL_wakes_257 (by decide) (fun c => absurd c (by decide)) (fun _ => ?_)
                  refine lv_iload hx hb dL_wakes_260 (lv_at hl 5 rfl) ?_
                  refine lv_iload hx hb dL_wakes_262 (lv_at hl 4 rfl) ?_
                  refine lv_icmp_eq (tgt := 291) hx hb dL_wakes_264 (by decide) (fun c_223 => ?_) (fun c_223 => ?_)
                  · refine lv_iconst (v := 1) hx hb dL_wakes_291 (by decide) ?_
                    refine lv_goto (tgt := 331) hx hb dL_wakes_292 (by decide) ?_
                    exact jn331 1 (by first | (rw [decide_eq_true (p := nI a = nI b) (by assumption)]; rfl) | (rw [decide_eq_false (p := nI a = nI b) (by assumption), Bool.not_false, Bool.true_and, fk_wA (v := ms) (lo := 0) (hi := 8) (by assumption)]; rfl) | (rw [decide_eq_false (p := nI a = nI b) (by assumption), Bool.not_false, Bool.true_and, fk_wA (v := fu) (lo := 0) (hi := 8) (by assumption), Bool.and_false]; rfl) | (rw [decide_eq_false (p := nI a = nI b) (by assumption), Bool.not_false, Bool.true_and, fk_wB (v := ms) (lo := 0) (hi := 8) (by assumption)]; rfl) | (rw [decide_eq_false (p := nI a = nI b) (by assumption), Bool.not_false, Bool.true_and, fk_wB (v := fu) (lo := 0) (hi := 8) (by assumption), Bool.and_false]; rfl) | (rw [decide_eq_false (p := nI a = nI b) (by assumption), Bool.not_false, Bool.true_and, fk_wC (v := ms) (lo := 0) (hi := 8) (by assumption)]; rfl) | (rw [decide_eq_false (p := nI a = nI b) (by assumption), Bool.not_false, Bool.true_and, fk_wC (v := fu) (lo := 0) (hi := 8) (by assumption), Bool.and_false]; rfl) | (rw [decide_eq_false (p := nI a = nI b) (by assumption), Bool.not_false, Bool.true_and, fk_wE (v := ms) (lo := 0) (hi := 8) (by assumption) (by assumption), fk_wE (v := fu) (lo := 0) (hi := 8) (by assumption) (by assumption)]; rfl) | (rw [decide_eq_false (p := nI a = nI b) (by assumption), Bool.not_false, Bool.true_and, fk_wE (v := ms) (lo := 0) (hi := 8) (by assumption) (by assumption), fk_wF (v := fu) (lo := 0) (hi := 8) (by assumption) (by assumption)]; rfl) | (rw [decide_eq_false (p := nI a = nI b) (by assumption), Bool.not_false, Bool.true_and, fk_wF (v := ms) (lo := 0) (hi := 8) (by assumption) (by assumption), fk_wE (v := fu) (lo := 0) (hi := 8) (by assumption) (by assumption)]; rfl) | (rw [decide_eq_false (p := nI a = nI b) (by assumption), Bool.not_false, Bool.true_and, fk_wF (v := ms) (lo := 0) (hi := 8) (by assumption) (by assumption), fk_wF (v := fu) (lo := 0) (hi := 8) (by assumption) (by assumption)]; rfl)) _ _ _ hP hD hS hl
                  · refine lv_iload hx hb dL_wakes_267 (lv_at hl 3 rfl) ?_
                    refine lv_if_lt (tgt := 291) hx hb dL_wakes_269 (by decide) (fun c_224 => ?_) (fun c_224 => ?_)
                    · refine lv_iconst (v := 1) hx hb dL_wakes_291 (by decide) ?_
                      refine lv_goto (tgt := 331) hx hb dL_wakes_292 (by decide) ?_
                      exact jn331 1 (by first | (rw [decide_eq_true (p := nI a = nI b) (by assumption)]; rfl) | (rw [decide_eq_false (p := nI a = nI b) (by assumption), Bool.not_false, Bool.true_and, fk_wA (v := ms) (lo := 0) (hi := 8) (by assumption)]; rfl) | (rw [decide_eq_false (p := nI a = nI b) (by assumption), Bool.not_false, Bool.true_and, fk_wA (v := fu) (lo := 0) (hi := 8) (by assumption), Bool.and_false]; rfl) | (rw [decide_eq_false (p := nI a = nI b) (by assumption), Bool.not_false, Bool.true_and, fk_wB (v := ms) (lo := 0) (hi := 8) (by assumption)]; rfl) | (rw [decide_eq_false (p := nI a = nI b) (by assumption), Bool.not_false, Bool.true_and, fk_wB (v := fu) (lo := 0) (hi := 8) (by assumption), Bool.and_false]; rfl) | (rw [decide_eq_false (p := nI a = nI b) (by assumption), Bool.not_false, Bool.true_and, fk_wC (v := ms) (lo := 0) (hi := 8) (by assumption)]; rfl) | (rw [decide_eq_false (p := nI a = nI b) (by assumption), Bool.not_false, Bool.true_and, fk_wC (v := fu) (lo := 0) (hi := 8) (by assumption), Bool.and_false]; rfl) | (rw [decide_eq_false (p := nI a = nI b) (by assumption), Bool.not_false, Bool.true_and, fk_wE (v := ms) (lo := 0) (hi := 8) (by assumption) (by assumption), fk_wE (v := fu) (lo := 0) (hi := 8) (by assumption) (by assumption)]; rfl) | (rw [decide_eq_false (p := nI a = nI b) (by assumption), Bool.not_false, Bool.true_and, fk_wE (v := ms) (lo := 0) (hi := 8) (by assumption) (by assumption), fk_wF (v := fu) (lo := 0) (hi := 8) (by assumption) (by assumption)]; rfl) | (rw [decide_eq_false (p := nI a = nI b) (by assumption), Bool.not_false, Bool.true_and, fk_wF (v := ms) (lo := 0) (hi := 8) (by assumption) (by assumption), fk_wE (v := fu) (lo := 0) (hi := 8) (by assumption) (by assumption)]; rfl) | (rw [decide_eq_false (p := nI a = nI b) (by assumption), Bool.not_false, Bool.true_and, fk_wF (v := ms) (lo := 0) (hi := 8) (by assumption) (by assumption), fk_wF (v := fu) (lo := 0) (hi := 8) (by assumption) (by assumption)]; rfl)) _ _ _ hP hD hS hl
                    · refine lv_iload hx hb dL_wakes_272 (lv_at hl 3 rfl) ?_
                      refine lv_bipush (v := 8) hx hb dL_wakes_274 (by decide) ?_
                      refine lv_icmp_gt (tgt := 291) hx hb dL_wakes_276 (by decide) (fun c_225 => ?_) (fun c_225 => ?_)
                      · refine lv_iconst (v := 1) hx hb dL_wakes_291 (by decide) ?_
                        refine lv_goto (tgt := 331) hx hb dL_wakes_292 (by decide) ?_
                        exact jn331 1 (by first | (rw [decide_eq_true (p := nI a = nI b) (by assumption)]; rfl) | (rw [decide_eq_false (p := nI a = nI b) (by assumption), Bool.not_false, Bool.true_and, fk_wA (v := ms) (lo := 0) (hi := 8) (by assumption)]; rfl) | (rw [decide_eq_false (p := nI a = nI b) (by assumption), Bool.not_false, Bool.true_and, fk_wA (v := fu) (lo := 0) (hi := 8) (by assumption), Bool.and_false]; rfl) | (rw [decide_eq_false (p := nI a = nI b) (by assumption), Bool.not_false, Bool.true_and, fk_wB (v := ms) (lo := 0) (hi := 8) (by assumption)]; rfl) | (rw [decide_eq_false (p := nI a = nI b) (by assumption), Bool.not_false, Bool.true_and, fk_wB (v := fu) (lo := 0) (hi := 8) (by assumption), Bool.and_false]; rfl) | (rw [decide_eq_false (p := nI a = nI b) (by assumption), Bool.not_false, Bool.true_and, fk_wC (v := ms) (lo := 0) (hi := 8) (by assumption)]; rfl) | (rw [decide_eq_false (p := nI a = nI b) (by assumption), Bool.not_false, Bool.true_and, fk_wC (v := fu) (lo := 0) (hi := 8) (by assumption), Bool.and_false]; rfl) | (rw [decide_eq_false (p := nI a = nI b) (by assumption), Bool.not_false, Bool.true_and, fk_wE (v := ms) (lo := 0) (hi := 8) (by assumption) (by assumption), fk_wE (v := fu) (lo := 0) (hi := 8) (by assumption) (by assumption)]; rfl) | (rw [decide_eq_false (p := nI a = nI b) (by assumption), Bool.not_false, Bool.true_and, fk_wE (v := ms) (lo := 0) (hi := 8) (by assumption) (by assumption), fk_wF (v := fu) (lo := 0) (hi := 8) (by assumption) (by assumption)]; rfl) | (rw [decide_eq_false (p := nI a = nI b) (by assumption), Bool.not_false, Bool.true_and, fk_wF (v := ms) (lo := 0) (hi := 8) (by assumption) (by assumption), fk_wE (v := fu) (lo := 0) (hi := 8) (by assumption) (by assumption)]; rfl) | (rw [decide_eq_false (p := nI a = nI b) (by assumption), Bool.not_false, Bool.true_and, fk_wF (v := ms) (lo := 0) (hi := 8) (by assumption) (by assumption), fk_wF (v := fu) (lo := 0) (hi := 8) (by assumption) (by assumption)]; rfl)) _ _ _ hP hD hS hl
                      · refine lv_iload hx hb dL_wakes_279 (lv_at hl 2 rfl) ?_
                        refine lv_if_lt (tgt := 291) hx hb dL_wakes_281 (by decide) (fun c_226 => ?_) (fun c_226 => ?_)
                        · refine lv_iconst (v := 1) hx hb dL_wakes_291 (by decide) ?_
                          refine lv_goto (tgt := 331) hx hb dL_wakes_292 (by decide) ?_
                          exact jn331 1 (by first | (rw [decide_eq_true (p := nI a = nI b) (by assumption)]; rfl) | (rw [decide_eq_false (p := nI a = nI b) (by assumption), Bool.not_false, Bool.true_and, fk_wA (v := ms) (lo := 0) (hi := 8) (by assumption)]; rfl) | (rw [decide_eq_false (p := nI a = nI b) (by assumption), Bool.not_false, Bool.true_and, fk_wA (v := fu) (lo := 0) (hi := 8) (by assumption), Bool.and_false]; rfl) | (rw [decide_eq_false (p := nI a = nI b) (by assumption), Bool.not_false, Bool.true_and, fk_wB (v := ms) (lo := 0) (hi := 8) (by assumption)]; rfl) | (rw [decide_eq_false (p := nI a = nI b) (by assumption), Bool.not_false, Bool.true_and, fk_wB (v := fu) (lo := 0) (hi := 8) (by assumption), Bool.and_false]; rfl) | (rw [decide_eq_false (p := nI a = nI b) (by assumption), Bool.not_false, Bool.true_and, fk_wC (v := ms) (lo := 0) (hi := 8) (by assumption)]; rfl) | (rw [decide_eq_false (p := nI a = nI b) (by assumption), Bool.not_false, Bool.true_and, fk_wC (v := fu) (lo := 0) (hi := 8) (by assumption), Bool.and_false]; rfl) | (rw [decide_eq_false (p := nI a = nI b) (by assumption), Bool.not_false, Bool.true_and, fk_wE (v := ms) (lo := 0) (hi := 8) (by assumption) (by assumption), fk_wE (v := fu) (lo := 0) (hi := 8) (by assumption) (by assumption)]; rfl) | (rw [decide_eq_false (p := nI a = nI b) (by assumption), Bool.not_false, Bool.true_and, fk_wE (v := ms) (lo := 0) (hi := 8) (by assumption) (by assumption), fk_wF (v := fu) (lo := 0) (hi := 8) (by assumption) (by assumption)]; rfl) | (rw [decide_eq_false (p := nI a = nI b) (by assumption), Bool.not_false, Bool.true_and, fk_wF (v := ms) (lo := 0) (hi := 8) (by assumption) (by assumption), fk_wE (v := fu) (lo := 0) (hi := 8) (by assumption) (by assumption)]; rfl) | (rw [decide_eq_false (p := nI a = nI b) (by assumption), Bool.not_false, Bool.true_and, fk_wF (v := ms) (lo := 0) (hi := 8) (by assumption) (by assumption), fk_wF (v := fu) (lo := 0) (hi := 8) (by assumption) (by assumption)]; rfl)) _ _ _ hP hD hS hl
                        · refine lv_iload hx hb dL_wakes_284 (lv_at hl 2 rfl) ?_
                          refine lv_bipush (v := 8) hx hb dL_wakes_286 (by decide) ?_
                          refine lv_icmp_le (tgt := 295) hx hb dL_wakes_288 (by decide) (fun c_227 => ?_) (fun c_227 => ?_)
                          · refine lv_iconst (v := 0) hx hb dL_wakes_295 (by decide) ?_
                            refine lv_goto (tgt := 331) hx hb dL_wakes_296 (by decide) ?_
                            exact jn331 0 (by first | (rw [decide_eq_true (p := nI a = nI b) (by assumption)]; rfl) | (rw [decide_eq_false (p := nI a = nI b) (by assumption), Bool.not_false, Bool.true_and, fk_wA (v := ms) (lo := 0) (hi := 8) (by assumption)]; rfl) | (rw [decide_eq_false (p := nI a = nI b) (by assumption), Bool.not_false, Bool.true_and, fk_wA (v := fu) (lo := 0) (hi := 8) (by assumption), Bool.and_false]; rfl) | (rw [decide_eq_false (p := nI a = nI b) (by assumption), Bool.not_false, Bool.true_and, fk_wB (v := ms) (lo := 0) (hi := 8) (by assumption)]; rfl) | (rw [decide_eq_false (p := nI a = nI b) (by assumption), Bool.not_false, Bool.true_and, fk_wB (v := fu) (lo := 0) (hi := 8) (by assumption), Bool.and_false]; rfl) | (rw [decide_eq_false (p := nI a = nI b) (by assumption), Bool.not_false, Bool.true_and, fk_wC (v := ms) (lo := 0) (hi := 8) (by assumption)]; rfl) | (rw [decide_eq_false (p := nI a = nI b) (by assumption), Bool.not_false, Bool.true_and, fk_wC (v := fu) (lo := 0) (hi := 8) (by assumption), Bool.and_false]; rfl) | (rw [decide_eq_false (p := nI a = nI b) (by assumption), Bool.not_false, Bool.true_and, fk_wE (v := ms) (lo := 0) (hi := 8) (by assumption) (by assumption), fk_wE (v := fu) (lo := 0) (hi := 8) (by assumption) (by assumption)]; rfl) | (rw [decide_eq_false (p := nI a = nI b) (by assumption), Bool.not_false, Bool.true_and, fk_wE (v := ms) (lo := 0) (hi := 8) (by assumption) (by assumption), fk_wF (v := fu) (lo := 0) (hi := 8) (by assumption) (by assumption)]; rfl) | (rw [decide_eq_false (p := nI a = nI b) (by assumption), Bool.not_false, Bool.true_and, fk_wF (v := ms) (lo := 0) (hi := 8) (by assumption) (by assumption), fk_wE (v := fu) (lo := 0) (hi := 8) (by assumption) (by assumption)]; rfl) | (rw [decide_eq_false (p := nI a = nI b) (by assumption), Bool.not_false, Bool.true_and, fk_wF (v := ms) (lo := 0) (hi := 8) (by assumption) (by assumption), fk_wF (v := fu) (lo := 0) (hi := 8) (by assumption) (by assumption)]; rfl)) _ _ _ hP hD hS hl
                          · refine lv_iconst (v := 1) hx hb dL_wakes_291 (by decide) ?_
                            refine lv_goto (tgt := 331) hx hb dL_wakes_292 (by decide) ?_
                            exact jn331 1 (by first | (rw [decide_eq_true (p := nI a = nI b) (by assumption)]; rfl) | (rw [decide_eq_false (p := nI a = nI b) (by assumption), Bool.not_false, Bool.true_and, fk_wA (v := ms) (lo := 0) (hi := 8) (by assumption)]; rfl) | (rw [decide_eq_false (p := nI a = nI b) (by assumption), Bool.not_false, Bool.true_and, fk_wA (v := fu) (lo := 0) (hi := 8) (by assumption), Bool.and_false]; rfl) | (rw [decide_eq_false (p := nI a = nI b) (by assumption), Bool.not_false, Bool.true_and, fk_wB (v := ms) (lo := 0) (hi := 8) (by assumption)]; rfl) | (rw [decide_eq_false (p := nI a = nI b) (by assumption), Bool.not_false, Bool.true_and, fk_wB (v := fu) (lo := 0) (hi := 8) (by assumption), Bool.and_false]; rfl) | (rw [decide_eq_false (p := nI a = nI b) (by assumption), Bool.not_false, Bool.true_and, fk_wC (v := ms) (lo := 0) (hi := 8) (by assumption)]; rfl) | (rw [decide_eq_false (p := nI a = nI b) (by assumption), Bool.not_false, Bool.true_and, fk_wC (v := fu) (lo := 0) (hi := 8) (by assumption), Bool.and_false]; rfl) | (rw [decide_eq_false (p := nI a = nI b) (by assumption), Bool.not_false, Bool.true_and, fk_wE (v := ms) (lo := 0) (hi := 8) (by assumption) (by assumption), fk_wE (v := fu) (lo := 0) (hi := 8) (by assumption) (by assumption)]; rfl) | (rw [decide_eq_false (p := nI a = nI b) (by assumption), Bool.not_false, Bool.true_and, fk_wE (v := ms) (lo := 0) (hi := 8) (by assumption) (by assumption), fk_wF (v := fu) (lo := 0) (hi := 8) (by assumption) (by assumption)]; rfl) | (rw [decide_eq_false (p := nI a = nI b) (by assumption), Bool.not_false, Bool.true_and, fk_wF (v := ms) (lo := 0) (hi := 8) (by assumption) (by assumption), fk_wE (v := fu) (lo := 0) (hi := 8) (by assumption) (by assumption)]; rfl) | (rw [decide_eq_false (p := nI a = nI b) (by assumption), Bool.not_false, Bool.true_and, fk_wF (v := ms) (lo := 0) (hi := 8) (by assumption) (by assumption), fk_wF (v := fu) (lo := 0) (hi := 8) (by assumption) (by assumption)]; rfl)) _ _ _ hP hD hS hl
                · have hout9 : (fk_isT th && fk_isA av && fk_isA bw) = false := Bool.eq_false_iff.mpr hout
                  have hov : ov = 1 := by rw [h_ov, hout9]; rfl
                  have hl : lv_has ls 29 [(11, .int 1), (10, .int 255), (9, .int fu), (8, .int ms), (7, .int bw), (6, .int av), (5, .int th), (4, .int 1), (0, .ref (ad 0)), (1, .ref q), (2, .int y), (3, .int od)] := by rw [hov] at hl; exact hl
                  have jn331 : ∀ (bv : Int32), ∀ (H : Heap) (locs : List Loc) (ls : Array Slot), va_P D vwCl (fk_kW ad cI cT S ++ (q, fk_pr cI P) :: X) H → va_D A (fk_kW ad cI cT S ++ (q, fk_pr cI P) :: X) → va_S A s.heap H locs → lv_has ls 29 [(11, .int 1), (10, .int 255), (9, .int fu), (8, .int ms), (7, .int bw), (6, .int av), (5, .int th), (4, .int 1), (0, .ref (ad 0)), (1, .ref q), (2, .int y), (3, .int od)] → W p l e rm_E s m ([.ref (ad 0), .ref q, .int y, .int od] : List Value).toArray below meth c H locs 0 0 (MQ below (fk_QE D (fk_ty cI cT cJ) A (kq_Phi ad cI cT q X (n + 20))) ([.ref (ad 0), .ref q, .int y, .int od] : List Value).toArray s 2 12 A) (F0 m 331 ls [.int bv]) := by
                    intro bv H locs ls hP hD hS hl
                    refine lv_istore (lv' := [(12, .int bv), (11, .int 1), (10, .int 255), (9, .int fu), (8, .int ms), (7, .int bw), (6, .int av), (5, .int th), (4, .int 1), (0, .ref (ad 0)), (1, .ref q), (2, .int y), (3, .int od)]) hx hb dL_wakes_331 hl (by decide) rfl (fun ls hl => ?_)
                    refine lv_aload_n hx hb dL_wakes_333 rfl (lv_at hl 9 rfl) ?_
                    refine fk_callS (As := [.ref (ad 0)]) (rest := []) ⟨hx, hb, hml, hown, hts⟩ (kl_last l D ad cI cT cJ _ S) (va_cwS 1 hts gL_wakes_L_last rfl rfl rfl (by decide +kernel) ⟨Nat.le_of_ble_eq_true rfl, Nat.le_of_ble_eq_true rfl⟩) hK hP hD hS hA rfl hl.1 rfl (Nat.le_of_ble_eq_true rfl) dL_wakes_334 ⟨Nat.le_of_ble_eq_true rfl, Nat.le_of_ble_eq_true rfl⟩ (fun H locs hP hD hS => ?_)
                    refine W.eq (g2 := F0 m 337 ls [.int (pl_last S)]) rfl ?_
                    refine lv_istore (lv' := [(13, .int (pl_last S)), (12, .int bv), (11, .int 1), (10, .int 255), (9, .int fu), (8, .int ms), (7, .int bw), (6, .int av), (5, .int th), (4, .int 1), (0, .ref (ad 0)), (1, .ref q), (2, .int y), (3, .int od)]) hx hb dL_wakes_337 hl (by decide) rfl (fun ls hl => ?_)
                    refine lv_iconst (v := 0) hx hb dL_wakes_339 (by decide) ?_
                    refine lv_istore (lv' := [(14, .int 0), (13, .int (pl_last S)), (12, .int bv), (11, .int 1), (10, .int 255), (9, .int fu), (8, .int ms), (7, .int bw), (6, .int av), (5, .int th), (4, .int 1), (0, .ref (ad 0)), (1, .ref q), (2, .int y), (3, .int od)]) hx hb dL_wakes_340 hl (by decide) rfl (fun ls hl => ?_)
                    refine lv_iconst (v := 0) hx hb dL_wakes_342 (by decide) ?_
                    refine lv_istore (lv' := [(15, .int 0), (14, .int 0), (13, .int (pl_last S)), (12, .int bv), (11, .int 1), (10, .int 255), (9, .int fu), (8, .int ms), (7, .int bw), (6, .int av), (5, .int th), (4, .int 1), (0, .ref (ad 0)), (1, .ref q), (2, .int y), (3, .int od)]) hx hb dL_wakes_343 hl (by decide) rfl (fun ls hl => ?_)
                    refine lv_lconst (v := 0) hx hb dL_wakes_345 (by decide) ?_
                    refine lv_lstore (lv' := [(16, .long 0), (15, .int 0), (14, .int 0), (13, .int (pl_last S)), (12, .int bv), (11, .int 1), (10, .int 255), (9, .int fu), (8, .int ms), (7, .int bw), (6, .int av), (5, .int th), (4, .int 1), (0, .ref (ad 0)), (1, .ref q), (2, .int y), (3, .int od)]) hx hb dL_wakes_346 hl (by decide) rfl (fun ls hl => ?_)
                    refine lv_lconst (v := 0) hx hb dL_wakes_348 (by decide) ?_
                    refine lv_lstore (lv' := [(18, .long 0), (16, .long 0), (15, .int 0), (14, .int 0), (13, .int (pl_last S)), (12, .int bv), (11, .int 1), (10, .int 255), (9, .int fu), (8, .int ms), (7, .int bw), (6, .int av), (5, .int th), (4, .int 1), (0, .ref (ad 0)), (1, .ref q), (2, .int y), (3, .int od)]) hx hb dL_wakes_349 hl (by decide) rfl (fun ls hl => ?_)
                    refine lv_iconst (v := 0) hx hb dL_wakes_351 (by decide) ?_
                    refine lv_istore (lv' := [(20, .int 0), (18, .long 0), (16, .long 0), (15, .int 0), (14, .int 0), (13, .int (pl_last S)), (12, .int bv), (11, .int 1), (10, .int 255), (9, .int fu), (8, .int ms), (7, .int bw), (6, .int av), (5, .int th), (4, .int 1), (0, .ref (ad 0)), (1, .ref q), (2, .int y), (3, .int od)]) hx hb dL_wakes_352 hl (by decide) rfl (fun ls hl => ?_)
                    refine lv_iload hx hb dL_wakes_354 (lv_at hl 7 rfl) ?_
                    refine lv_if_ne (tgt := 485) hx hb dL_wakes_356 (by decide) (fun _ => ?_) (fun c => absurd c (by decide))
                    refine lv_aload_n hx hb dL_wakes_485 rfl (lv_at hl 15 rfl) ?_
                    refine lv_iconst (v := (-1)) hx hb dL_wakes_486 (by decide) ?_
                    refine fk_callS (As := [.ref (ad 0), .int (-1)]) (rest := []) ⟨hx, hb, hml, hown, hts⟩ (kl_threads l D ad cI cT cJ _ S hG.1.sz hG.1.J (-1)) (va_cwS 2 hts gL_wakes_L_threads rfl rfl rfl (by decide +kernel) ⟨Nat.le_of_ble_eq_true rfl, Nat.le_of_ble_eq_true rfl⟩) hK hP hD hS hA rfl hl.1 rfl (Nat.le_of_ble_eq_true rfl) dL_wakes_487 ⟨Nat.le_of_ble_eq_true rfl, Nat.le_of_ble_eq_true rfl⟩ (fun H locs hP hD hS => ?_)
                    refine W.eq (g2 := F0 m 490 ls [.long (pl_thr S (-1))]) rfl ?_
                    refine lv_lstore (lv' := [(20, .long (pl_thr S (-1))), (18, .long 0), (16, .long 0), (15, .int 0), (14, .int 0), (13, .int (pl_last S)), (12, .int bv), (11, .int 1), (10, .int 255), (9, .int fu), (8, .int ms), (7, .int bw), (6, .int av), (5, .int th), (4, .int 1), (0, .ref (ad 0)), (1, .ref q), (2, .int y), (3, .int od)]) hx hb dL_wakes_490 hl (by decide) rfl (fun ls hl => ?_)
                    refine lv_iload hx hb dL_wakes_492 (lv_at hl 7 rfl) ?_
                    refine lv_if_eq (tgt := 501) hx hb dL_wakes_494 (by decide) (fun c => absurd c (by decide)) (fun _ => ?_)
                    refine lv_iconst (v := 0) hx hb dL_wakes_497 (by decide) ?_
                    refine lv_goto (tgt := 507) hx hb dL_wakes_498 (by decide) ?_
                    refine lv_istore (lv' := [(22, .int 0), (20, .long (pl_thr S (-1))), (18, .long 0), (16, .long 0), (15, .int 0), (14, .int 0), (13, .int (pl_last S)), (12, .int bv), (11, .int 1), (10, .int 255), (9, .int fu), (8, .int ms), (7, .int bw), (6, .int av), (5, .int th), (4, .int 1), (0, .ref (ad 0)), (1, .ref q), (2, .int y), (3, .int od)]) hx hb dL_wakes_507 hl (by decide) rfl (fun ls hl => ?_)
                    refine lv_iload hx hb dL_wakes_509 (lv_at hl 8 rfl) ?_
                    refine lv_if_ne (tgt := 532) hx hb dL_wakes_511 (by decide) (fun _ => ?_) (fun c => absurd c (by decide))
                    refine lv_iconst (v := 0) hx hb dL_wakes_532 (by decide) ?_
                    refine lv_istore (lv' := [(23, .int 0), (22, .int 0), (20, .long (pl_thr S (-1))), (18, .long 0), (16, .long 0), (15, .int 0), (14, .int 0), (13, .int (pl_last S)), (12, .int bv), (11, .int 1), (10, .int 255), (9, .int fu), (8, .int ms), (7, .int bw), (6, .int av), (5, .int th), (4, .int 1), (0, .ref (ad 0)), (1, .ref q), (2, .int y), (3, .int od)]) hx hb dL_wakes_533 hl (by decide) rfl (fun ls hl => ?_)
                    refine lv_iload hx hb dL_wakes_535 (lv_at hl 16 rfl) ?_
                    refine lv_if_eq (tgt := 566) hx hb dL_wakes_537 (by decide) (fun c => absurd c (by decide)) (fun _ => ?_)
                    refine lv_iload hx hb dL_wakes_540 (lv_at hl 0 rfl) ?_
                    refine lv_if_eq (tgt := 566) hx hb dL_wakes_542 (by decide) (fun _ => ?_) (fun c => absurd c (by decide))
                    refine lv_iconst (v := (-1)) hx hb dL_wakes_566 (by decide) ?_
                    refine lv_istore (lv' := [(24, .int (-1)), (23, .int 0), (22, .int 0), (20, .long (pl_thr S (-1))), (18, .long 0), (16, .long 0), (15, .int 0), (14, .int 0), (13, .int (pl_last S)), (12, .int bv), (11, .int 1), (10, .int 255), (9, .int fu), (8, .int ms), (7, .int bw), (6, .int av), (5, .int th), (4, .int 1), (0, .ref (ad 0)), (1, .ref q), (2, .int y), (3, .int od)]) hx hb dL_wakes_567 hl (by decide) rfl (fun ls hl => ?_)
                    refine lv_iload hx hb dL_wakes_569 (lv_at hl 0 rfl) ?_
                    refine lv_iconst (v := (-1)) hx hb dL_wakes_571 (by decide) ?_
                    refine lv_icmp_ne (tgt := 586) hx hb dL_wakes_572 (by decide) (fun c => absurd c (by decide)) (fun _ => ?_)
                    refine lv_aload_n hx hb dL_wakes_575 rfl (lv_at hl 18 rfl) ?_
                    refine lv_iconst (v := (-1)) hx hb dL_wakes_576 (by decide) ?_
                    refine fk_callS (As := [.ref (ad 0), .int (-1)]) (rest := []) ⟨hx, hb, hml, hown, hts⟩ (kl_threads l D ad cI cT cJ _ S hG.1.sz hG.1.J (-1)) (va_cwS 2 hts gL_wakes_L_threads rfl rfl rfl (by decide +kernel) ⟨Nat.le_of_ble_eq_true rfl, Nat.le_of_ble_eq_true rfl⟩) hK hP hD hS hA rfl hl.1 rfl (Nat.le_of_ble_eq_true rfl) dL_wakes_577 ⟨Nat.le_of_ble_eq_true rfl, Nat.le_of_ble_eq_true rfl⟩ (fun H locs hP hD hS => ?_)
                    refine W.eq (g2 := F0 m 580 ls [.long (pl_thr S (-1))]) rfl ?_
                    refine lv_lload hx hb dL_wakes_580 (lv_at hl 3 rfl) ?_
                    refine W.lcmp hx hb dL_wakes_582 ?_
                    refine W.eq (g2 := F0 m 583 ls [.int 0]) (by rw [fk_cmp_self]) ?_
                    refine lv_if_eq (tgt := 588) hx hb dL_wakes_583 (by decide) (fun _ => ?_) (fun c => absurd c (by decide))
                    refine lv_iload hx hb dL_wakes_588 (lv_at hl 17 rfl) ?_
                    refine lv_if_eq (tgt := 612) hx hb dL_wakes_590 (by decide) (fun c => absurd c (by decide)) (fun _ => ?_)
                    refine lv_aload_n hx hb dL_wakes_593 rfl (lv_at hl 18 rfl) ?_
                    refine lv_iload hx hb dL_wakes_594 (lv_at hl 16 rfl) ?_
                    refine lv_iload hx hb dL_wakes_596 (lv_at hl 15 rfl) ?_
                    refine lv_iload hx hb dL_wakes_598 (lv_at hl 2 rfl) ?_
                    refine lv_iload hx hb dL_wakes_600 (lv_at hl 13 rfl) ?_
                    refine lv_iload hx hb dL_wakes_602 (lv_at hl 14 rfl) ?_
                    refine lv_iload hx hb dL_wakes_604 (lv_at hl 12 rfl) ?_
                    refine fk_lcallS (As := [.ref (ad 0), .int th, .int av, .int 0, .int ms, .int bw, .int fu]) (rest := []) ⟨hx, hb, hml, hown, hts⟩ (Lx_requeue_IO l D ad cI cT cJ _ S _ _ _ _ _ _ (xo_requeue l D ad cI cT cJ S th av _ _ bw _ hst hout9)) (vx_cwSW 7 hts gL_wakes_L_requeue rfl rfl rfl (by decide +kernel) ⟨Nat.le_of_ble_eq_true rfl, Nat.le_of_ble_eq_true rfl⟩) hK hP hD hS hA hZ hN rfl hl.1 rfl (Nat.le_of_ble_eq_true rfl) dL_wakes_606 ⟨Nat.le_of_ble_eq_true rfl, Nat.le_of_ble_eq_true rfl⟩ (fun H locs hP hD hS => ?_)
                    refine W.eq (g2 := F0 m 609 ls [.int (-2147483201)]) rfl ?_
                    refine lv_goto (tgt := 625) hx hb dL_wakes_609 (by decide) ?_
                    refine lv_istore (lv' := [(25, .int (-2147483201)), (24, .int (-1)), (23, .int 0), (22, .int 0), (20, .long (pl_thr S (-1))), (18, .long 0), (16, .long 0), (15, .int 0), (14, .int 0), (13, .int (pl_last S)), (12, .int bv), (11, .int 1), (10, .int 255), (9, .int fu), (8, .int ms), (7, .int bw), (6, .int av), (5, .int th), (4, .int 1), (0, .ref (ad 0)), (1, .ref q), (2, .int y), (3, .int od)]) hx hb dL_wakes_625 hl (by decide) rfl (fun ls hl => ?_)
                    refine lv_iload hx hb dL_wakes_627 (lv_at hl 2 rfl) ?_
                    refine lv_if_ne (tgt := 676) hx hb dL_wakes_629 (by decide) (fun c => absurd c (by decide)) (fun _ => ?_)
                    refine lv_iload hx hb dL_wakes_632 (lv_at hl 0 rfl) ?_
                    refine lv_iload hx hb dL_wakes_634 (lv_at hl 11 rfl) ?_
                    refine lv_if_eq (tgt := 644) hx hb dL_wakes_636 (by decide) (fun c => absurd c (by decide)) (fun _ => ?_)
                    refine lv_ldc (own := RL) (v := (-2147483201)) hx hb hown (hts (.constant RL 17 (-2147483201)) (List.mem_of_getElem? (i := 1) rfl)) dL_wakes_639 ?_
                    refine lv_goto (tgt := 656) hx hb dL_wakes_641 (by decide) ?_
                    refine lv_icmp_ne (tgt := 674) hx hb dL_wakes_656 (by decide) (fun c => absurd c (by decide)) (fun _ => ?_)
                    refine lv_aload_n hx hb dL_wakes_659 rfl (lv_at hl 19 rfl) ?_
                    refine lv_iconst (v := (-1)) hx hb dL_wakes_660 (by decide) ?_
                    refine fk_callS (As := [.ref (ad 0), .int (-1)]) (rest := []) ⟨hx, hb, hml, hown, hts⟩ (kl_threads l D ad cI cT cJ _ S hG.1.sz hG.1.J (-1)) (va_cwS 2 hts gL_wakes_L_threads rfl rfl rfl (by decide +kernel) ⟨Nat.le_of_ble_eq_true rfl, Nat.le_of_ble_eq_true rfl⟩) hK hP hD hS hA rfl hl.1 rfl (Nat.le_of_ble_eq_true rfl) dL_wakes_661 ⟨Nat.le_of_ble_eq_true rfl, Nat.le_of_ble_eq_true rfl⟩ (fun H locs hP hD hS => ?_)
                    refine W.eq (g2 := F0 m 664 ls [.long (pl_thr S (-1))]) rfl ?_
                    refine lv_lload hx hb dL_wakes_664 (lv_at hl 4 rfl) ?_
                    refine W.lcmp hx hb dL_wakes_666 ?_
                    refine W.eq (g2 := F0 m 667 ls [.int 0]) (by rw [fk_cmp_self]) ?_
                    refine lv_if_ne (tgt := 674) hx hb dL_wakes_667 (by decide) (fun c => absurd c (by decide)) (fun _ => ?_)
                    refine lv_iconst (v := 1) hx hb dL_wakes_670 (by decide) ?_
                    refine lv_goto (tgt := 675) hx hb dL_wakes_671 (by decide) ?_
                    exact fk_zretE (Nat.le_of_ble_eq_true rfl) (Nat.le_of_ble_eq_true rfl) hx hb hr hlocks hP hK hD hS rfl ⟨rfl, _, _, rfl, (hG).wk (by omega)⟩ dL_wakes_675
                  refine lv_iload hx hb dL_wakes_255 (lv_at hl 7 rfl) ?_
                  refine lv_if_eq (tgt := 299) hx hb dL_wakes_257 (by decide) (fun c => absurd c (by decide)) (fun _ => ?_)
                  refine lv_iload hx hb dL_wakes_260 (lv_at hl 5 rfl) ?_
                  refine lv_iload hx hb dL_wakes_262 (lv_at hl 4 rfl) ?_
                  refine lv_icmp_eq (tgt := 291) hx hb dL_wakes_264 (by decide) (fun c_241 => ?_) (fun c_241 => ?_)
                  · refine lv_iconst (v := 1) hx hb dL_wakes_291 (by decide) ?_
                    refine lv_goto (tgt := 331) hx hb dL_wakes_292 (by decide) ?_
                    exact jn331 1 _ _ _ hP hD hS hl
                  · refine lv_iload hx hb dL_wakes_267 (lv_at hl 3 rfl) ?_
                    refine lv_if_lt (tgt := 291) hx hb dL_wakes_269 (by decide) (fun c_242 => ?_) (fun c_242 => ?_)
                    · refine lv_iconst (v := 1) hx hb dL_wakes_291 (by decide) ?_
                      refine lv_goto (tgt := 331) hx hb dL_wakes_292 (by decide) ?_
                      exact jn331 1 _ _ _ hP hD hS hl
                    · refine lv_iload hx hb dL_wakes_272 (lv_at hl 3 rfl) ?_
                      refine lv_bipush (v := 8) hx hb dL_wakes_274 (by decide) ?_
                      refine lv_icmp_gt (tgt := 291) hx hb dL_wakes_276 (by decide) (fun c_243 => ?_) (fun c_243 => ?_)
                      · refine lv_iconst (v := 1) hx hb dL_wakes_291 (by decide) ?_
                        refine lv_goto (tgt := 331) hx hb dL_wakes_292 (by decide) ?_
                        exact jn331 1 _ _ _ hP hD hS hl
                      · refine lv_iload hx hb dL_wakes_279 (lv_at hl 2 rfl) ?_
                        refine lv_if_lt (tgt := 291) hx hb dL_wakes_281 (by decide) (fun c_244 => ?_) (fun c_244 => ?_)
                        · refine lv_iconst (v := 1) hx hb dL_wakes_291 (by decide) ?_
                          refine lv_goto (tgt := 331) hx hb dL_wakes_292 (by decide) ?_
                          exact jn331 1 _ _ _ hP hD hS hl
                        · refine lv_iload hx hb dL_wakes_284 (lv_at hl 2 rfl) ?_
                          refine lv_bipush (v := 8) hx hb dL_wakes_286 (by decide) ?_
                          refine lv_icmp_le (tgt := 295) hx hb dL_wakes_288 (by decide) (fun c_245 => ?_) (fun c_245 => ?_)
                          · refine lv_iconst (v := 0) hx hb dL_wakes_295 (by decide) ?_
                            refine lv_goto (tgt := 331) hx hb dL_wakes_296 (by decide) ?_
                            exact jn331 0 _ _ _ hP hD hS hl
                          · refine lv_iconst (v := 1) hx hb dL_wakes_291 (by decide) ?_
                            refine lv_goto (tgt := 331) hx hb dL_wakes_292 (by decide) ?_
                            exact jn331 1 _ _ _ hP hD hS hl
              refine lv_iload hx hb dL_wakes_207 (lv_at hl 5 rfl) ?_
              refine lv_if_lt (tgt := 248) hx hb dL_wakes_209 (by decide) (fun c_246 => ?_) (fun c_246 => ?_)
              · refine lv_iconst (v := 1) hx hb dL_wakes_248 (by decide) ?_
                refine lv_goto (tgt := 253) hx hb dL_wakes_249 (by decide) ?_
                exact jn253 1 (by first | (rw [fk_isT_no1 (th := th) (by assumption)]; rfl) | (rw [fk_isT_no2 (th := th) (by assumption)]; rfl) | (rw [fk_isA_no1 (av := av) (by assumption), Bool.and_false]; rfl) | (rw [fk_isA_no1 (av := bw) (by assumption), Bool.and_false]; rfl) | (rw [fk_isA_no2 (av := av) (by assumption), Bool.and_false]; rfl) | (rw [fk_isA_no2 (av := bw) (by assumption), Bool.and_false]; rfl) | (rw [fk_isA_no3 (av := av) (by assumption), Bool.and_false]; rfl) | (rw [fk_isA_no3 (av := bw) (by assumption), Bool.and_false]; rfl) | (rw [fk_isT_iff (by assumption) (by assumption), fk_isA_yes2 (av := av) (by assumption) (by assumption), fk_isA_iff (av := bw) (by assumption) (by assumption)]; rfl)) _ _ _ hP hD hS hl
              · refine lv_iload hx hb dL_wakes_212 (lv_at hl 5 rfl) ?_
                refine lv_bipush (v := 7) hx hb dL_wakes_214 (by decide) ?_
                refine lv_icmp_gt (tgt := 248) hx hb dL_wakes_216 (by decide) (fun c_247 => ?_) (fun c_247 => ?_)
                · refine lv_iconst (v := 1) hx hb dL_wakes_248 (by decide) ?_
                  refine lv_goto (tgt := 253) hx hb dL_wakes_249 (by decide) ?_
                  exact jn253 1 (by first | (rw [fk_isT_no1 (th := th) (by assumption)]; rfl) | (rw [fk_isT_no2 (th := th) (by assumption)]; rfl) | (rw [fk_isA_no1 (av := av) (by assumption), Bool.and_false]; rfl) | (rw [fk_isA_no1 (av := bw) (by assumption), Bool.and_false]; rfl) | (rw [fk_isA_no2 (av := av) (by assumption), Bool.and_false]; rfl) | (rw [fk_isA_no2 (av := bw) (by assumption), Bool.and_false]; rfl) | (rw [fk_isA_no3 (av := av) (by assumption), Bool.and_false]; rfl) | (rw [fk_isA_no3 (av := bw) (by assumption), Bool.and_false]; rfl) | (rw [fk_isT_iff (by assumption) (by assumption), fk_isA_yes2 (av := av) (by assumption) (by assumption), fk_isA_iff (av := bw) (by assumption) (by assumption)]; rfl)) _ _ _ hP hD hS hl
                · refine lv_iload hx hb dL_wakes_219 (lv_at hl 4 rfl) ?_
                  refine lv_if_lt (tgt := 248) hx hb dL_wakes_221 (by decide) (fun c_248 => ?_) (fun c_248 => ?_)
                  · refine lv_iconst (v := 1) hx hb dL_wakes_248 (by decide) ?_
                    refine lv_goto (tgt := 253) hx hb dL_wakes_249 (by decide) ?_
                    exact jn253 1 (by first | (rw [fk_isT_no1 (th := th) (by assumption)]; rfl) | (rw [fk_isT_no2 (th := th) (by assumption)]; rfl) | (rw [fk_isA_no1 (av := av) (by assumption), Bool.and_false]; rfl) | (rw [fk_isA_no1 (av := bw) (by assumption), Bool.and_false]; rfl) | (rw [fk_isA_no2 (av := av) (by assumption), Bool.and_false]; rfl) | (rw [fk_isA_no2 (av := bw) (by assumption), Bool.and_false]; rfl) | (rw [fk_isA_no3 (av := av) (by assumption), Bool.and_false]; rfl) | (rw [fk_isA_no3 (av := bw) (by assumption), Bool.and_false]; rfl) | (rw [fk_isT_iff (by assumption) (by assumption), fk_isA_yes2 (av := av) (by assumption) (by assumption), fk_isA_iff (av := bw) (by assumption) (by assumption)]; rfl)) _ _ _ hP hD hS hl
                  · refine lv_iload hx hb dL_wakes_224 (lv_at hl 4 rfl) ?_
                    refine lv_bipush (v := 15) hx hb dL_wakes_226 (by decide) ?_
                    refine lv_icmp_gt (tgt := 248) hx hb dL_wakes_228 (by decide) (fun c_249 => ?_) (fun c_249 => ?_)
                    · refine lv_iconst (v := 1) hx hb dL_wakes_248 (by decide) ?_
                      refine lv_goto (tgt := 253) hx hb dL_wakes_249 (by decide) ?_
                      exact jn253 1 (by first | (rw [fk_isT_no1 (th := th) (by assumption)]; rfl) | (rw [fk_isT_no2 (th := th) (by assumption)]; rfl) | (rw [fk_isA_no1 (av := av) (by assumption), Bool.and_false]; rfl) | (rw [fk_isA_no1 (av := bw) (by assumption), Bool.and_false]; rfl) | (rw [fk_isA_no2 (av := av) (by assumption), Bool.and_false]; rfl) | (rw [fk_isA_no2 (av := bw) (by assumption), Bool.and_false]; rfl) | (rw [fk_isA_no3 (av := av) (by assumption), Bool.and_false]; rfl) | (rw [fk_isA_no3 (av := bw) (by assumption), Bool.and_false]; rfl) | (rw [fk_isT_iff (by assumption) (by assumption), fk_isA_yes2 (av := av) (by assumption) (by assumption), fk_isA_iff (av := bw) (by assumption) (by assumption)]; rfl)) _ _ _ hP hD hS hl
                    · refine lv_iload hx hb dL_wakes_231 (lv_at hl 6 rfl) ?_
                      refine lv_if_eq (tgt := 252) hx hb dL_wakes_233 (by decide) (fun c => absurd c (by decide)) (fun _ => ?_)
                      refine lv_iload hx hb dL_wakes_236 (lv_at hl 3 rfl) ?_
                      refine lv_if_lt (tgt := 248) hx hb dL_wakes_238 (by decide) (fun c_251 => ?_) (fun c_251 => ?_)
                      · refine lv_iconst (v := 1) hx hb dL_wakes_248 (by decide) ?_
                        refine lv_goto (tgt := 253) hx hb dL_wakes_249 (by decide) ?_
                        exact jn253 1 (by first | (rw [fk_isT_no1 (th := th) (by assumption)]; rfl) | (rw [fk_isT_no2 (th := th) (by assumption)]; rfl) | (rw [fk_isA_no1 (av := av) (by assumption), Bool.and_false]; rfl) | (rw [fk_isA_no1 (av := bw) (by assumption), Bool.and_false]; rfl) | (rw [fk_isA_no2 (av := av) (by assumption), Bool.and_false]; rfl) | (rw [fk_isA_no2 (av := bw) (by assumption), Bool.and_false]; rfl) | (rw [fk_isA_no3 (av := av) (by assumption), Bool.and_false]; rfl) | (rw [fk_isA_no3 (av := bw) (by assumption), Bool.and_false]; rfl) | (rw [fk_isT_iff (by assumption) (by assumption), fk_isA_yes2 (av := av) (by assumption) (by assumption), fk_isA_iff (av := bw) (by assumption) (by assumption)]; rfl)) _ _ _ hP hD hS hl
                      · refine lv_iload hx hb dL_wakes_241 (lv_at hl 3 rfl) ?_
                        refine lv_bipush (v := 15) hx hb dL_wakes_243 (by decide) ?_
                        refine lv_icmp_le (tgt := 252) hx hb dL_wakes_245 (by decide) (fun c_252 => ?_) (fun c_252 => ?_)
                        · refine lv_iconst (v := 0) hx hb dL_wakes_252 (by decide) ?_
                          exact jn253 0 (by first | (rw [fk_isT_no1 (th := th) (by assumption)]; rfl) | (rw [fk_isT_no2 (th := th) (by assumption)]; rfl) | (rw [fk_isA_no1 (av := av) (by assumption), Bool.and_false]; rfl) | (rw [fk_isA_no1 (av := bw) (by assumption), Bool.and_false]; rfl) | (rw [fk_isA_no2 (av := av) (by assumption), Bool.and_false]; rfl) | (rw [fk_isA_no2 (av := bw) (by assumption), Bool.and_false]; rfl) | (rw [fk_isA_no3 (av := av) (by assumption), Bool.and_false]; rfl) | (rw [fk_isA_no3 (av := bw) (by assumption), Bool.and_false]; rfl) | (rw [fk_isT_iff (by assumption) (by assumption), fk_isA_yes2 (av := av) (by assumption) (by assumption), fk_isA_iff (av := bw) (by assumption) (by assumption)]; rfl)) _ _ _ hP hD hS hl
                        · refine lv_iconst (v := 1) hx hb dL_wakes_248 (by decide) ?_
                          refine lv_goto (tgt := 253) hx hb dL_wakes_249 (by decide) ?_
                          exact jn253 1 (by first | (rw [fk_isT_no1 (th := th) (by assumption)]; rfl) | (rw [fk_isT_no2 (th := th) (by assumption)]; rfl) | (rw [fk_isA_no1 (av := av) (by assumption), Bool.and_false]; rfl) | (rw [fk_isA_no1 (av := bw) (by assumption), Bool.and_false]; rfl) | (rw [fk_isA_no2 (av := av) (by assumption), Bool.and_false]; rfl) | (rw [fk_isA_no2 (av := bw) (by assumption), Bool.and_false]; rfl) | (rw [fk_isA_no3 (av := av) (by assumption), Bool.and_false]; rfl) | (rw [fk_isA_no3 (av := bw) (by assumption), Bool.and_false]; rfl) | (rw [fk_isT_iff (by assumption) (by assumption), fk_isA_yes2 (av := av) (by assumption) (by assumption), fk_isA_iff (av := bw) (by assumption) (by assumption)]; rfl)) _ _ _ hP hD hS hl
            refine lv_iload_n hx hb dL_wakes_135 rfl (lv_at hl 8 rfl) ?_
            refine lv_if_eq (tgt := 153) hx hb dL_wakes_136 (by decide) (fun c_253 => ?_) (fun c_253 => ?_)
            · refine lv_iload_n hx hb dL_wakes_153 rfl (lv_at hl 7 rfl) ?_
              refine lv_bipush (v := 12) hx hb dL_wakes_154 (by decide) ?_
              refine lv_ishr hx hb dL_wakes_156 ?_
              refine lv_iconst (v := 4) hx hb dL_wakes_157 (by decide) ?_
              refine fk_callS (As := [.int (y >>> (12 &&& 31)), .int 4]) (rest := []) ⟨hx, hb, hml, hown, hts⟩ (kl_some l D ad cI cT cJ _ S (y >>> (12 &&& 31)) 4 (by decide)) (va_cwS 2 hts gL_wakes_L_some rfl rfl rfl (by decide +kernel) ⟨Nat.le_of_ble_eq_true rfl, Nat.le_of_ble_eq_true rfl⟩) hK hP hD hS hA rfl hl.1 rfl (Nat.le_of_ble_eq_true rfl) dL_wakes_158 ⟨Nat.le_of_ble_eq_true rfl, Nat.le_of_ble_eq_true rfl⟩ (fun H locs hP hD hS => ?_)
              refine W.eq (g2 := F0 m 161 ls [.int (pl_some (y >>> (12 &&& 31)) 4)]) rfl ?_
              exact jn161 (pl_some (y >>> (12 &&& 31)) 4) _ _ _ hP hD hS hl
            · refine lv_iload_n hx hb dL_wakes_139 rfl (lv_at hl 7 rfl) ?_
              refine lv_bipush (v := 12) hx hb dL_wakes_140 (by decide) ?_
              refine lv_ishr hx hb dL_wakes_142 ?_
              refine lv_bipush (v := 11) hx hb dL_wakes_143 (by decide) ?_
              refine fk_callS (As := [.int (y >>> (12 &&& 31)), .int 11]) (rest := []) ⟨hx, hb, hml, hown, hts⟩ (kl_some l D ad cI cT cJ _ S (y >>> (12 &&& 31)) 11 (by decide)) (va_cwS 2 hts gL_wakes_L_some rfl rfl rfl (by decide +kernel) ⟨Nat.le_of_ble_eq_true rfl, Nat.le_of_ble_eq_true rfl⟩) hK hP hD hS hA rfl hl.1 rfl (Nat.le_of_ble_eq_true rfl) dL_wakes_145 ⟨Nat.le_of_ble_eq_true rfl, Nat.le_of_ble_eq_true rfl⟩ (fun H locs hP hD hS => ?_)
              refine W.eq (g2 := F0 m 148 ls [.int (pl_some (y >>> (12 &&& 31)) 11)]) rfl ?_
              refine lv_iconst (v := 1) hx hb dL_wakes_148 (by decide) ?_
              refine lv_isub hx hb dL_wakes_149 ?_
              refine lv_goto (tgt := 161) hx hb dL_wakes_150 (by decide) ?_
              exact jn161 ((pl_some (y >>> (12 &&& 31)) 11) - 1) _ _ _ hP hD hS hl
          refine lv_iload_n hx hb dL_wakes_107 rfl (lv_at hl 7 rfl) ?_
          refine lv_if_eq (tgt := 125) hx hb dL_wakes_108 (by decide) (fun c_254 => ?_) (fun c_254 => ?_)
          · refine lv_iload_n hx hb dL_wakes_125 rfl (lv_at hl 6 rfl) ?_
            refine lv_bipush (v := 10) hx hb dL_wakes_126 (by decide) ?_
            refine lv_ishr hx hb dL_wakes_128 ?_
            refine lv_iconst (v := 3) hx hb dL_wakes_129 (by decide) ?_
            refine fk_callS (As := [.int (y >>> (10 &&& 31)), .int 3]) (rest := []) ⟨hx, hb, hml, hown, hts⟩ (kl_some l D ad cI cT cJ _ S (y >>> (10 &&& 31)) 3 (by decide)) (va_cwS 2 hts gL_wakes_L_some rfl rfl rfl (by decide +kernel) ⟨Nat.le_of_ble_eq_true rfl, Nat.le_of_ble_eq_true rfl⟩) hK hP hD hS hA rfl hl.1 rfl (Nat.le_of_ble_eq_true rfl) dL_wakes_130 ⟨Nat.le_of_ble_eq_true rfl, Nat.le_of_ble_eq_true rfl⟩ (fun H locs hP hD hS => ?_)
            refine W.eq (g2 := F0 m 133 ls [.int (pl_some (y >>> (10 &&& 31)) 3)]) rfl ?_
            exact jn133 (pl_some (y >>> (10 &&& 31)) 3) _ _ _ hP hD hS hl
          · refine lv_iload_n hx hb dL_wakes_111 rfl (lv_at hl 6 rfl) ?_
            refine lv_bipush (v := 10) hx hb dL_wakes_112 (by decide) ?_
            refine lv_ishr hx hb dL_wakes_114 ?_
            refine lv_bipush (v := 11) hx hb dL_wakes_115 (by decide) ?_
            refine fk_callS (As := [.int (y >>> (10 &&& 31)), .int 11]) (rest := []) ⟨hx, hb, hml, hown, hts⟩ (kl_some l D ad cI cT cJ _ S (y >>> (10 &&& 31)) 11 (by decide)) (va_cwS 2 hts gL_wakes_L_some rfl rfl rfl (by decide +kernel) ⟨Nat.le_of_ble_eq_true rfl, Nat.le_of_ble_eq_true rfl⟩) hK hP hD hS hA rfl hl.1 rfl (Nat.le_of_ble_eq_true rfl) dL_wakes_117 ⟨Nat.le_of_ble_eq_true rfl, Nat.le_of_ble_eq_true rfl⟩ (fun H locs hP hD hS => ?_)
            refine W.eq (g2 := F0 m 120 ls [.int (pl_some (y >>> (10 &&& 31)) 11)]) rfl ?_
            refine lv_iconst (v := 1) hx hb dL_wakes_120 (by decide) ?_
            refine lv_isub hx hb dL_wakes_121 ?_
            refine lv_goto (tgt := 133) hx hb dL_wakes_122 (by decide) ?_
            exact jn133 ((pl_some (y >>> (10 &&& 31)) 11) - 1) _ _ _ hP hD hS hl
        refine lv_iload_n hx hb dL_wakes_70 rfl (lv_at hl 6 rfl) ?_
        refine lv_if_eq (tgt := 88) hx hb dL_wakes_71 (by decide) (fun c_255 => ?_) (fun c_255 => ?_)
        · refine lv_iload hx hb dL_wakes_88 (lv_at hl 0 rfl) ?_
          refine lv_iconst (v := 1) hx hb dL_wakes_90 (by decide) ?_
          refine lv_iadd hx hb dL_wakes_91 ?_
          refine lv_iload_n hx hb dL_wakes_92 rfl (lv_at hl 5 rfl) ?_
          refine lv_bipush (v := 8) hx hb dL_wakes_93 (by decide) ?_
          refine lv_ishr hx hb dL_wakes_95 ?_
          refine lv_bipush (v := 15) hx hb dL_wakes_96 (by decide) ?_
          refine fk_callS (As := [.int (y >>> (8 &&& 31)), .int 15]) (rest := [.int (av + (1 : Int32))]) ⟨hx, hb, hml, hown, hts⟩ (kl_some l D ad cI cT cJ _ S (y >>> (8 &&& 31)) 15 (by decide)) (va_cwS 2 hts gL_wakes_L_some rfl rfl rfl (by decide +kernel) ⟨Nat.le_of_ble_eq_true rfl, Nat.le_of_ble_eq_true rfl⟩) hK hP hD hS hA rfl hl.1 rfl (Nat.le_of_ble_eq_true rfl) dL_wakes_98 ⟨Nat.le_of_ble_eq_true rfl, Nat.le_of_ble_eq_true rfl⟩ (fun H locs hP hD hS => ?_)
          refine W.eq (g2 := F0 m 101 ls [.int (pl_some (y >>> (8 &&& 31)) 15), .int (av + (1 : Int32))]) rfl ?_
          refine lv_iadd hx hb dL_wakes_101 ?_
          refine lv_bipush (v := 16) hx hb dL_wakes_102 (by decide) ?_
          refine lv_irem hx hb dL_wakes_104 (by decide) ?_
          exact jn105 (((av + (1 : Int32)) + (pl_some (y >>> (8 &&& 31)) 15)) - ((av + (1 : Int32)) + (pl_some (y >>> (8 &&& 31)) 15)) / (16 : Int32) * (16 : Int32)) _ _ _ hP hD hS hl
        · refine lv_iload_n hx hb dL_wakes_74 rfl (lv_at hl 5 rfl) ?_
          refine lv_bipush (v := 8) hx hb dL_wakes_75 (by decide) ?_
          refine lv_ishr hx hb dL_wakes_77 ?_
          refine lv_bipush (v := 18) hx hb dL_wakes_78 (by decide) ?_
          refine fk_callS (As := [.int (y >>> (8 &&& 31)), .int 18]) (rest := []) ⟨hx, hb, hml, hown, hts⟩ (kl_some l D ad cI cT cJ _ S (y >>> (8 &&& 31)) 18 (by decide)) (va_cwS 2 hts gL_wakes_L_some rfl rfl rfl (by decide +kernel) ⟨Nat.le_of_ble_eq_true rfl, Nat.le_of_ble_eq_true rfl⟩) hK hP hD hS hA rfl hl.1 rfl (Nat.le_of_ble_eq_true rfl) dL_wakes_80 ⟨Nat.le_of_ble_eq_true rfl, Nat.le_of_ble_eq_true rfl⟩ (fun H locs hP hD hS => ?_)
          refine W.eq (g2 := F0 m 83 ls [.int (pl_some (y >>> (8 &&& 31)) 18)]) rfl ?_
          refine lv_iconst (v := 1) hx hb dL_wakes_83 (by decide) ?_
          refine lv_isub hx hb dL_wakes_84 ?_
          refine lv_goto (tgt := 105) hx hb dL_wakes_85 (by decide) ?_
          exact jn105 ((pl_some (y >>> (8 &&& 31)) 18) - 1) _ _ _ hP hD hS hl
      refine lv_iload_n hx hb dL_wakes_42 rfl (lv_at hl 5 rfl) ?_
      refine lv_if_eq (tgt := 60) hx hb dL_wakes_43 (by decide) (fun c_256 => ?_) (fun c_256 => ?_)
      · refine lv_iload_n hx hb dL_wakes_60 rfl (lv_at hl 4 rfl) ?_
        refine lv_bipush (v := 6) hx hb dL_wakes_61 (by decide) ?_
        refine lv_ishr hx hb dL_wakes_63 ?_
        refine lv_iconst (v := 4) hx hb dL_wakes_64 (by decide) ?_
        refine fk_callS (As := [.int (y >>> (6 &&& 31)), .int 4]) (rest := []) ⟨hx, hb, hml, hown, hts⟩ (kl_some l D ad cI cT cJ _ S (y >>> (6 &&& 31)) 4 (by decide)) (va_cwS 2 hts gL_wakes_L_some rfl rfl rfl (by decide +kernel) ⟨Nat.le_of_ble_eq_true rfl, Nat.le_of_ble_eq_true rfl⟩) hK hP hD hS hA rfl hl.1 rfl (Nat.le_of_ble_eq_true rfl) dL_wakes_65 ⟨Nat.le_of_ble_eq_true rfl, Nat.le_of_ble_eq_true rfl⟩ (fun H locs hP hD hS => ?_)
        refine W.eq (g2 := F0 m 68 ls [.int (pl_some (y >>> (6 &&& 31)) 4)]) rfl ?_
        exact jn68 (pl_some (y >>> (6 &&& 31)) 4) _ _ _ hP hD hS hl
      · refine lv_iload_n hx hb dL_wakes_46 rfl (lv_at hl 4 rfl) ?_
        refine lv_bipush (v := 6) hx hb dL_wakes_47 (by decide) ?_
        refine lv_ishr hx hb dL_wakes_49 ?_
        refine lv_bipush (v := 18) hx hb dL_wakes_50 (by decide) ?_
        refine fk_callS (As := [.int (y >>> (6 &&& 31)), .int 18]) (rest := []) ⟨hx, hb, hml, hown, hts⟩ (kl_some l D ad cI cT cJ _ S (y >>> (6 &&& 31)) 18 (by decide)) (va_cwS 2 hts gL_wakes_L_some rfl rfl rfl (by decide +kernel) ⟨Nat.le_of_ble_eq_true rfl, Nat.le_of_ble_eq_true rfl⟩) hK hP hD hS hA rfl hl.1 rfl (Nat.le_of_ble_eq_true rfl) dL_wakes_52 ⟨Nat.le_of_ble_eq_true rfl, Nat.le_of_ble_eq_true rfl⟩ (fun H locs hP hD hS => ?_)
        refine W.eq (g2 := F0 m 55 ls [.int (pl_some (y >>> (6 &&& 31)) 18)]) rfl ?_
        refine lv_iconst (v := 1) hx hb dL_wakes_55 (by decide) ?_
        refine lv_isub hx hb dL_wakes_56 ?_
        refine lv_goto (tgt := 68) hx hb dL_wakes_57 (by decide) ?_
        exact jn68 ((pl_some (y >>> (6 &&& 31)) 18) - 1) _ _ _ hP hD hS hl
    refine lv_iload_n hx hb dL_wakes_15 rfl (lv_at hl 4 rfl) ?_
    refine lv_if_eq (tgt := 32) hx hb dL_wakes_16 (by decide) (fun c_257 => ?_) (fun c_257 => ?_)
    · refine lv_iload_n hx hb dL_wakes_32 rfl (lv_at hl 3 rfl) ?_
      refine lv_iconst (v := 2) hx hb dL_wakes_33 (by decide) ?_
      refine lv_ishr hx hb dL_wakes_34 ?_
      refine lv_bipush (v := 8) hx hb dL_wakes_35 (by decide) ?_
      refine fk_callS (As := [.int (y >>> (2 &&& 31)), .int 8]) (rest := []) ⟨hx, hb, hml, hown, hts⟩ (kl_some l D ad cI cT cJ _ S (y >>> (2 &&& 31)) 8 (by decide)) (va_cwS 2 hts gL_wakes_L_some rfl rfl rfl (by decide +kernel) ⟨Nat.le_of_ble_eq_true rfl, Nat.le_of_ble_eq_true rfl⟩) hK hP hD hS hA rfl hl.1 rfl (Nat.le_of_ble_eq_true rfl) dL_wakes_37 ⟨Nat.le_of_ble_eq_true rfl, Nat.le_of_ble_eq_true rfl⟩ (fun H locs hP hD hS => ?_)
      refine W.eq (g2 := F0 m 40 ls [.int (pl_some (y >>> (2 &&& 31)) 8)]) rfl ?_
      exact jn40 (pl_some (y >>> (2 &&& 31)) 8) _ _ _ hP hD hS hl
    · refine lv_iload_n hx hb dL_wakes_19 rfl (lv_at hl 3 rfl) ?_
      refine lv_iconst (v := 2) hx hb dL_wakes_20 (by decide) ?_
      refine lv_ishr hx hb dL_wakes_21 ?_
      refine lv_bipush (v := 10) hx hb dL_wakes_22 (by decide) ?_
      refine fk_callS (As := [.int (y >>> (2 &&& 31)), .int 10]) (rest := []) ⟨hx, hb, hml, hown, hts⟩ (kl_some l D ad cI cT cJ _ S (y >>> (2 &&& 31)) 10 (by decide)) (va_cwS 2 hts gL_wakes_L_some rfl rfl rfl (by decide +kernel) ⟨Nat.le_of_ble_eq_true rfl, Nat.le_of_ble_eq_true rfl⟩) hK hP hD hS hA rfl hl.1 rfl (Nat.le_of_ble_eq_true rfl) dL_wakes_24 ⟨Nat.le_of_ble_eq_true rfl, Nat.le_of_ble_eq_true rfl⟩ (fun H locs hP hD hS => ?_)
      refine W.eq (g2 := F0 m 27 ls [.int (pl_some (y >>> (2 &&& 31)) 10)]) rfl ?_
      refine lv_iconst (v := 1) hx hb dL_wakes_27 (by decide) ?_
      refine lv_isub hx hb dL_wakes_28 ?_
      refine lv_goto (tgt := 40) hx hb dL_wakes_29 (by decide) ?_
      exact jn40 ((pl_some (y >>> (2 &&& 31)) 10) - 1) _ _ _ hP hD hS hl
