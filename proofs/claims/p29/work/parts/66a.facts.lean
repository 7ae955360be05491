/-! unlock, lock: the lists and the words -/
def pl_own (w : Int32) : Int32 := (w &&& 255) - 1
def kq_lk (S : fk_S) (a : Nat) : List Nat := (kq_A S a).filter (fun t => decide (S 1 t = 2))
section
variable {n : Nat} {S S' : fk_S} {P P' : Nat → Int32} {u t a v : Nat}
theorem pl_own_isT (w : Int32) : fk_isT (pl_own w) = (decide (1 ≤ w &&& 255) && decide (w &&& 255 ≤ 8)) := by
  obtain ⟨j, hj, e⟩ := pk_andE w (m := 255) 8 rfl
  unfold pl_own
  rw [e]
  rcases Nat.eq_zero_or_pos j with e0 | e0
  · subst e0
    rfl
  · obtain ⟨q, rfl⟩ : ∃ q, j = q + 1 := ⟨j - 1, by omega⟩
    rw [nI_pred]
    have a1 : decide (1 ≤ nI (q + 1)) = decide (1 ≤ q + 1) := decide_eq_decide.mpr (nI_leI (a := 1) (by decide) (by omega))
    have a2 : decide (nI (q + 1) ≤ 8) = decide (q + 1 ≤ 8) := decide_eq_decide.mpr (nI_leI (b := 8) (by omega) (by decide))
    have a3 : decide (0 ≤ nI q) = true := decide_eq_true (nI_pos' (by omega))
    have a4 : decide (nI q < 8) = decide (q < 8) := decide_eq_decide.mpr (nI_ltI (b := 8) (by omega) (by decide))
    unfold fk_isT
    rw [a1, a2, a3, a4]
    by_cases c : q < 8
    · simp [c]; omega
    · simp [c]; omega
theorem kk_owner_eq (S : fk_S) (ha : a < 16) : kk_owner S (nI a) = if fk_isT (pl_own (S 0 a)) = true then some (pl_own (S 0 a)).toNatClampNeg else none := by
  unfold kk_owner
  rw [pl_own_isT, nI_clamp (by omega)]
  by_cases c : 1 ≤ S 0 a &&& 255 ∧ S 0 a &&& 255 ≤ 8
  · rw [if_pos ⟨fk_isA_nI ha, c.1, c.2⟩, if_pos (by rw [decide_eq_true c.1, decide_eq_true c.2]; rfl)]
    rfl
  · rw [if_neg (fun z => c z.2), if_neg (fun z => c (by simpa using z))]
theorem kk_owner_own (S : fk_S) (ha : a < 16) (ht : t < 8) : kk_owner S (nI a) = some t ↔ pl_own (S 0 a) = nI t := by
  rw [kk_owner_eq S ha]
  constructor
  · intro h
    by_cases c : fk_isT (pl_own (S 0 a)) = true
    · rw [if_pos c] at h
      obtain ⟨u, hu, e⟩ := fk_isT_of c
      rw [e, nI_clamp (by omega)] at h
      cases h
      exact e
    · rw [if_neg c] at h
      cases h
  · intro h
    rw [h, if_pos (fk_isT_nI ht), nI_clamp (by omega)]
/-- whoever is LOCKING at an address, the first -/
theorem kk_lk_eq (h : kq_I n S P) (ha : a < 16) : kk_lk S (nI a) = (kq_lk S a).head? := by
  unfold kk_lk kq_lk
  rw [kq_first h.J (by omega)]
  refine congrArg List.head? (List.filter_congr (fun w hw => ?_))
  have hw8 := (kq_mem.mp hw).1
  by_cases c : S 1 w = 2
  · have : S 4 w = 255 := by
      rcases (h.T hw8).1 with x | x | x | x
      · rw [x.1] at c; exact absurd c (by decide)
      · rw [x.1] at c; exact absurd c (by decide)
      · exact x.2.2
      · rw [x.1] at c; exact absurd c (by decide)
    rw [decide_eq_true c, this]
    rfl
  · rw [decide_eq_false c]
    rfl
theorem kk_lk_of {x : Int32} (h1 : S' 1 = S 1) (h2 : S' 2 = S 2) (h3 : S' 3 = S 3) (h4 : S' 4 = S 4) (h7 : S' 7 = S 7) : kk_lk S' x = kk_lk S x := by
  unfold kk_lk kk_first
  have e1 : kk_fits S' x 2 255 = kk_fits S x 2 255 := by
    funext w
    unfold kk_fits
    rw [h1, h3, h4]
  have e2 : kk_ahead S' = kk_ahead S := by
    funext w z
    unfold kk_ahead
    rw [h2, h7]
  rw [e1, e2]
theorem kq_A_of (hJ : kq_J S) (ha : a < 16) (h2 : S' 2 = S 2) (h3 : S' 3 = S 3) (h7 : S' 7 = S 7) : kq_A S' a = kq_A S a := by
  unfold kq_A
  refine kq_congr (hJ.A (by omega)) (fun w _ => ?_) (fun w _ _ => ?_)
  · unfold kq_PA
    rw [h3]
  · rw [h2, h7]
    exact ⟨rfl, rfl⟩
/-- who leaves the queues is not among the waiters any more -/
theorem kq_A_out (hJ : kq_J S) (ha : a < 16) (ho : ∀ w, w ≠ v → S' 3 w = S 3 w ∧ S' 2 w = S 2 w ∧ S' 7 w = S 7 w) (hv : S' 3 v ≠ nI a) : kq_A S' a = (kq_A S a).filter (fun w => !decide (w = v)) := by
  unfold kq_A
  rw [kq_filter (hJ.A (by omega))]
  refine kq_congr ((hJ.A (a := a) (by omega)).and (fun w _ h9 => ?_)) (fun w _ => ?_) (fun w _ h9 => ?_)
  · simp only [Bool.and_eq_true] at h9
    exact h9.1
  · unfold kq_PA
    by_cases c : w = v
    · subst c
      simp [hv]
    · rw [(ho w c).1]
      simp [c]
  · simp only [Bool.and_eq_true, Bool.not_eq_true', decide_eq_false_iff_not] at h9
    exact ⟨(ho w h9.2).2.1, (ho w h9.2).2.2⟩
theorem kq_A_end (hJ : kq_J S) (ha : a < 16) (r : Int32) : kq_A (kk_end S v r) a = (kq_A S a).filter (fun w => !decide (w = v)) :=
  kq_A_out hJ ha (fun w hw => ⟨kk_end_o hw (by decide) (by decide), kk_end_o hw (by decide) (by decide), kk_end_o hw (by decide) (by decide)⟩) (by rw [kk_end_3]; exact fun e => fk_nI_m1 (by omega) e.symm)
/-- without the first one: the tail -/
theorem kq_tail {p q : Nat → Bool} {L : List Nat} (hn : L.Nodup) {l : List Nat} (h : L.filter p = v :: l) (hq : ∀ w, w ≠ v → q w = p w) : (L.filter (fun w => !decide (w = v))).filter q = l := by
  have e : (L.filter (fun w => !decide (w = v))).filter q = (L.filter p).filter (fun w => !decide (w = v)) := by
    rw [List.filter_filter, List.filter_filter]
    refine List.filter_congr (fun w _ => ?_)
    by_cases c : w = v
    · simp [c]
    · rw [hq w c, Bool.and_comm]
  rw [e, h, List.filter_cons_of_neg (by simp)]
  have hnl : (v :: l).Nodup := by
    rw [← h]
    exact hn.filter _
  rw [List.filter_eq_self]
  intro w hw
  have : w ≠ v := fun z => by
    rw [z] at hw
    exact (List.nodup_cons.mp hnl).1 hw
  simp [this]
theorem kq_lk_end (h : kq_I n S P) (ha : a < 16) {l : List Nat} (hl : kq_lk S a = v :: l) (r : Int32) : kq_lk (kk_end S v r) a = l := by
  unfold kq_lk at hl ⊢
  rw [kq_A_end h.J ha]
  exact kq_tail (kq_nd _ _) hl (fun w hw => by rw [kk_end_o hw (by decide) (by decide)])
/-! the list of a thread without an address -/
theorem fk_find_spec {x : Int32} : ∀ (m i : Nat) {p : Nat}, fk_find S t x m i = some p → S 11 (16 * t + p) = x := by
  intro m
  induction m with
  | zero => intro i p h; cases h
  | succ m ih =>
    intro i p h
    simp only [fk_find] at h
    by_cases e : S 11 (16 * t + i) = x
    · rw [if_pos e] at h
      cases h
      exact e
    · rw [if_neg e] at h
      exact ih (i + 1) h
theorem kk_addrAt_N {k j : Nat} (hs : S 10 t = nI k) (hk : k ≤ 16) (hj : j < k) : kk_addrAt S t (nI j) = S 11 (16 * t + j) := by
  unfold kk_addrAt
  rw [hs, if_pos ⟨nI_pos' (by omega), nI_lt hj (by omega)⟩, nI_clamp (by omega)]
theorem kk_drop_not (h : fk_ls S) (ht : t < 8) {x : Int32} : ∃ k, k ≤ 16 ∧ kk_drop S t x 10 t = nI k ∧ ∀ j, j < k → kk_drop S t x 11 (16 * t + j) ≠ x := by
  obtain ⟨k, hk, hs, hv, hd⟩ := h t ht
  unfold kk_drop
  cases hp : fk_place S t x with
  | none =>
    refine ⟨k, hk, hs, fun j hj => ?_⟩
    unfold fk_place at hp
    rw [hs, nI_clamp (by omega)] at hp
    exact fk_find_none k 0 hp j (by omega) (by omega)
  | some p =>
    have hpl := fk_place_lt hk hs hp
    have hx : S 11 (16 * t + p) = x := fk_find_spec _ _ hp
    obtain ⟨q, rfl⟩ : ∃ q, k = q + 1 := ⟨k - 1, by omega⟩
    refine ⟨q, by omega, ?_, fun j hj => ?_⟩
    · show fk_up _ 10 t (S 10 t - 1) 10 t = nI q
      rw [fk_up_s, hs, nI_pred]
    · show fk_up (fk_shift t ((S 10 t).toNatClampNeg - (p + 1)) p S) 10 t (S 10 t - 1) 11 (16 * t + j) ≠ x
      rw [fk_up_f (by decide), hs, nI_clamp (by omega), fk_shift_11]
      by_cases c : 16 * t + p ≤ 16 * t + j ∧ 16 * t + j < 16 * t + p + (q + 1 - (p + 1))
      · rw [if_pos c, ← hx]
        exact fun e => hd p (j + 1) (by omega) (by omega) e.symm
      · rw [if_neg c, ← hx]
        exact fun e => hd j p (by omega) hpl e
theorem kk_drop_o {x : Int32} (hz : fk_sz S) (ht : t < 8) (hu : u < 8) (hne : u ≠ t) : kk_drop S t x 10 u = S 10 u := by
  unfold kk_drop
  cases fk_place S t x with
  | none => rfl
  | some p =>
    show fk_up _ 10 t (S 10 t - 1) 10 u = _
    rw [fk_up_i hne, fk_shift_10]
theorem kq_unlock (hG : kq_G n S P) (ht : t < 8) (ha : a < 16) (hn : n < 2 ^ 17) (hs0 : S 1 t = 0) : kk_unlockR S t a = fk_oI (kq_lk S a).head? ∧ kq_G (n + 1) (kk_unlock S t a) P ∧
    (∃ k, k ≤ 16 ∧ kk_unlock S t a 10 t = nI k ∧ ∀ j, j < k → ¬ kk_addrAt (kk_unlock S t a) t (nI j) = nI a) ∧ (kq_lk S a = [] → kk_unlock S t a 0 a = 0) ∧
    ∀ v l, kq_lk S a = v :: l → kk_unlock S t a 0 a = nI (v + 1) ||| (if 1 < (kq_lk S a).length then -2147483648 else 0) ∧ kk_unlock S t a 1 v = 0 ∧ kk_unlock S t a 8 v = 3 ∧ pl_last S < kk_unlock S t a 9 v ∧ v < 8 := by
  obtain ⟨hI, hDd⟩ := id hG
  have hI0 := hI.drop ht (nI a)
  have hX : vp_in (nI a) 16 := vp_in_nI ha (by decide)
  have f : ∀ f, f ≠ 10 → f ≠ 11 → kk_drop S t (nI a) f = S f := kk_drop_f
  have elk : kk_lk (kk_drop S t (nI a)) (nI a) = (kq_lk S a).head? := by
    rw [kk_lk_of (f 1 (by decide) (by decide)) (f 2 (by decide) (by decide)) (f 3 (by decide) (by decide)) (f 4 (by decide) (by decide)) (f 7 (by decide) (by decide)), kk_lk_eq hI ha]
  have h1t : ¬ kk_drop S t (nI a) 1 t = 2 := by rw [f 1 (by decide) (by decide), hs0]; decide
  obtain ⟨o1, o2⟩ := kk_pass_o (x := nI a) (b := false) hI0.sz ht h1t
  have hI1 := hI0.pass (by omega) hX false
  have hD1 : kq_D (kk_unlock S t a) := by
    intro u hu e
    by_cases c : u = t
    · rw [c] at e
      have : kk_unlock S t a 1 t = 0 := (o1 1 (by decide) (by decide) (by decide)).trans ((congrFun (f 1 (by decide) (by decide)) t).trans hs0)
      rw [this] at e
      exact absurd e (by decide)
    · refine kk_pass_D (t := t) hI0.sz (fun w hw hne ew => ?_) u hu c e
      rw [f 1 (by decide) (by decide)] at ew
      rw [kk_drop_o hI.sz ht hw hne]
      exact hDd w hw ew
  refine ⟨by unfold kk_unlockR; rw [elk], ⟨hI1, hD1⟩, ?_, fun hl => ?_, fun v l hl => ?_⟩
  · obtain ⟨k, hk, hs, hnot⟩ := kk_drop_not (x := nI a) hI.1 ht
    have h10 : kk_unlock S t a 10 t = nI k := (o1 10 (by decide) (by decide) (by decide)).trans hs
    refine ⟨k, hk, h10, fun j hj => ?_⟩
    rw [kk_addrAt_N h10 hk hj]
    unfold kk_unlock
    rw [o2 j (by omega)]
    exact hnot j hj
  · unfold kk_unlock
    rw [kk_pass_N (by rw [elk, hl]; rfl), if_pos (fk_isA_nI ha), nI_clamp (by omega), fk_up_s]
    rfl
  · have es : kk_lk (kk_drop S t (nI a)) (nI a) = some v := by rw [elk, hl]; rfl
    obtain ⟨v1, v2, v3⟩ := kk_first_st es
    have hI2 := hI0.end (r := 3) v1 (by omega) (by decide) (Or.inr v3)
    have hl0 : kq_lk (kk_drop S t (nI a)) a = v :: l := by
      unfold kq_lk
      rw [kq_A_of hI.J ha (f 2 (by decide) (by decide)) (f 3 (by decide) (by decide)) (f 7 (by decide) (by decide)), f 1 (by decide) (by decide)]
      exact hl
    have hl2 := kq_lk_end hI0 ha hl0 3
    have e0 : kk_unlock S t a = kk_give (kk_end (kk_drop S t (nI a)) v 3) v (nI a) 0 := kk_pass_S es
    rw [e0]
    refine ⟨?_, ?_, ?_, ?_, v1⟩
    · unfold kk_give
      rw [if_pos (fk_isA_nI ha), kk_add_f 0 (by decide) (by decide), nI_clamp (by omega), fk_up_s]
      unfold kk_word
      rw [kk_lk_eq hI2 ha, hl2, hl, Int32.or_zero]
      cases l with
      | nil => rw [if_pos (show ([] : List Nat).head? = none from rfl), if_neg (by simp)]
      | cons w l => rw [if_neg (by simp), if_pos (by simp)]
    · rw [kk_give_g (by decide) (by decide) (by decide), kk_end_1]
    · rw [kk_give_g (by decide) (by decide) (by decide), kk_end_8]
    · rw [kk_give_g (by decide) (by decide) (by decide), kk_end_9, f 12 (by decide) (by decide)]
      exact hI.ser (by omega)
end
