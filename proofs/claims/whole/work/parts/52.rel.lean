/-! the public calls: the kernel's numbers go as the model's -/
theorem kk_q_k {a b : Nat} {M : fk_S} (h : fk_I a b M) {t : Nat} (ht : t < 8) : kk_q (fk_kOf M) t = mm_q M t := by
  unfold kk_q
  by_cases hq : mm_q M t = true
  · rw [fk_k3 hq, hq]
    obtain ⟨j, hj, e⟩ := vp_in_of (h.2.1 t ht hq) (by decide)
    rw [e]
    exact decide_eq_true (fk_nI_m1 (by omega))
  · rw [fk_k3n hq, eq_false_of_ne_true hq]
    rfl
theorem fk_nq {M : fk_S} {t : Nat} {w : Int32} (h : M 1 t = w) (hw : w = 0 ∨ w = 3) : mm_q M t = false := by
  unfold mm_q
  rw [h]
  rcases hw with rfl | rfl <;> rfl
theorem fk_up_same (S : fk_S) {f i : Nat} {v : Int32} (h : S f i = v) : fk_up S f i v = S := by
  funext g j
  by_cases e : g = f
  · subst e
    by_cases e2 : j = i
    · subst e2; rw [fk_up_s, h]
    · rw [fk_up_i e2]
  · rw [fk_up_f e]
theorem fk_up_comm (S : fk_S) {f g i j : Nat} {v w : Int32} (h : f ≠ g) : fk_up (fk_up S f i v) g j w = fk_up (fk_up S g j w) f i v := by
  funext a b
  simp only [fk_up]
  by_cases h1 : a = g
  · subst h1
    simp [Ne.symm h]
  · simp [h1]
theorem fk_k_offn (M : fk_S) (t : Nat) (w : Int32) (hw : w = 0 ∨ w = 3) (hn : mm_q M t = false) : fk_kOf (fk_up M 1 t w) = fk_up (fk_kOf M) 1 t w := by
  have hn' : ¬ mm_q M t = true := by rw [hn]; decide
  rw [fk_k_off M t w hw, fk_up_same (fk_up (fk_kOf M) 1 t w) (f := 3) (by rw [fk_up_f (by decide)]; exact fk_k3n hn'), fk_up_same (fk_up (fk_kOf M) 1 t w) (f := 5) (by rw [fk_up_f (by decide), fk_k5, if_neg (fun z => hn' z.1)])]
theorem kk_await_k {a b : Nat} {M : fk_S} (h : fk_I a b M) (hb : b < 2 ^ 25) {t x : Nat} (v mk to : Int32) {d : Nat} (hd : to = nI d) (hd2 : d ≤ 10000) : kk_await (fk_kOf M) t x v mk to = fk_kOf (if M 0 x = v then mm_wait M t (nI x) 1 mk to else M) := by
  unfold kk_await
  rw [fk_kf (f := 0) (by decide) (by decide) (by omega)]
  by_cases c : M 0 x = v
  · rw [if_pos c, if_pos c, kk_begin_k h hb 1 (nI x) mk to (Or.inl rfl) hd hd2]
  · rw [if_neg c, if_neg c]
theorem fk_I_await {a b : Nat} {M : fk_S} (h : fk_I a b M) (ha : a < 2 ^ 30) {t x : Nat} (hx : x < 16) (v mk to : Int32) {d : Nat} (hd : to = nI d) (hd2 : d ≤ 10000) (hr : M 1 t = 0) : fk_I (a + 8) b (if M 0 x = v then mm_wait M t (nI x) 1 mk to else M) := by
  split
  · exact (fk_I_wait h ha 1 (nI x) mk to (fk_nq hr (Or.inl rfl)) (vp_in_nI hx (by decide)) hd hd2).wk (by omega) (Nat.le_refl _)
  · exact h.wk (by omega) (Nat.le_refl _)
theorem kk_requeue_k {a b : Nat} {M : fk_S} (h : fk_I a b M) (ha : a + 8 < 2 ^ 20) {x y : Nat} (hy : y < 16) (v : Int32) {k j : Nat} (hj : j ≤ 8) : kk_requeueR (fk_kOf M) x y v k j = mm_requeueR M x y v k j ∧ kk_requeue (fk_kOf M) x y v k j = fk_kOf (mm_requeue M x y v k j) ∧ fk_I (a + 8) b (mm_requeue M x y v k j) := by
  have h0 : fk_I a b (fk_up M 12 4 0) := fk_I_up h (by omega)
  obtain ⟨w1, w2⟩ := kk_wake_k (b := b) (by omega : a < 2 ^ 20) (nI x) 255 k _ h0
  obtain ⟨m1, m2⟩ := kk_move_k (nI x) (nI y) (vp_in_nI hy (by decide)) j a _ (by omega) w2
  have e0 := fk_k_set M 0
  unfold kk_requeueR kk_requeue mm_requeueR mm_requeue
  rw [fk_kf (f := 0) (i := x) (by decide) (by decide) (by omega), ← e0, w1]
  simp only [m1]
  by_cases c : M 0 x = v
  · simp only [if_pos c]
    exact ⟨trivial, trivial, m2.wk (by omega) (Nat.le_refl _)⟩
  · simp only [if_neg c]
    exact ⟨trivial, trivial, h0.wk (by omega) (Nat.le_refl _)⟩
theorem kk_lock_k {a b : Nat} {M : fk_S} (h : fk_I a b M) (ha : a < 2 ^ 20) (hb : b < 2 ^ 25) {t x : Nat} (ht : t < 8) (hx : x < 16) (to : Int32) {d : Nat} (hd : to = nI d) (hd2 : d ≤ 10000) (hr : M 1 t = 0) : kk_lockR (fk_kOf M) t x = mm_lockR M t x ∧ kk_lock (fk_kOf M) t x to = fk_kOf (mm_lock M t x to) ∧ fk_I (a + 8) b (mm_lock M t x to) := by
  have hX : vp_in (nI x) 16 := vp_in_nI hx (by decide)
  have hc : (nI x).toNatClampNeg = x := nI_clamp (by omega)
  have hw : ∀ t', t' < 8 → fk_isT (mm_own (M 0 x)) = true → mm_own (M 0 x) = nI (mm_own (M 0 x)).toNatClampNeg ∧ (mm_own (M 0 x)).toNatClampNeg < 8 := by
    intro _ _ c
    obtain ⟨u, hu, e⟩ := fk_isT_of c
    rw [e, nI_clamp (by omega)]
    exact ⟨rfl, hu⟩
  unfold kk_lockR mm_lockR kk_lock mm_lock
  rw [fk_kf (f := 0) (i := x) (by decide) (by decide) (by omega), kk_owner_k M hX, hc]
  by_cases c0 : M 0 x &&& 255 = 0
  · have c1 : mm_own (M 0 x) = -1 := by unfold mm_own; rw [c0]; rfl
    simp only [if_pos c0, if_pos c1]
    rw [kk_give_k h ha t hX, hc]
    exact ⟨by first | trivial | rfl, by first | trivial | rfl, (fk_I_add (fk_I_up h (Or.inl rfl)) ht hX).wk (by omega) (Nat.le_refl _)⟩
  · have c1 : ¬ mm_own (M 0 x) = -1 := by
      intro e
      apply c0
      unfold mm_own at e
      have := congrArg (· + 1) e
      simpa using this
    simp only [if_neg c0, if_neg c1]
    by_cases c2 : fk_isT (mm_own (M 0 x)) = true
    · obtain ⟨w1, w2⟩ := hw t ht c2
      simp only [if_pos c2]
      generalize (mm_own (M 0 x)).toNatClampNeg = o at w1 w2
      rw [w1]
      show (if fk_kOf M 1 o = 3 then (4 : Int32) else _) = _ ∧ (if fk_kOf M 1 o = 3 then fk_kOf M else _) = _ ∧ _
      rw [fk_kf (f := 1) (i := o) (by decide) (by decide) (by omega)]
      have hheld := kk_held_k h ht 8 (nI o)
      rw [if_pos (fk_isT_nI w2), nI_clamp (by omega)] at hheld
      by_cases c3 : o = t
      · subst c3
        have c4 : ¬ M 1 o = 3 := by rw [hr]; decide
        simp only [if_neg c4, if_pos]
        exact ⟨by first | trivial | rfl, by first | trivial | rfl, h.wk (by omega) (Nat.le_refl _)⟩
      · have c5 : ¬ nI o = nI t := fun e => c3 ((nI_eq (by omega) (by omega)).mp e)
        simp only [if_neg c5, if_neg c3, hheld]
        by_cases c4 : M 1 o = 3
        · simp only [if_pos c4]
          exact ⟨by first | trivial | rfl, by first | trivial | rfl, h.wk (by omega) (Nat.le_refl _)⟩
        · simp only [if_neg c4]
          by_cases c6 : mm_dead M t 8 (nI o) false = true
          · simp only [if_pos c6]
            exact ⟨by first | trivial | rfl, by first | trivial | rfl, h.wk (by omega) (Nat.le_refl _)⟩
          · simp only [if_neg c6]
            have h2 : fk_I a b (fk_up M 0 x (M 0 x ||| -2147483648)) := fk_I_up h (Or.inl rfl)
            refine ⟨by first | trivial | rfl, ?_, (fk_I_wait h2 (by omega) 2 (nI x) 255 to (fk_nq (w := 0) (by rw [fk_up_f (by decide)]; exact hr) (Or.inl rfl)) hX hd hd2).wk (by omega) (Nat.le_refl _)⟩
            rw [← fk_k_up _ _ (by decide) (by decide) (by decide) (by omega), kk_begin_k h2 hb 2 (nI x) 255 to (Or.inr rfl) hd hd2]
    · have c3 : ¬ mm_own (M 0 x) = nI t := fun e => c2 (by rw [e]; exact fk_isT_nI ht)
      simp only [if_neg c2, if_neg c3]
      exact ⟨by first | trivial | rfl, by first | trivial | rfl, h.wk (by omega) (Nat.le_refl _)⟩
theorem kk_unlock_k {a b : Nat} {M : fk_S} (h : fk_I a b M) (ha : a < 2 ^ 20) {t x : Nat} (ht : t < 8) (hx : x < 16) : kk_unlockR (fk_kOf M) t x = fk_oI (mm_lk (kk_drop M t (nI x)) (nI x)) ∧ kk_unlock (fk_kOf M) t x = fk_kOf (mm_pass (kk_drop M t (nI x)) (nI x) false) ∧ fk_I a b (mm_pass (kk_drop M t (nI x)) (nI x) false) := by
  have hX : vp_in (nI x) 16 := vp_in_nI hx (by decide)
  have h2 := fk_I_drop h ht (x := nI x)
  unfold kk_unlockR kk_unlock
  rw [kk_drop_k, kk_lk_k h2 ha, kk_pass_k h2 ha hX]
  exact ⟨rfl, rfl, fk_I_pass h2 hX false⟩
theorem mm_first_31 (M : fk_S) (t : Nat) (x mk : Int32) : mm_first (fk_up M 1 t 3) x 2 mk = mm_first (fk_up M 1 t 0) x 2 mk := by
  refine fk_best_congr (fun u _ => ?_) (fun u v _ _ _ _ => ?_)
  · unfold mm_fits
    rw [fk_up_f (a := 3) (by decide), fk_up_f (a := 3) (by decide), fk_up_f (a := 4) (by decide), fk_up_f (a := 4) (by decide)]
    by_cases e : u = t
    · subst e
      rw [fk_up_s, fk_up_s]
      rfl
    · rw [fk_up_i e, fk_up_i e]
  · unfold mm_lt mm_key
    rw [fk_up_f (a := 2) (by decide), fk_up_f (a := 2) (by decide), fk_up_f (a := 7) (by decide), fk_up_f (a := 7) (by decide)]
theorem mm_leave_31 (M : fk_S) (t : Nat) : fk_up (mm_leave M t 0) 1 t 3 = mm_leave M t 3 := by
  unfold mm_leave mm_lk
  rw [mm_first_31]
  split
  · rw [← fk_up_comm _ (by decide), fk_up_up]
  · rw [fk_up_up]
theorem kk_ex0_k {a b : Nat} {M : fk_S} (h : fk_I a b M) (ha : a < 2 ^ 20) {t : Nat} (ht : t < 8) : kk_ex0 (fk_kOf M) t = fk_kOf (mm_leave M t 3) := by
  unfold kk_ex0
  rw [kk_q_k h ht]
  by_cases hq : mm_q M t = true
  · rw [if_pos hq, kk_leave_k h ha ht hq, ← mm_leave_31, fk_k_offn _ t 3 (Or.inr rfl)]
    refine fk_nq (w := 0) ?_ (Or.inl rfl)
    unfold mm_leave
    split
    · rw [fk_up_f (by decide), fk_up_s]
    · rw [fk_up_s]
  · rw [if_neg hq, ← fk_k_offn _ t 3 (Or.inr rfl) (eq_false_of_ne_true hq)]
    unfold mm_leave
    rw [if_neg]
    intro z
    apply hq
    unfold mm_q
    rw [z.1]
    rfl
theorem kk_exl_k {a b : Nat} (ha : a < 2 ^ 20) {t : Nat} (ht : t < 8) {k : Nat} (hk : k ≤ 16) : ∀ (n i : Nat) (M : fk_S), i + n = k → fk_I a b M → M 10 t = nI k → M 1 t = 3 → kk_exl t n i (fk_kOf M) = ((mm_exl t n i M).1, fk_kOf (mm_exl t n i M).2) ∧ fk_I a b (mm_exl t n i M).2 := by
  intro n
  induction n with
  | zero => intro i M _ h _ _; exact ⟨rfl, h⟩
  | succ n ih =>
    intro i M hi h hs h3
    have hv : vp_in (M 11 (16 * t + i)) 16 := by
      obtain ⟨k2, hk2, hs2, hv2, -⟩ := h.1 t ht
      rw [hs2] at hs
      have := (nI_eq (by omega) (by omega)).mp hs
      subst this
      exact hv2 i (by omega)
    have hA : kk_addrAt (fk_kOf M) t (nI i) = M 11 (16 * t + i) := by
      unfold kk_addrAt
      rw [fk_kff (f := 10) (by decide) (by decide) (by decide), fk_kff (f := 11) (by decide) (by decide) (by decide), hs, if_pos ⟨nI_pos' (by omega), (nI_ltI (by omega) (by omega)).mpr (by omega)⟩, nI_clamp (by omega)]
    simp only [kk_exl, mm_exl]
    rw [hA, kk_pass_k h ha hv]
    by_cases c : mm_own (M 0 (M 11 (16 * t + i)).toNatClampNeg) = nI t
    · obtain ⟨o1, o2, o3⟩ := mm_pass_o (a := M 11 (16 * t + i)) (b := true) ht h3 h.1
      obtain ⟨i1, i2⟩ := ih (i + 1) (mm_pass M (M 11 (16 * t + i)) true) (by omega) (fk_I_pass h hv true) (o1.trans hs) o3
      rw [if_pos ((kk_owner_nI M hv ht).mpr c), if_pos c, i1]
      exact ⟨rfl, i2⟩
    · rw [if_neg (fun z => c ((kk_owner_nI M hv ht).mp z)), if_neg c]
      exact ih (i + 1) M (by omega) h hs h3
theorem fk_I_clear {a b : Nat} {M : fk_S} (h : fk_I a b M) {t : Nat} : fk_I a b (fk_up M 10 t 0) := by
  refine fk_I_ls h (fun u hu => ?_) (fun f h1 h2 => fk_up_f h1)
  obtain ⟨k, hk, hs, hv, hd⟩ := h.1 u hu
  rw [fk_up_f (a := 11) (by decide)]
  by_cases e : u = t
  · subst e
    exact ⟨0, by omega, by rw [fk_up_s]; rfl, fun j hj => absurd hj (by omega), fun i j _ hj => absurd hj (by omega)⟩
  · exact ⟨k, hk, by rw [fk_up_i e]; exact hs, hv, hd⟩
theorem kk_exit_k {a b : Nat} {M : fk_S} (h : fk_I a b M) (ha : a < 2 ^ 20) {t : Nat} (ht : t < 8) : kk_exitR (fk_kOf M) t = mm_exitR M t ∧ kk_exit (fk_kOf M) t = fk_kOf (mm_exit M t) ∧ fk_I a b (mm_exit M t) := by
  obtain ⟨k, hk, hs, -⟩ := h.1 t ht
  have h3 : mm_leave M t 3 1 t = 3 := by
    unfold mm_leave
    split
    · rw [fk_up_f (by decide), fk_up_s]
    · rw [fk_up_s]
  obtain ⟨e1, e2⟩ := kk_exl_k (b := b) ha ht hk k 0 (mm_leave M t 3) (by omega) (fk_I_leave h (Or.inr rfl)) (by rw [mm_leave_10]; exact hs) h3
  unfold kk_exitR mm_exitR kk_exit mm_exit
  rw [fk_kff (f := 10) (by decide) (by decide) (by decide), kk_ex0_k h ha ht, hs, nI_clamp (by omega), e1]
  exact ⟨rfl, (fk_k_up _ _ (by decide) (by decide) (by decide) (by omega)).symm, fk_I_clear e2⟩
theorem fk_I_prio {a b : Nat} {M : fk_S} {t : Nat} {v : Int32} (h : fk_I a b M) {p : Nat} (hp : p ≤ 9) (hv : v = nI p) : fk_I a b (fk_up M 2 t v) := by
  obtain ⟨h1, h2, h3, ⟨J, j1, j2, j3⟩, h5, T, t1, t2, t3⟩ := h
  have q : ∀ u, mm_q (fk_up M 2 t v) u = mm_q M u := fun u => mm_q_up (by decide)
  have r : ∀ f, f ≠ 2 → fk_up M 2 t v f = M f := fun f hf => fk_up_f hf
  refine ⟨fk_ls_up (by decide) (by decide) h1, fun u hu hq => by rw [r 3 (by decide)]; exact h2 u hu (by rw [← q]; exact hq), fun u hu => ?_, ⟨J, j1, by rw [r 12 (by decide)]; exact j2, fun u hu => by rw [r 7 (by decide)]; exact j3 u hu⟩, fun u w hu hw a1 a2 a3 => by rw [r 7 (by decide)] at a3; rw [q] at a1 a2; exact h5 u w hu hw a1 a2 a3, T, t1, by rw [r 12 (by decide)]; exact t2, fun u hu hq => by rw [r 5 (by decide)]; exact t3 u hu (by rw [← q]; exact hq)⟩
  by_cases e : u = t
  · subst e; exact ⟨p, hp, by rw [fk_up_s]; exact hv⟩
  · rw [fk_up_i e]; exact h3 u hu
theorem kk_start_k {a b : Nat} {M : fk_S} (h : fk_I a b M) {t : Nat} (h3 : M 1 t = 3) : kk_start (fk_kOf M) t = fk_kOf (kk_start M t) ∧ fk_I a b (kk_start M t) := by
  unfold kk_start
  rw [fk_k_up _ _ (by decide) (by decide) (by decide) (by omega), fk_k_up _ _ (by decide) (by decide) (by decide) (by omega), fk_k_up _ _ (by decide) (by decide) (by decide) (by omega), fk_k_offn _ t 0 (Or.inl rfl) (fk_nq h3 (Or.inr rfl))]
  exact ⟨rfl, fk_I_up (fk_I_up (fk_I_prio (p := 0) (fk_I_off h (Or.inl rfl)) (by omega) rfl) (by omega)) (by omega)⟩
theorem kk_prio_k {a b : Nat} {M : fk_S} (h : fk_I a b M) (ha : a < 2 ^ 20) {t : Nat} (ht : t < 8) {v : Int32} {p : Nat} (hp : p ≤ 9) (hv : v = nI p) : kk_prio (fk_kOf M) t v = fk_kOf (mm_prio M t v) ∧ fk_I (a + 8) b (mm_prio M t v) := by
  have h2 := fk_I_prio (t := t) h hp hv
  unfold kk_prio mm_prio
  rw [fk_kf (f := 2) (i := t) (by decide) (by decide) (by omega)]
  by_cases c : v = M 2 t
  · rw [if_pos c, if_pos c.symm, fk_up_same M c.symm]
    exact ⟨rfl, h.wk (by omega) (Nat.le_refl _)⟩
  · rw [if_neg c, if_neg (show ¬ M 2 t = v from fun z => c z.symm), ← fk_k_up _ _ (by decide) (by decide) (by decide) (by omega), kk_q_k h2 ht]
    by_cases hq : mm_q (fk_up M 2 t v) t = true
    · have hq' : mm_q M t = true := by rw [← mm_q_up (f := 2) (i := t) (v := v) (by decide)]; exact hq
      rw [if_pos hq, if_pos hq, fk_k3 hq', kk_join_k _ t _ hq]
      exact ⟨rfl, (fk_I_join h2 (h.2.1 t ht hq') (by omega)).wk (by omega) (Nat.le_refl _)⟩
    · rw [if_neg hq, if_neg hq]
      exact ⟨rfl, h2.wk (by omega) (Nat.le_refl _)⟩
