/-! waits begin -/
theorem kk_begin_k {a b : Nat} {M : fk_S} (h : fk_I a b M) (hb : b < 2 ^ 25) {t : Nat} (st x mk to : Int32) (hst : st = 1 ∨ st = 2) {d : Nat} (hd : to = nI d) (hd2 : d ≤ 10000) : kk_begin (fk_kOf M) t st x mk to = fk_kOf (mm_wait M t x st mk to) := by
  obtain ⟨-, -, -, -, -, T, t1, t2, -⟩ := h
  have hq : ∀ M' : fk_S, mm_q (fk_up M' 1 t st) t = true := by
    intro M'
    unfold mm_q
    rw [fk_up_s]
    rcases hst with rfl | rfl <;> rfl
  unfold kk_begin mm_wait
  rw [fk_kf (f := 12) (i := 0) (by decide) (by decide) (by omega), fk_kf (f := 12) (i := 2) (by decide) (by decide) (by omega)]
  generalize hN : fk_up (fk_up (fk_up (fk_up (fk_up M 1 t st) 4 t mk) 5 t (if to = 0 then 0 else M 12 0 + to)) 12 2 (M 12 2 + 1)) 6 t (M 12 2 + 1) = N
  have hqN : mm_q N t = true := by
    rw [← hN, mm_q_up (by decide), mm_q_up (by decide), mm_q_up (by decide), mm_q_up (by decide)]
    exact hq M
  have hqo : ∀ u, u ≠ t → mm_q N u = mm_q M u := by
    intro u hu
    rw [← hN, mm_q_up (by decide), mm_q_up (by decide), mm_q_up (by decide), mm_q_up (by decide), mm_q_up1 hu]
  have h5 : ¬ to = 0 → ¬ M 12 0 + to = 0 := by
    intro hne e
    rw [t2, hd, nI_add] at e
    have hd0 : d ≠ 0 := fun z => hne (by rw [hd, z]; rfl)
    exact nI_ne0 (n := T + d) (by omega) (by omega) e
  funext g j
  unfold kk_join
  have n7 : fk_up (fk_up (fk_up N 3 t x) 12 3 (N 12 3 + 1)) 7 t (N 12 3 + 1) = kk_join N t x := rfl
  rw [n7, ← kk_join_k N t x hqN]
  unfold kk_join
  have hN123 : N 12 3 = M 12 3 := by
    rw [← hN, fk_up_f (by decide), fk_up_i (by decide), fk_up_f (by decide), fk_up_f (by decide), fk_up_f (by decide)]
  have e0 : ∀ S : fk_S, (∀ f i, ¬ (f = 3 ∧ i = t) → S f i = fk_kOf N f i) → fk_up (fk_up (fk_up S 3 t x) 12 3 (S 12 3 + 1)) 7 t (S 12 3 + 1) g j = fk_up (fk_up (fk_up (fk_kOf N) 3 t x) 12 3 (fk_kOf N 12 3 + 1)) 7 t (fk_kOf N 12 3 + 1) g j := by
    intro S hS
    rw [hS 12 3 (by omega)]
    have z : fk_up S 3 t x = fk_up (fk_kOf N) 3 t x := by
      funext f i
      by_cases e : f = 3 ∧ i = t
      · obtain ⟨rfl, rfl⟩ := e
        rw [fk_up_s, fk_up_s]
      · by_cases e3 : f = 3
        · subst e3
          rw [fk_up_i (fun e4 => e ⟨rfl, e4⟩), fk_up_i (fun e4 => e ⟨rfl, e4⟩), hS 3 i e]
        · rw [fk_up_f e3, fk_up_f e3, hS f i e]
    rw [z]
  refine e0 _ (fun f i hne => ?_)
  rw [← hN]
  by_cases e1 : i = t
  · subst e1
    by_cases f5 : f = 5
    · subst f5
      rw [fk_k5, hN, hqN, ← hN]
      rw [fk_up_f (a := 5) (f := 6) (by decide), fk_up_f (a := 5) (f := 12) (by decide), fk_up_s, fk_up_f (a := 5) (f := 6) (by decide), fk_up_f (a := 5) (f := 12) (by decide), fk_up_s]
      by_cases c : to = 0
      · rw [if_pos c, if_pos c, if_neg (by simp)]
      · rw [if_neg c, if_neg c, if_pos ⟨rfl, h5 c⟩]
    · have f3 : f ≠ 3 := fun e => hne ⟨e, rfl⟩
      by_cases f12 : f = 12 ∧ i = 4
      · obtain ⟨rfl, rfl⟩ := f12
        simp [fk_kOf, fk_up]
      · rw [fk_kf f3 f5 f12]
        have key : ∀ (S : fk_S), (∀ f i, f ≠ 3 → f ≠ 5 → ¬ (f = 12 ∧ i = 4) → S f i = M f i) → fk_up (fk_up (fk_up (fk_up (fk_up S 1 i st) 4 i mk) 5 i (if to = 0 then -1 else M 12 0 + to)) 12 2 (M 12 2 + 1)) 6 i (M 12 2 + 1) f i = fk_up (fk_up (fk_up (fk_up (fk_up M 1 i st) 4 i mk) 5 i (if to = 0 then 0 else M 12 0 + to)) 12 2 (M 12 2 + 1)) 6 i (M 12 2 + 1) f i := by
          intro S hS
          have hSf := hS f i f3 f5 f12
          simp only [fk_up, if_neg f5]
          by_cases a1 : f = 6
          · simp [a1]
          · by_cases a2 : f = 12
            · subst a2
              by_cases a3 : i = 2
              · simp [a3]
              · simp [a3, hSf]
            · by_cases a4 : f = 4
              · simp [a1, a2, a4]
              · by_cases a5 : f = 1
                · simp [a1, a2, a4, a5]
                · simp [a1, a2, a4, a5, hSf]
        exact key _ (fun f i q1 q2 q3 => fk_kf q1 q2 q3)
  · have r : ∀ (S : fk_S) (v : Int32), fk_up (fk_up (fk_up (fk_up (fk_up S 1 t st) 4 t mk) 5 t v) 12 2 (M 12 2 + 1)) 6 t (M 12 2 + 1) f i = (if f = 12 ∧ i = 2 then M 12 2 + 1 else S f i) := by
      intro S v
      have s1 : ∀ (S : fk_S) (f9 : Nat) (v : Int32), fk_up S f9 t v f i = S f i := by
        intro S f9 v
        by_cases e2 : f = f9
        · subst e2; exact fk_up_i e1
        · rw [fk_up_f e2]
      rw [s1]
      by_cases e2 : f = 12
      · subst e2
        by_cases e3 : i = 2
        · subst e3; rw [fk_up_s, if_pos ⟨rfl, rfl⟩]
        · rw [fk_up_i e3, s1, s1, s1, if_neg (fun z => e3 z.2)]
      · rw [fk_up_f e2, s1, s1, s1, if_neg (fun z => e2 z.1)]
    rw [r]
    unfold fk_kOf
    have hqi : mm_q (fk_up (fk_up (fk_up (fk_up (fk_up M 1 t st) 4 t mk) 5 t (if to = 0 then 0 else M 12 0 + to)) 12 2 (M 12 2 + 1)) 6 t (M 12 2 + 1)) i = mm_q M i := by rw [hN]; exact hqo i e1
    rw [hqi]
    by_cases f3 : f = 3
    · subst f3
      have r3 : fk_up (fk_up (fk_up (fk_up (fk_up M 1 t st) 4 t mk) 5 t (if to = 0 then 0 else M 12 0 + to)) 12 2 (M 12 2 + 1)) 6 t (M 12 2 + 1) 3 i = M 3 i := by rw [r, if_neg (by omega)]
      rw [if_neg (show ¬ (3 = 12 ∧ i = 2) by omega), if_pos rfl, if_pos rfl, r3]
    · rw [if_neg f3, if_neg f3]
      by_cases f5 : f = 5
      · subst f5
        have r5 : fk_up (fk_up (fk_up (fk_up (fk_up M 1 t st) 4 t mk) 5 t (if to = 0 then 0 else M 12 0 + to)) 12 2 (M 12 2 + 1)) 6 t (M 12 2 + 1) 5 i = M 5 i := by rw [r, if_neg (by omega)]
        rw [if_neg (by omega), if_pos rfl, if_pos rfl, r5]
      · rw [if_neg f5, if_neg f5, r]
        by_cases c : f = 12 ∧ i = 2
        · rw [if_pos c, if_neg (by omega), if_pos c]
        · rw [if_neg c, if_neg c]
theorem fk_I_wait {a b : Nat} {M : fk_S} (h : fk_I a b M) (ha : a < 2 ^ 30) {t : Nat} (st x mk to : Int32) (hn : mm_q M t = false) (hx : vp_in x 16) {d : Nat} (hd : to = nI d) (hd2 : d ≤ 10000) : fk_I (a + 1) b (mm_wait M t x st mk to) := by
  have h9 := h
  obtain ⟨h1, h2, h3, ⟨J, j1, j2, j3⟩, h5, T, t1, t2, t3⟩ := h
  unfold mm_wait
  generalize hN : fk_up (fk_up (fk_up (fk_up (fk_up M 1 t st) 4 t mk) 5 t (if to = 0 then 0 else M 12 0 + to)) 12 2 (M 12 2 + 1)) 6 t (M 12 2 + 1) = N
  have hqo : ∀ u, u ≠ t → mm_q N u = mm_q M u := by
    intro u hu
    rw [← hN, mm_q_up (by decide), mm_q_up (by decide), mm_q_up (by decide), mm_q_up (by decide), mm_q_up1 hu]
  have r : ∀ f, f ≠ 1 → f ≠ 4 → f ≠ 5 → f ≠ 12 → f ≠ 6 → N f = M f := by
    intro f a1 a2 a3 a4 a5
    rw [← hN, fk_up_f a5, fk_up_f a4, fk_up_f a3, fk_up_f a2, fk_up_f a1]
  have r12 : ∀ i, i ≠ 2 → N 12 i = M 12 i := by
    intro i hi
    rw [← hN, fk_up_f (by decide), fk_up_i hi, fk_up_f (by decide), fk_up_f (by decide), fk_up_f (by decide)]
  have r5 : N 5 t = (if to = 0 then 0 else M 12 0 + to) := by
    rw [← hN, fk_up_f (by decide), fk_up_f (by decide), fk_up_s]
  have r5o : ∀ u, u ≠ t → N 5 u = M 5 u := by
    intro u hu
    rw [← hN, fk_up_f (by decide), fk_up_f (by decide), fk_up_i hu, fk_up_f (by decide), fk_up_f (by decide)]
  have q : ∀ u, mm_q (kk_join N t x) u = mm_q N u := fun u => by unfold kk_join; rw [mm_q_up (by decide), mm_q_up (by decide), mm_q_up (by decide)]
  have rj : ∀ f, f ≠ 3 → f ≠ 12 → f ≠ 7 → kk_join N t x f = N f := fun f a1 a2 a3 => by unfold kk_join; rw [fk_up_f a3, fk_up_f a2, fk_up_f a1]
  have r3 : ∀ u, kk_join N t x 3 u = if u = t then x else M 3 u := by
    intro u
    unfold kk_join
    rw [fk_up_f (by decide), fk_up_f (by decide)]
    by_cases e : u = t
    · subst e; rw [fk_up_s, if_pos rfl]
    · rw [fk_up_i e, if_neg e, r 3 (by decide) (by decide) (by decide) (by decide) (by decide)]
  have r7 : ∀ u, kk_join N t x 7 u = if u = t then nI (J + 1) else M 7 u := by
    intro u
    unfold kk_join
    by_cases e : u = t
    · subst e; rw [fk_up_s, if_pos rfl, r12 3 (by decide), j2, nI_1]
    · rw [fk_up_i e, fk_up_f (by decide), fk_up_f (by decide), if_neg e, r 7 (by decide) (by decide) (by decide) (by decide) (by decide)]
  have s12 : kk_join N t x 12 3 = nI (J + 1) := by
    unfold kk_join
    rw [fk_up_f (by decide), fk_up_s, r12 3 (by decide), j2, nI_1]
  have s120 : kk_join N t x 12 0 = M 12 0 := by
    unfold kk_join
    rw [fk_up_f (by decide), fk_up_i (by decide), fk_up_f (by decide), r12 0 (by decide)]
  refine ⟨fk_ls_of (by rw [rj 10 (by decide) (by decide) (by decide), r 10 (by decide) (by decide) (by decide) (by decide) (by decide)]) (by rw [rj 11 (by decide) (by decide) (by decide), r 11 (by decide) (by decide) (by decide) (by decide) (by decide)]) h1, fun u hu hq => ?_, fun u hu => by rw [rj 2 (by decide) (by decide) (by decide), r 2 (by decide) (by decide) (by decide) (by decide) (by decide)]; exact h3 u hu, ⟨J + 1, by omega, s12, fun u hu => ?_⟩, fun u v hu hv a1 a2 a3 => ?_, T, t1, by rw [s120]; exact t2, fun u hu hq => ?_⟩
  · rw [q] at hq
    rw [r3]
    by_cases e : u = t
    · rw [if_pos e]; exact hx
    · rw [if_neg e]; exact h2 u hu (by rw [← hqo u e]; exact hq)
  · rw [r7]
    by_cases e : u = t
    · rw [if_pos e]; exact ⟨J + 1, Nat.le_refl _, rfl⟩
    · rw [if_neg e]
      obtain ⟨j, hj, ej⟩ := j3 u hu
      exact ⟨j, by omega, ej⟩
  · rw [q] at a1 a2
    rw [r7, r7] at a3
    by_cases e1 : u = t
    · by_cases e2 : v = t
      · rw [e1, e2]
      · rw [if_pos e1, if_neg e2] at a3
        obtain ⟨j, hj, ej⟩ := j3 v hv
        rw [ej] at a3
        have := (nI_eq (by omega) (by omega)).mp a3
        omega
    · by_cases e2 : v = t
      · rw [if_neg e1, if_pos e2] at a3
        obtain ⟨j, hj, ej⟩ := j3 u hu
        rw [ej] at a3
        have := (nI_eq (by omega) (by omega)).mp a3
        omega
      · rw [if_neg e1, if_neg e2] at a3
        rw [hqo u e1] at a1
        rw [hqo v e2] at a2
        exact h5 u v hu hv a1 a2 a3
  · rw [rj 5 (by decide) (by decide) (by decide)]
    by_cases e : u = t
    · subst e
      rw [r5]
      by_cases c : to = 0
      · rw [if_pos c]; exact Or.inl rfl
      · rw [if_neg c, t2, hd, nI_add]
        have hd0 : d ≠ 0 := fun z => c (by rw [hd, z]; rfl)
        exact Or.inr ⟨T + d, rfl, by omega, by omega⟩
    · rw [r5o u e]
      rw [q, hqo u e] at hq
      exact t3 u hu hq
/-! lists and locks -/
theorem fk_find_k (M : fk_S) (t : Nat) (x : Int32) : ∀ n i, fk_find (fk_kOf M) t x n i = fk_find M t x n i := by
  intro n
  induction n with
  | zero => intro i; rfl
  | succ n ih => intro i; simp only [fk_find]; rw [ih, fk_kff (f := 11) (by decide) (by decide) (by decide)]
theorem fk_place_k (M : fk_S) (t : Nat) (x : Int32) : fk_place (fk_kOf M) t x = fk_place M t x := by
  unfold fk_place
  rw [fk_kff (f := 10) (by decide) (by decide) (by decide), fk_find_k]
theorem kk_add_k (M : fk_S) (t : Nat) (x : Int32) : kk_add (fk_kOf M) t x = fk_kOf (kk_add M t x) := by
  unfold kk_add
  rw [fk_place_k, fk_kff (f := 10) (by decide) (by decide) (by decide)]
  split
  · rw [fk_k_up _ _ (by decide) (by decide) (by decide) (by omega), fk_k_up _ _ (by decide) (by decide) (by decide) (by omega)]
  · rfl
theorem fk_shift_k (t : Nat) : ∀ n k (M : fk_S), fk_shift t n k (fk_kOf M) = fk_kOf (fk_shift t n k M) := by
  intro n
  induction n with
  | zero => intro k M; rfl
  | succ n ih =>
    intro k M
    simp only [fk_shift]
    rw [← ih, fk_k_up _ _ (by decide) (by decide) (by decide) (by omega), fk_kff (M := M) (f := 11) (by decide) (by decide) (by decide)]
theorem kk_drop_k (M : fk_S) (t : Nat) (x : Int32) : kk_drop (fk_kOf M) t x = fk_kOf (kk_drop M t x) := by
  unfold kk_drop
  rw [fk_place_k, fk_kff (f := 10) (by decide) (by decide) (by decide)]
  cases fk_place M t x with
  | none => rfl
  | some p =>
    show fk_up (fk_shift t ((M 10 t).toNatClampNeg - (p + 1)) p (fk_kOf M)) 10 t (M 10 t - 1) = fk_kOf (fk_up (fk_shift t ((M 10 t).toNatClampNeg - (p + 1)) p M) 10 t (M 10 t - 1))
    rw [fk_shift_k, fk_k_up _ _ (by decide) (by decide) (by decide) (by omega)]
theorem fk_I_add {a b : Nat} {M : fk_S} (h : fk_I a b M) {t : Nat} (ht : t < 8) {x : Int32} (hx : vp_in x 16) : fk_I a b (kk_add M t x) := fk_I_ls h (kk_add_ls ht hx h.1) kk_add_f
theorem fk_I_drop {a b : Nat} {M : fk_S} (h : fk_I a b M) {t : Nat} (ht : t < 8) {x : Int32} : fk_I a b (kk_drop M t x) := fk_I_ls h (kk_drop_ls ht h.1) kk_drop_f
theorem fk_I_pass {a b : Nat} {M : fk_S} (h : fk_I a b M) {x : Int32} (hx : vp_in x 16) (c : Bool) : fk_I a b (mm_pass M x c) := by
  cases hl : mm_lk M x with
  | none => rw [mm_pass_none hl]; exact fk_I_up h (Or.inl rfl)
  | some t => rw [mm_pass_some hl]; exact fk_I_add (fk_I_up (fk_I_end h) (Or.inl rfl)) (mm_first_lt hl) hx
theorem kk_word_k {a b : Nat} {M : fk_S} (h : fk_I a b M) (ha : a < 2 ^ 20) (t : Nat) (x d : Int32) : kk_word (fk_kOf M) t x d = mm_word M t x d := by
  unfold kk_word mm_word
  rw [kk_lk_k h ha]
theorem kk_give_k {a b : Nat} {M : fk_S} (h : fk_I a b M) (ha : a < 2 ^ 20) (t : Nat) {x d : Int32} (hx : vp_in x 16) : kk_give (fk_kOf M) t x d = fk_kOf (kk_add (fk_up M 0 x.toNatClampNeg (mm_word M t x d)) t x) := by
  unfold kk_give
  rw [if_pos (fk_vp_isA hx), kk_word_k h ha, ← fk_k_up _ _ (by decide) (by decide) (by decide) (by omega), kk_add_k]
theorem kk_pass_k {a b : Nat} {M : fk_S} (h : fk_I a b M) (ha : a < 2 ^ 20) {x : Int32} (hx : vp_in x 16) (c : Bool) : kk_pass (fk_kOf M) x c = fk_kOf (mm_pass M x c) := by
  have e := kk_lk_k h ha x
  cases hl : mm_lk M x with
  | none =>
    rw [mm_pass_none hl]
    unfold kk_pass
    rw [e, hl]
    show (if fk_isA x = true then fk_up (fk_kOf M) 0 x.toNatClampNeg (kk_died c) else fk_kOf M) = _
    rw [if_pos (fk_vp_isA hx), fk_k_up _ _ (by decide) (by decide) (by decide) (by omega)]
  | some t =>
    rw [mm_pass_some hl]
    unfold kk_pass
    rw [e, hl]
    show kk_give (kk_end (fk_kOf M) t (if c then 4 else 3)) t x (kk_died c) = _
    rw [kk_end_k h ha (mm_first_lt hl) (mm_first_q hl (Or.inr rfl)), kk_give_k (fk_I_end h) ha t hx]
/-! owners -/
theorem fk_own_isT (w : Int32) : fk_isT (mm_own w) = (decide (1 ≤ w &&& 255) && decide (w &&& 255 ≤ 8)) := by
  obtain ⟨j, hj, e⟩ := pk_andE w (m := 255) 8 rfl
  unfold mm_own
  rw [e]
  rcases Nat.eq_zero_or_pos j with e0 | e0
  · subst e0
    rfl
  · obtain ⟨q, rfl⟩ : ∃ q, j = q + 1 := ⟨j - 1, by omega⟩
    rw [nI_pred]
    have a1 : decide (1 ≤ nI (q + 1)) = decide (1 ≤ q + 1) := decide_eq_decide.mpr (nI_leI (a := 1) (by decide) (by omega))
    have a2 : decide (nI (q + 1) ≤ 8) = decide (q + 1 ≤ 8) := decide_eq_decide.mpr (nI_leI (b := 8) (by omega) (by decide))
    have a3 : decide (0 ≤ nI q) = true := decide_eq_true (nI_pos' (by omega))
    have a4 : decide (nI q < 8) = decide (q < 8) := decide_eq_decide.mpr (nI_ltI (b := 8) (by omega) (by decide))
    unfold fk_isT
    rw [a1, a2, a3, a4]
    by_cases c : q < 8
    · simp [c]; omega
    · simp [c]; omega
theorem kk_owner_eq (S : fk_S) (x : Int32) : kk_owner S x = if fk_isA x = true ∧ fk_isT (mm_own (S 0 x.toNatClampNeg)) = true then some (mm_own (S 0 x.toNatClampNeg)).toNatClampNeg else none := by
  unfold kk_owner
  rw [fk_own_isT]
  by_cases c : fk_isA x = true ∧ 1 ≤ S 0 x.toNatClampNeg &&& 255 ∧ S 0 x.toNatClampNeg &&& 255 ≤ 8
  · rw [if_pos c, if_pos ⟨c.1, by rw [decide_eq_true c.2.1, decide_eq_true c.2.2]; rfl⟩]
    rfl
  · rw [if_neg c, if_neg (fun z => c ⟨z.1, by simpa using z.2⟩)]
theorem fk_isT_of {w : Int32} (h : fk_isT w = true) : ∃ u, u < 8 ∧ w = nI u := vp_in_of (fk_isT_in h) (by decide)
theorem kk_owner_k (M : fk_S) {x : Int32} (hx : vp_in x 16) : kk_owner (fk_kOf M) x = if fk_isT (mm_own (M 0 x.toNatClampNeg)) = true then some (mm_own (M 0 x.toNatClampNeg)).toNatClampNeg else none := by
  rw [kk_owner_eq, fk_kff (f := 0) (by decide) (by decide) (by decide)]
  by_cases c : fk_isT (mm_own (M 0 x.toNatClampNeg)) = true
  · rw [if_pos ⟨fk_vp_isA hx, c⟩, if_pos c]
  · rw [if_neg (fun z => c z.2), if_neg c]
theorem kk_owner_nI (M : fk_S) {x : Int32} (hx : vp_in x 16) {t : Nat} (ht : t < 8) : kk_owner (fk_kOf M) x = some t ↔ mm_own (M 0 x.toNatClampNeg) = nI t := by
  rw [kk_owner_k M hx]
  constructor
  · intro h
    by_cases c : fk_isT (mm_own (M 0 x.toNatClampNeg)) = true
    · rw [if_pos c] at h
      obtain ⟨u, hu, e⟩ := fk_isT_of c
      rw [e, nI_clamp (by omega)] at h
      cases h
      exact e
    · rw [if_neg c] at h
      cases h
  · intro h
    rw [h, if_pos (fk_isT_nI ht), nI_clamp (by omega)]
theorem kk_held_k {a b : Nat} {M : fk_S} (h : fk_I a b M) {t : Nat} (ht : t < 8) : ∀ (n : Nat) (w : Int32), kk_held (fk_kOf M) t n (if fk_isT w = true then some w.toNatClampNeg else none) = mm_dead M t n w false := by
  intro n
  induction n with
  | zero => intro w; rfl
  | succ n ih =>
    intro w
    by_cases c : fk_isT w = true
    · rw [if_pos c]
      obtain ⟨u, hu, rfl⟩ := fk_isT_of c
      simp only [kk_held, mm_dead]
      rw [fk_kf (f := 1) (by decide) (by decide) (by omega), nI_clamp (by omega)]
      by_cases c2 : M 1 u = 2
      · have hq : mm_q M u = true := by unfold mm_q; rw [c2]; rfl
        have hx := h.2.1 u hu hq
        rw [if_pos c2, fk_k3 hq, if_neg (show ¬ (false = true) from Bool.false_ne_true), if_pos (show fk_isT (nI u) = true ∧ M 1 u = 2 from ⟨c, c2⟩)]
        by_cases c3 : mm_own (M 0 (M 3 u).toNatClampNeg) = nI t
        · rw [if_pos ((kk_owner_nI M hx ht).mpr c3), decide_eq_true c3]
          cases n with
          | zero => rfl
          | succ n => simp [mm_dead]
        · rw [if_neg (fun z => c3 ((kk_owner_nI M hx ht).mp z)), decide_eq_false c3, kk_owner_k M hx]
          exact ih _
      · rw [if_neg c2, if_neg (show ¬ (false = true) from Bool.false_ne_true), if_neg (show ¬ (fk_isT (nI u) = true ∧ M 1 u = 2) from fun z => c2 z.2)]
    · rw [if_neg c]
      simp only [kk_held, mm_dead]
      rw [if_neg (show ¬ (false = true) from Bool.false_ne_true), if_neg (show ¬ (fk_isT w = true ∧ M 1 w.toNatClampNeg = 2) from fun z => c z.1)]
