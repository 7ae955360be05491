/-! the kernel's numbers out of the model's: an address and a deadline only of a thread in a queue -/
def fk_kOf (M : fk_S) : fk_S := fun f i => if f = 3 then (if mm_q M i = true then M 3 i else -1) else if f = 5 then (if mm_q M i = true ∧ ¬ M 5 i = 0 then M 5 i else -1) else if f = 12 ∧ i = 4 then 0 else M f i
theorem fk_kf {M : fk_S} {f i : Nat} (h3 : f ≠ 3) (h5 : f ≠ 5) (h : ¬ (f = 12 ∧ i = 4)) : fk_kOf M f i = M f i := by
  unfold fk_kOf
  rw [if_neg h3, if_neg h5, if_neg h]
theorem fk_kff {M : fk_S} {f : Nat} (h3 : f ≠ 3) (h5 : f ≠ 5) (h : f ≠ 12) : fk_kOf M f = M f := by
  funext i
  exact fk_kf h3 h5 (fun e => h e.1)
theorem fk_k3 {M : fk_S} {i : Nat} (h : mm_q M i = true) : fk_kOf M 3 i = M 3 i := by
  unfold fk_kOf
  rw [if_pos rfl, if_pos h]
theorem fk_k3n {M : fk_S} {i : Nat} (h : ¬ mm_q M i = true) : fk_kOf M 3 i = -1 := by
  unfold fk_kOf
  rw [if_pos rfl, if_neg h]
theorem fk_k5 (M : fk_S) (i : Nat) : fk_kOf M 5 i = if mm_q M i = true ∧ ¬ M 5 i = 0 then M 5 i else -1 := rfl
theorem mm_q_up {M : fk_S} {f i : Nat} {v : Int32} {u : Nat} (h : f ≠ 1) : mm_q (fk_up M f i v) u = mm_q M u := by
  unfold mm_q
  rw [fk_up_f (Ne.symm h)]
theorem mm_q_up1 {M : fk_S} {i : Nat} {v : Int32} {u : Nat} (h : u ≠ i) : mm_q (fk_up M 1 i v) u = mm_q M u := by
  unfold mm_q
  rw [fk_up_i h]
theorem fk_k_set (M : fk_S) (v : Int32) : fk_kOf (fk_up M 12 4 v) = fk_kOf M := by
  funext f i
  unfold fk_kOf
  rw [mm_q_up (by decide)]
  by_cases h : f = 12 ∧ i = 4
  · obtain ⟨rfl, rfl⟩ := h
    simp
  · rw [if_neg h, if_neg h, fk_up_f (a := 3) (by decide), fk_up_f (a := 5) (by decide)]
    by_cases h2 : f = 12
    · subst h2
      rw [fk_up_i (fun e => h ⟨rfl, e⟩)]
    · rw [fk_up_f h2]
/-- a number that is no state, address or deadline -/
theorem fk_k_up (M : fk_S) {f i : Nat} (v : Int32) (h1 : f ≠ 1) (h3 : f ≠ 3) (h5 : f ≠ 5) (h : ¬ (f = 12 ∧ i = 4)) : fk_kOf (fk_up M f i v) = fk_up (fk_kOf M) f i v := by
  funext g j
  unfold fk_kOf
  rw [mm_q_up h1, fk_up_f (a := 3) (Ne.symm h3), fk_up_f (a := 5) (Ne.symm h5)]
  by_cases e : g = f
  · subst e
    rw [if_neg h3, if_neg h5]
    by_cases e2 : j = i
    · subst e2
      rw [if_neg h, fk_up_s, fk_up_s]
    · rw [fk_up_i e2, fk_up_i e2]
      show (if g = 12 ∧ j = 4 then 0 else M g j) = _
      rw [if_neg h3, if_neg h5]
  · rw [fk_up_f e, fk_up_f e]
/-- a thread leaves the queues -/
theorem fk_k_off (M : fk_S) (t : Nat) (w : Int32) (hw : w = 0 ∨ w = 3) : fk_kOf (fk_up M 1 t w) = fk_up (fk_up (fk_up (fk_kOf M) 1 t w) 3 t (-1)) 5 t (-1) := by
  have hq : mm_q (fk_up M 1 t w) t = false := by
    unfold mm_q
    rw [fk_up_s]
    rcases hw with rfl | rfl <;> decide
  funext g j
  unfold fk_kOf
  rw [fk_up_f (a := 3) (by decide), fk_up_f (a := 5) (by decide)]
  by_cases e : j = t
  · subst e
    rw [hq]
    by_cases g3 : g = 3
    · subst g3
      rw [if_pos rfl, if_neg (by decide), fk_up_f (by decide), fk_up_s]
    · rw [if_neg g3]
      by_cases g5 : g = 5
      · subst g5
        rw [if_pos rfl, if_neg (by simp), fk_up_s]
      · rw [if_neg g5, fk_up_f g5, fk_up_f g3]
        by_cases g1 : g = 1
        · subst g1
          rw [fk_up_s, fk_up_s, if_neg (by omega)]
        · rw [fk_up_f g1, fk_up_f g1, if_neg g3, if_neg g5]
  · rw [mm_q_up1 e]
    have r : fk_up (fk_up (fk_up (fun f i => if f = 3 then (if mm_q M i = true then M 3 i else -1) else if f = 5 then (if mm_q M i = true ∧ ¬ M 5 i = 0 then M 5 i else -1) else if f = 12 ∧ i = 4 then 0 else M f i) 1 t w) 3 t (-1)) 5 t (-1) g j = (if g = 3 then (if mm_q M j = true then M 3 j else -1) else if g = 5 then (if mm_q M j = true ∧ ¬ M 5 j = 0 then M 5 j else -1) else if g = 12 ∧ j = 4 then 0 else M g j) := by
      have s1 : ∀ (S : fk_S) (f : Nat) (v : Int32), fk_up S f t v g j = S g j := by
        intro S f v
        by_cases e2 : g = f
        · subst e2; exact fk_up_i e
        · rw [fk_up_f e2]
      rw [s1, s1, s1]
    rw [r]
    have s1 : fk_up M 1 t w g j = M g j := by
      by_cases e2 : g = 1
      · subst e2; exact fk_up_i e
      · rw [fk_up_f e2]
    rw [s1]
theorem kk_off_k (M : fk_S) (t : Nat) : kk_off (fk_kOf M) t = fk_kOf (fk_up M 1 t 0) := by rw [fk_k_off M t 0 (Or.inl rfl)]; rfl
/-- a thread in a queue comes to another place -/
theorem fk_k_at (M : fk_S) (t : Nat) (a : Int32) (h : mm_q M t = true) : fk_kOf (fk_up M 3 t a) = fk_up (fk_kOf M) 3 t a := by
  funext g j
  unfold fk_kOf
  rw [mm_q_up (by decide), fk_up_f (a := 5) (by decide)]
  by_cases g3 : g = 3
  · subst g3
    rw [if_pos rfl]
    by_cases e : j = t
    · subst e
      rw [if_pos h, fk_up_s, fk_up_s]
    · rw [fk_up_i e, fk_up_i e, if_pos rfl]
  · rw [if_neg g3, fk_up_f g3, fk_up_f g3, if_neg g3]
theorem kk_join_k (M : fk_S) (t : Nat) (a : Int32) (h : mm_q M t = true) : kk_join (fk_kOf M) t a = fk_kOf (kk_join M t a) := by
  unfold kk_join
  rw [fk_k_up _ _ (by decide) (by decide) (by decide) (by omega), fk_k_up _ _ (by decide) (by decide) (by decide) (by omega), fk_k_at _ _ _ h, fk_kf (f := 12) (i := 3) (by decide) (by decide) (by omega)]
/-! what holds of the model's numbers: a bounds the joins, b the time -/
def fk_I (a b : Nat) (M : fk_S) : Prop := fk_ls M ∧ (∀ u, u < 8 → mm_q M u = true → vp_in (M 3 u) 16) ∧ (∀ u, u < 8 → ∃ p, p ≤ 9 ∧ M 2 u = nI p) ∧
  (∃ J, J ≤ a ∧ M 12 3 = nI J ∧ ∀ u, u < 8 → ∃ j, j ≤ J ∧ M 7 u = nI j) ∧ (∀ u v, u < 8 → v < 8 → mm_q M u = true → mm_q M v = true → M 7 u = M 7 v → u = v) ∧
  ∃ T, T ≤ b ∧ M 12 0 = nI T ∧ ∀ u, u < 8 → mm_q M u = true → M 5 u = 0 ∨ ∃ d, M 5 u = nI d ∧ T < d ∧ d ≤ T + 10000
theorem fk_I.ls {a b : Nat} {M : fk_S} (h : fk_I a b M) : fk_ls M := h.1
theorem fk_I.at {a b : Nat} {M : fk_S} (h : fk_I a b M) : fk_at M := fun u hu h2 => h.2.1 u hu (by unfold mm_q; rw [h2]; rfl)
theorem fk_I.wk {a b a2 b2 : Nat} {M : fk_S} (h : fk_I a b M) (ha : a ≤ a2) (hb : b ≤ b2) : fk_I a2 b2 M := by
  obtain ⟨h1, h2, h3, ⟨J, j1, j2⟩, h5, T, t1, t2⟩ := h
  exact ⟨h1, h2, h3, ⟨J, by omega, j2⟩, h5, T, by omega, t2⟩
/-- a write that these don't speak of -/
theorem fk_I_up {a b : Nat} {M : fk_S} {f i : Nat} {v : Int32} (h : fk_I a b M) (hf : f = 0 ∨ f = 4 ∨ f = 6 ∨ f = 8 ∨ f = 9 ∨ (f = 12 ∧ i ≠ 0 ∧ i ≠ 3)) : fk_I a b (fk_up M f i v) := by
  obtain ⟨h1, h2, h3, ⟨J, j1, j2, j3⟩, h5, T, t1, t2, t3⟩ := h
  have q : ∀ u, mm_q (fk_up M f i v) u = mm_q M u := fun u => mm_q_up (by omega)
  have r3 : fk_up M f i v 3 = M 3 := fk_up_f (by omega)
  have r2 : fk_up M f i v 2 = M 2 := fk_up_f (by omega)
  have r7 : fk_up M f i v 7 = M 7 := fk_up_f (by omega)
  have r5 : fk_up M f i v 5 = M 5 := fk_up_f (by omega)
  have r12 : ∀ j, j = 0 ∨ j = 3 → fk_up M f i v 12 j = M 12 j := by
    intro j hj
    by_cases e : f = 12
    · subst e
      exact fk_up_i (by omega)
    · rw [fk_up_f (Ne.symm e)]
  refine ⟨fk_ls_up (by omega) (by omega) h1, fun u hu hq => by rw [q] at hq; rw [r3]; exact h2 u hu hq, fun u hu => by rw [r2]; exact h3 u hu, ⟨J, j1, by rw [r12 3 (Or.inr rfl)]; exact j2, fun u hu => by rw [r7]; exact j3 u hu⟩, fun u v hu hv a1 a2 a3 => by rw [q] at a1 a2; rw [r7] at a3; exact h5 u v hu hv a1 a2 a3, T, t1, by rw [r12 0 (Or.inl rfl)]; exact t2, fun u hu hq => by rw [q] at hq; rw [r5]; exact t3 u hu hq⟩
theorem fk_I_off {a b : Nat} {M : fk_S} {t : Nat} {w : Int32} (h : fk_I a b M) (hw : w = 0 ∨ w = 3) : fk_I a b (fk_up M 1 t w) := by
  obtain ⟨h1, h2, h3, ⟨J, j1, j2, j3⟩, h5, T, t1, t2, t3⟩ := h
  have q : ∀ u, mm_q (fk_up M 1 t w) u = true → mm_q M u = true := by
    intro u hu
    by_cases e : u = t
    · subst e
      unfold mm_q at hu
      rw [fk_up_s] at hu
      rcases hw with rfl | rfl <;> exact absurd hu (by decide)
    · rw [mm_q_up1 e] at hu; exact hu
  have r : ∀ f, f ≠ 1 → fk_up M 1 t w f = M f := fun f hf => fk_up_f hf
  exact ⟨fk_ls_up (by decide) (by decide) h1, fun u hu hq => by rw [r 3 (by decide)]; exact h2 u hu (q u hq), fun u hu => by rw [r 2 (by decide)]; exact h3 u hu, ⟨J, j1, by rw [r 12 (by decide)]; exact j2, fun u hu => by rw [r 7 (by decide)]; exact j3 u hu⟩, fun u v hu hv a1 a2 a3 => by rw [r 7 (by decide)] at a3; exact h5 u v hu hv (q u a1) (q v a2) a3, T, t1, by rw [r 12 (by decide)]; exact t2, fun u hu hq => by rw [r 5 (by decide)]; exact t3 u hu (q u hq)⟩
theorem fk_I_ls {a b : Nat} {M M' : fk_S} (h : fk_I a b M) (hl : fk_ls M') (e : ∀ f, f ≠ 10 → f ≠ 11 → M' f = M f) : fk_I a b M' := by
  obtain ⟨h1, h2, h3, ⟨J, j1, j2, j3⟩, h5, T, t1, t2, t3⟩ := h
  have q : ∀ u, mm_q M' u = mm_q M u := fun u => by unfold mm_q; rw [e 1 (by decide) (by decide)]
  exact ⟨hl, fun u hu hq => by rw [q] at hq; rw [e 3 (by decide) (by decide)]; exact h2 u hu hq, fun u hu => by rw [e 2 (by decide) (by decide)]; exact h3 u hu, ⟨J, j1, by rw [e 12 (by decide) (by decide)]; exact j2, fun u hu => by rw [e 7 (by decide) (by decide)]; exact j3 u hu⟩, fun u v hu hv a1 a2 a3 => by rw [q] at a1 a2; rw [e 7 (by decide) (by decide)] at a3; exact h5 u v hu hv a1 a2 a3, T, t1, by rw [e 12 (by decide) (by decide)]; exact t2, fun u hu hq => by rw [q] at hq; rw [e 5 (by decide) (by decide)]; exact t3 u hu hq⟩
theorem kk_add_f {S : fk_S} {t : Nat} {a : Int32} : ∀ f, f ≠ 10 → f ≠ 11 → (kk_add S t a) f = S f := by
  intro f h1 h2
  unfold kk_add
  split
  · rw [fk_up_f h1, fk_up_f h2]
  · rfl
theorem fk_shift_f (t : Nat) : ∀ (n k : Nat) (S : fk_S) (f : Nat), f ≠ 11 → fk_shift t n k S f = S f := by
  intro n
  induction n with
  | zero => intro k S f h; rfl
  | succ n ih => intro k S f h; simp only [fk_shift]; rw [ih _ _ _ h, fk_up_f h]
theorem kk_drop_f {S : fk_S} {t : Nat} {a : Int32} : ∀ f, f ≠ 10 → f ≠ 11 → (kk_drop S t a) f = S f := by
  intro f h1 h2
  unfold kk_drop
  cases h : fk_place S t a with
  | none => rfl
  | some p => exact (congrFun rfl f).trans (by show fk_up _ 10 t _ f = _; rw [fk_up_f h1, fk_shift_f _ _ _ _ _ h2])
theorem fk_I_leave {a b : Nat} {M : fk_S} {t : Nat} {w : Int32} (h : fk_I a b M) (hw : w = 0 ∨ w = 3) : fk_I a b (mm_leave M t w) := by
  unfold mm_leave
  split
  · exact fk_I_up (fk_I_off h hw) (Or.inl rfl)
  · exact fk_I_off h hw
theorem fk_I_end {a b : Nat} {M : fk_S} {t : Nat} {r : Int32} (h : fk_I a b M) : fk_I a b (mm_end M t r) := by
  unfold mm_end kk_fin
  exact fk_I_up (fk_I_up (fk_I_up (fk_I_leave h (Or.inl rfl)) (by omega)) (by omega)) (by omega)
theorem fk_I_join {a b : Nat} {M : fk_S} {t : Nat} {x : Int32} (h : fk_I a b M) (hx : vp_in x 16) (ha : a < 2 ^ 30) : fk_I (a + 1) b (kk_join M t x) := by
  obtain ⟨h1, h2, h3, ⟨J, j1, j2, j3⟩, h5, T, t1, t2, t3⟩ := h
  have q : ∀ u, mm_q (kk_join M t x) u = mm_q M u := fun u => by unfold kk_join; rw [mm_q_up (by decide), mm_q_up (by decide), mm_q_up (by decide)]
  have r : ∀ f, f ≠ 3 → f ≠ 12 → f ≠ 7 → kk_join M t x f = M f := fun f a1 a2 a3 => by unfold kk_join; rw [fk_up_f a3, fk_up_f a2, fk_up_f a1]
  have r3 : ∀ u, kk_join M t x 3 u = if u = t then x else M 3 u := by
    intro u
    unfold kk_join
    rw [fk_up_f (by decide), fk_up_f (by decide)]
    by_cases e : u = t
    · subst e; rw [fk_up_s, if_pos rfl]
    · rw [fk_up_i e, if_neg e]
  have r7 : ∀ u, kk_join M t x 7 u = if u = t then nI (J + 1) else M 7 u := by
    intro u
    unfold kk_join
    by_cases e : u = t
    · subst e; rw [fk_up_s, if_pos rfl, j2, nI_1]
    · rw [fk_up_i e, fk_up_f (by decide), fk_up_f (by decide), if_neg e]
  have r12 : kk_join M t x 12 3 = nI (J + 1) := by
    unfold kk_join
    rw [fk_up_f (by decide), fk_up_s, j2, nI_1]
  have r120 : kk_join M t x 12 0 = M 12 0 := by
    unfold kk_join
    rw [fk_up_f (by decide), fk_up_i (by decide), fk_up_f (by decide)]
  refine ⟨fk_ls_of (r 10 (by decide) (by decide) (by decide)) (r 11 (by decide) (by decide) (by decide)) h1, fun u hu hq => ?_, fun u hu => by rw [r 2 (by decide) (by decide) (by decide)]; exact h3 u hu, ⟨J + 1, by omega, r12, fun u hu => ?_⟩, fun u v hu hv a1 a2 a3 => ?_, T, t1, by rw [r120]; exact t2, fun u hu hq => by rw [q] at hq; rw [r 5 (by decide) (by decide) (by decide)]; exact t3 u hu hq⟩
  · rw [q] at hq
    rw [r3]
    by_cases e : u = t
    · rw [if_pos e]; exact hx
    · rw [if_neg e]; exact h2 u hu hq
  · rw [r7]
    by_cases e : u = t
    · rw [if_pos e]; exact ⟨J + 1, Nat.le_refl _, rfl⟩
    · rw [if_neg e]
      obtain ⟨j, hj, ej⟩ := j3 u hu
      exact ⟨j, by omega, ej⟩
  · rw [q] at a1 a2
    rw [r7, r7] at a3
    by_cases e1 : u = t
    · by_cases e2 : v = t
      · rw [e1, e2]
      · rw [if_pos e1, if_neg e2] at a3
        obtain ⟨j, hj, ej⟩ := j3 v hv
        rw [ej] at a3
        have := (nI_eq (by omega) (by omega)).mp a3
        omega
    · by_cases e2 : v = t
      · rw [if_neg e1, if_pos e2] at a3
        obtain ⟨j, hj, ej⟩ := j3 u hu
        rw [ej] at a3
        have := (nI_eq (by omega) (by omega)).mp a3
        omega
      · rw [if_neg e1, if_neg e2] at a3
        exact h5 u v hu hv a1 a2 a3

/-! the kernel's order of a queue is the model's -/
theorem fk_nine (p : Nat) (h : p ≤ 9) : (9 - nI p).toInt64 = lN (9 - p) := by
  rw [show (9 : Int32) = nI 9 from rfl, pk_sub h, nI_l (by omega)]
theorem mm_key_N {M : fk_S} {t p j : Nat} (hp : p ≤ 9) (ep : M 2 t = nI p) (hj : j < 2 ^ 30) (ej : M 7 t = nI j) : mm_key M t = lN ((9 - p) * 1000000000 + j) := by
  unfold mm_key
  rw [ep, ej, fk_nine p hp, nI_l (by omega), show (1000000000 : Int64) = lN 1000000000 from rfl, lN_mul, lN_add]
theorem kk_ahead_k {a b : Nat} {M : fk_S} (h : fk_I a b M) (ha : a < 2 ^ 20) {t u : Nat} (ht : t < 8) (hu : u < 8) : kk_ahead (fk_kOf M) t u = mm_lt M t u := by
  obtain ⟨-, -, h3, ⟨J, j1, j2, j3⟩, -, -⟩ := h
  obtain ⟨p, hp, ep⟩ := h3 t ht
  obtain ⟨q, hq, eq⟩ := h3 u hu
  obtain ⟨i, hi, ei⟩ := j3 t ht
  obtain ⟨j, hj, ej⟩ := j3 u hu
  unfold kk_ahead mm_lt
  rw [fk_kf (f := 2) (i := t) (by decide) (by decide) (by omega), fk_kf (f := 2) (i := u) (by decide) (by decide) (by omega), fk_kf (f := 7) (i := t) (by decide) (by decide) (by omega), fk_kf (f := 7) (i := u) (by decide) (by decide) (by omega), mm_key_N hp ep (by omega) ei, mm_key_N hq eq (by omega) ej, ep, eq, ei, ej]
  have e1 : decide (nI q < nI p) = decide (q < p) := decide_eq_decide.mpr (nI_ltI (by omega) (by omega))
  have e2 : decide (nI p = nI q) = decide (p = q) := decide_eq_decide.mpr (nI_eq (by omega) (by omega))
  have e3 : decide (nI i < nI j) = decide (i < j) := decide_eq_decide.mpr (nI_ltI (by omega) (by omega))
  have e4 : decide (lN ((9 - p) * 1000000000 + i) < lN ((9 - q) * 1000000000 + j)) = decide ((9 - p) * 1000000000 + i < (9 - q) * 1000000000 + j) := decide_eq_decide.mpr (pk_lLT (by omega) (by omega))
  rw [e1, e2, e3, e4, ← Bool.decide_and, ← Bool.decide_or]
  exact decide_eq_decide.mpr (by omega)
theorem kk_fits_k (M : fk_S) (x st mk : Int32) (hst : st = 1 ∨ st = 2) (t : Nat) : kk_fits (fk_kOf M) x st mk t = mm_fits M x st mk t := by
  unfold kk_fits mm_fits
  rw [fk_kf (f := 1) (i := t) (by decide) (by decide) (by omega), fk_kf (f := 4) (i := t) (by decide) (by decide) (by omega)]
  by_cases e : M 1 t = st
  · have hq : mm_q M t = true := by
      unfold mm_q
      rw [e]
      rcases hst with rfl | rfl <;> rfl
    rw [fk_k3 hq, Bool.and_comm (decide (M 3 t = x))]
  · simp [e]
theorem kk_first_k {a b : Nat} {M : fk_S} (h : fk_I a b M) (ha : a < 2 ^ 20) (x st mk : Int32) (hst : st = 1 ∨ st = 2) : kk_first (fk_kOf M) x st mk = mm_first M x st mk :=
  fk_best_congr (fun t _ => kk_fits_k M x st mk hst t) (fun t u ht hu _ _ => kk_ahead_k h ha ht hu)
theorem kk_lk_k {a b : Nat} {M : fk_S} (h : fk_I a b M) (ha : a < 2 ^ 20) (x : Int32) : kk_lk (fk_kOf M) x = mm_lk M x := kk_first_k h ha x 2 255 (Or.inr rfl)
theorem fk_vp_isA {x : Int32} (h : vp_in x 16) : fk_isA x = true := by
  obtain ⟨j, hj, rfl⟩ := vp_in_of h (by decide)
  exact fk_isA_nI hj
theorem kk_leave_k {a b : Nat} {M : fk_S} (h : fk_I a b M) (ha : a < 2 ^ 20) {t : Nat} (ht : t < 8) (hq : mm_q M t = true) : kk_leave (fk_kOf M) t = fk_kOf (mm_leave M t 0) := by
  unfold kk_leave mm_leave
  rw [kk_off_k, kk_lk_k (fk_I_off h (Or.inl rfl)) ha, fk_kf (f := 1) (i := t) (by decide) (by decide) (by omega), fk_k3 hq, fk_kff (f := 0) (by decide) (by decide) (by decide)]
  have hA := fk_vp_isA (h.2.1 t ht hq)
  by_cases c : M 1 t = 2 ∧ mm_lk (fk_up M 1 t 0) (M 3 t) = none
  · rw [if_pos ⟨c.1, hA, c.2⟩, if_pos c, fk_k_up (fk_up M 1 t 0) (f := 0) _ (by decide) (by decide) (by decide) (by omega)]
  · rw [if_neg (fun z => c ⟨z.1, z.2.2⟩), if_neg c]
theorem kk_fin_k (M : fk_S) (t : Nat) (r : Int32) : kk_fin (fk_kOf M) t r = fk_kOf (kk_fin M t r) := by
  unfold kk_fin
  rw [fk_k_up _ _ (by decide) (by decide) (by decide) (by omega), fk_k_up _ _ (by decide) (by decide) (by decide) (by omega), fk_k_up _ _ (by decide) (by decide) (by decide) (by omega), fk_kf (f := 12) (i := 1) (by decide) (by decide) (by omega)]
theorem kk_end_k {a b : Nat} {M : fk_S} (h : fk_I a b M) (ha : a < 2 ^ 20) {t : Nat} (ht : t < 8) (hq : mm_q M t = true) (r : Int32) : kk_end (fk_kOf M) t r = fk_kOf (mm_end M t r) := by
  unfold kk_end mm_end
  rw [kk_leave_k h ha ht hq, kk_fin_k]
theorem mm_first_q {M : fk_S} {x st mk : Int32} {t : Nat} (h : mm_first M x st mk = some t) (hst : st = 1 ∨ st = 2) : mm_q M t = true := by
  unfold mm_q
  rw [(mm_first_spec h).1]
  rcases hst with rfl | rfl <;> rfl
theorem kk_wake_k {a b : Nat} (ha : a < 2 ^ 20) (x mk : Int32) : ∀ (n : Nat) (M : fk_S), fk_I a b M → kk_wake x mk n (fk_kOf M) = ((mm_wake x mk n M).1, fk_kOf (mm_wake x mk n M).2) ∧ fk_I a b (mm_wake x mk n M).2 := by
  intro n
  induction n with
  | zero => intro M h; exact ⟨rfl, h⟩
  | succ n ih =>
    intro M h
    have e := kk_first_k h ha x 1 mk (Or.inl rfl)
    cases hf : mm_first M x 1 mk with
    | none =>
      simp only [kk_wake, mm_wake, e, hf]
      exact ⟨trivial, h⟩
    | some t =>
      obtain ⟨i1, i2⟩ := ih (mm_end M t 0) (fk_I_end h)
      simp only [kk_wake, mm_wake, e, hf]
      rw [kk_end_k h ha (mm_first_lt hf) (mm_first_q hf (Or.inl rfl)), i1]
      exact ⟨rfl, i2⟩
theorem kk_move_k {b : Nat} (x y : Int32) (hy : vp_in y 16) : ∀ (n a : Nat) (M : fk_S), a + n < 2 ^ 20 → fk_I a b M → kk_move x y n (fk_kOf M) = ((mm_move x y n M).1, fk_kOf (mm_move x y n M).2) ∧ fk_I (a + n) b (mm_move x y n M).2 := by
  intro n
  induction n with
  | zero => intro a M _ h; exact ⟨rfl, h⟩
  | succ n ih =>
    intro a M ha h
    have e := kk_first_k h (by omega) x 1 255 (Or.inl rfl)
    cases hf : mm_first M x 1 255 with
    | none =>
      simp only [kk_move, mm_move, e, hf]
      exact ⟨trivial, h.wk (by omega) (Nat.le_refl _)⟩
    | some t =>
      obtain ⟨i1, i2⟩ := ih (a + 1) (kk_join M t y) (by omega) (fk_I_join h hy (by omega))
      simp only [kk_move, mm_move, e, hf]
      rw [kk_join_k M t y (mm_first_q hf (Or.inl rfl)), i1]
      exact ⟨rfl, i2.wk (by omega) (Nat.le_refl _)⟩
