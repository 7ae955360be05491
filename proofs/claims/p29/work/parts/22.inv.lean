/-! what holds between the calls: the numbers of a state S, the law's row P (priorities, from 8 on masks); n bounds the counters -/
theorem fk_up_o {S : fk_S} {f i g j : Nat} {v : Int32} (h : j ≠ i) : fk_up S f i v g j = S g j := by
  by_cases e : g = f
  · subst e
    exact fk_up_i h
  · rw [fk_up_f e]
def kq_T (S : fk_S) (P : Nat → Int32) (u : Nat) : Prop :=
  ((S 1 u = 0 ∧ S 3 u = -1 ∧ S 5 u = -1) ∨ (S 1 u = 1 ∧ (∃ a, a < 16 ∧ S 3 u = nI a) ∧ P (8 + u) = S 4 u ∧ fk_btw (S 4 u) 1 255 = true) ∨ (S 1 u = 2 ∧ (∃ a, a < 16 ∧ S 3 u = nI a) ∧ S 4 u = 255) ∨ (S 1 u = 3 ∧ S 3 u = -1 ∧ S 5 u = -1)) ∧
  P u = S 2 u ∧ (S 8 u = -1 ↔ S 9 u = 0)
def kq_I (n : Nat) (S : fk_S) (P : Nat → Int32) : Prop := fk_ls S ∧ (∀ u, u < 8 → kq_T S P u) ∧ kq_J S ∧ (∀ u v, u < 8 → v < 8 → S 9 u = S 9 v → u = v ∨ S 9 u = 0) ∧
  (∃ J, J ≤ n ∧ S 12 3 = nI J ∧ ∀ u, u < 8 → ∃ j, j ≤ J ∧ S 7 u = nI j) ∧ (∃ E, E ≤ n ∧ S 12 1 = nI E ∧ ∀ u, u < 8 → ∃ j, j ≤ E ∧ S 9 u = nI j) ∧
  ∃ T, T ≤ 1000 * n ∧ S 12 0 = nI T ∧ ∀ u, u < 8 → S 5 u = -1 ∨ ∃ d, T < d ∧ d ≤ T + 10000 ∧ S 5 u = nI d
section
variable {n : Nat} {S S' : fk_S} {P P' : Nat → Int32} {u t a : Nat}
theorem kq_I.ls (h : kq_I n S P) : fk_ls S := h.1
theorem kq_I.sz (h : kq_I n S P) : fk_sz S := fk_ls_sz h.1
theorem kq_I.J (h : kq_I n S P) : kq_J S := h.2.2.1
theorem kq_I.T (h : kq_I n S P) (hu : u < 8) : kq_T S P u := h.2.1 u hu
theorem kq_I.wk (h : kq_I n S P) {m : Nat} (hm : n ≤ m) : kq_I m S P := by
  obtain ⟨h1, h2, h3, h4, ⟨J, j1, j2⟩, ⟨E, e1, e2⟩, T, t1, t2⟩ := h
  exact ⟨h1, h2, h3, h4, ⟨J, by omega, j2⟩, ⟨E, by omega, e2⟩, T, by omega, t2⟩
theorem kq_T.st (h : kq_T S P u) : S 1 u = 0 ∨ S 1 u = 1 ∨ S 1 u = 2 ∨ S 1 u = 3 := by
  rcases h.1 with h | h | h | h
  · exact Or.inl h.1
  · exact Or.inr (Or.inl h.1)
  · exact Or.inr (Or.inr (Or.inl h.1))
  · exact Or.inr (Or.inr (Or.inr h.1))
theorem kq_T.q (h : kq_T S P u) (hs : S 1 u = 1 ∨ S 1 u = 2) : ∃ a, a < 16 ∧ S 3 u = nI a := by
  rcases h.1 with h | h | h | h
  · rw [h.1] at hs; rcases hs with e | e <;> exact absurd e (by decide)
  · exact h.2.1
  · exact h.2.1
  · rw [h.1] at hs; rcases hs with e | e <;> exact absurd e (by decide)
theorem kq_T.nq (h : kq_T S P u) (hs : S 1 u = 0 ∨ S 1 u = 3) : S 3 u = -1 ∧ S 5 u = -1 := by
  rcases h.1 with h | h | h | h
  · exact h.2
  · rw [h.1] at hs; rcases hs with e | e <;> exact absurd e (by decide)
  · rw [h.1] at hs; rcases hs with e | e <;> exact absurd e (by decide)
  · exact h.2
theorem kq_T.isq (h : kq_T S P u) : kk_q S u = true ↔ (S 1 u = 1 ∨ S 1 u = 2) := by
  unfold kk_q
  rw [decide_eq_true_eq]
  constructor
  · intro h9
    rcases h.st with e | e | e | e
    · exact absurd (h.nq (Or.inl e)).1 h9
    · exact Or.inl e
    · exact Or.inr e
    · exact absurd (h.nq (Or.inr e)).1 h9
  · intro h9
    obtain ⟨a, ha, e⟩ := h.q h9
    rw [e]
    exact fk_nI_m1 (by omega)
theorem kq_T.of (h : kq_T S P u) (hf : ∀ f, f = 1 ∨ f = 2 ∨ f = 3 ∨ f = 4 ∨ f = 5 ∨ f = 8 ∨ f = 9 → S' f u = S f u) (h1 : P' u = P u) (h2 : P' (8 + u) = P (8 + u)) : kq_T S' P' u := by
  unfold kq_T at h ⊢
  rw [hf 1 (by omega), hf 2 (by omega), hf 3 (by omega), hf 4 (by omega), hf 5 (by omega), hf 8 (by omega), hf 9 (by omega), h1, h2]
  exact h
/-- a word that is written -/
theorem kq_I.of0 (h : kq_I n S P) (hf : ∀ f, f ≠ 0 → f ≠ 6 → ¬ f = 12 → S' f = S f) (h12 : ∀ i, i ≠ 2 → S' 12 i = S 12 i) : kq_I n S' P := by
  obtain ⟨h1, h2, h3, h4, ⟨J, j1, j2, j3⟩, ⟨E, e1, e2, e3⟩, T, t1, t2, t3⟩ := h
  have r : ∀ f u, f ≠ 0 → f ≠ 6 → ¬ f = 12 → S' f u = S f u := fun f u a b c => congrFun (hf f a b c) u
  refine ⟨fk_ls_of (hf 10 (by decide) (by decide) (by decide)) (hf 11 (by decide) (by decide) (by decide)) h1, fun u hu => (h2 u hu).of (fun f hf => r f u (by omega) (by omega) (by omega)) rfl rfl, ?_, ?_, ⟨J, j1, by rw [h12 3 (by decide)]; exact j2, fun u hu => by rw [r 7 u (by decide) (by decide) (by decide)]; exact j3 u hu⟩, ⟨E, e1, by rw [h12 1 (by decide)]; exact e2, fun u hu => by rw [r 9 u (by decide) (by decide) (by decide)]; exact e3 u hu⟩, T, t1, by rw [h12 0 (by decide)]; exact t2, fun u hu => by rw [r 5 u (by decide) (by decide) (by decide)]; exact t3 u hu⟩
  · intro u v hu hv a1 a2 a3
    unfold kk_q at a1 a2
    rw [r 3 _ (by decide) (by decide) (by decide)] at a1 a2
    rw [r 7 _ (by decide) (by decide) (by decide), r 7 _ (by decide) (by decide) (by decide)] at a3
    exact h3 u v hu hv a1 a2 a3
  · intro u v hu hv a3
    rw [r 9 _ (by decide) (by decide) (by decide), r 9 _ (by decide) (by decide) (by decide)] at a3
    rw [r 9 _ (by decide) (by decide) (by decide)]
    exact h4 u v hu hv a3
theorem kq_I.word (h : kq_I n S P) (a : Nat) (v : Int32) : kq_I n (fk_up S 0 a v) P := h.of0 (fun f h1 _ _ => fk_up_f h1) (fun i _ => by rw [fk_up_f (by decide)])
/-- the lists alone -/
theorem kq_I.lists (h : kq_I n S P) (hl : fk_ls S') (hf : ∀ f, f ≠ 10 → f ≠ 11 → S' f = S f) : kq_I n S' P := by
  obtain ⟨h1, h2, h3, h4, ⟨J, j1, j2, j3⟩, ⟨E, e1, e2, e3⟩, T, t1, t2, t3⟩ := h
  have r : ∀ f, f ≠ 10 → f ≠ 11 → S' f = S f := hf
  refine ⟨hl, fun u hu => ?_, ?_, ?_, ⟨J, j1, by rw [r 12 (by decide) (by decide)]; exact j2, fun u hu => by rw [r 7 (by decide) (by decide)]; exact j3 u hu⟩, ⟨E, e1, by rw [r 12 (by decide) (by decide)]; exact e2, fun u hu => by rw [r 9 (by decide) (by decide)]; exact e3 u hu⟩, T, t1, by rw [r 12 (by decide) (by decide)]; exact t2, fun u hu => by rw [r 5 (by decide) (by decide)]; exact t3 u hu⟩
  · exact (h2 u hu).of (fun f hf => congrFun (r f (by omega) (by omega)) u) rfl rfl
  · intro u v hu hv a1 a2 a3
    unfold kk_q at a1 a2
    rw [r 3 (by decide) (by decide)] at a1 a2
    rw [r 7 (by decide) (by decide)] at a3
    exact h3 u v hu hv a1 a2 a3
  · rw [r 9 (by decide) (by decide)]
    exact h4
/-- a wait ends: the thread t, with the result r -/
def kq_e (S : fk_S) (t : Nat) (r : Int32) : fk_S := kk_fin (kk_off S t) t r
theorem kq_e_f (S : fk_S) (t : Nat) (r : Int32) {f : Nat} (h : f ≠ 0) : kk_end S t r f = kq_e S t r f := by
  unfold kk_end kq_e kk_leave
  split
  · unfold kk_fin
    by_cases h9 : f = 9
    · subst h9; funext i; simp [fk_up]
    · rw [fk_up_f h9, fk_up_f h9]
      by_cases h12 : f = 12
      · subst h12; funext i; simp [fk_up]
      · rw [fk_up_f h12, fk_up_f h12]
        by_cases h8 : f = 8
        · subst h8; funext i; simp [fk_up]
        · rw [fk_up_f h8, fk_up_f h8, fk_up_f h]
  · rfl
theorem kq_I.e (h : kq_I n S P) (ht : t < 8) (hn : n < 2 ^ 20) {r : Int32} (hr : r ≠ -1) (hq : S 1 t = 1 ∨ S 1 t = 2) : kq_I (n + 1) (kq_e S t r) P := by
  have hTt := h.T ht
  obtain ⟨h1, h2, h3, h4, ⟨J, j1, j2, j3⟩, ⟨E, e1, e2, e3⟩, T, t1, t2, t3⟩ := h
  have ho : ∀ u, u ≠ t → ∀ f, ¬ f = 12 → kq_e S t r f u = S f u := by
    intro u hu f hf
    unfold kq_e kk_fin kk_off
    rw [fk_up_o hu, fk_up_f hf, fk_up_o hu, fk_up_o hu, fk_up_o hu, fk_up_o hu]
  have g : ∀ f, ¬ f = 1 → ¬ f = 3 → ¬ f = 5 → ¬ f = 8 → ¬ f = 9 → ¬ f = 12 → kq_e S t r f = S f := by
    intro f a1 a2 a3 a4 a5 a6
    funext i
    simp [kq_e, kk_fin, kk_off, fk_up, a1, a2, a3, a4, a5, a6]
  have v1 : kq_e S t r 1 t = 0 := by simp [kq_e, kk_fin, kk_off, fk_up]
  have v3 : kq_e S t r 3 t = -1 := by simp [kq_e, kk_fin, kk_off, fk_up]
  have v5 : kq_e S t r 5 t = -1 := by simp [kq_e, kk_fin, kk_off, fk_up]
  have v8 : kq_e S t r 8 t = r := by simp [kq_e, kk_fin, kk_off, fk_up]
  have v9 : kq_e S t r 9 t = nI (E + 1) := by simp [kq_e, kk_fin, kk_off, fk_up, e2, nI_1]
  have v121 : kq_e S t r 12 1 = nI (E + 1) := by simp [kq_e, kk_fin, kk_off, fk_up, e2, nI_1]
  have v12 : ∀ i, i ≠ 1 → kq_e S t r 12 i = S 12 i := by intro i hi; simp [kq_e, kk_fin, kk_off, fk_up, hi]
  have n9 : ∀ u, u < 8 → S 9 u ≠ nI (E + 1) := by
    intro u hu e
    obtain ⟨j, hj, ej⟩ := e3 u hu
    rw [ej] at e
    have := (nI_eq (by omega) (by omega)).mp e
    omega
  refine ⟨fk_ls_of (g 10 (by decide) (by decide) (by decide) (by decide) (by decide) (by decide)) (g 11 (by decide) (by decide) (by decide) (by decide) (by decide) (by decide)) h1, fun u hu => ?_, ?_, ?_, ⟨J, by omega, by rw [v12 3 (by decide)]; exact j2, fun u hu => by rw [g 7 (by decide) (by decide) (by decide) (by decide) (by decide) (by decide)]; exact j3 u hu⟩, ⟨E + 1, by omega, v121, fun u hu => ?_⟩, T, by omega, by rw [v12 0 (by decide)]; exact t2, fun u hu => ?_⟩
  · by_cases e : u = t
    · subst e
      refine ⟨Or.inl ⟨v1, v3, v5⟩, by rw [g 2 (by decide) (by decide) (by decide) (by decide) (by decide) (by decide)]; exact hTt.2.1, ?_⟩
      rw [v8, v9]
      exact ⟨fun h9 => absurd h9 hr, fun h9 => absurd h9 (nI_ne0 (by omega) (by omega))⟩
    · exact (h2 u hu).of (fun f hf => ho u e f (by omega)) rfl rfl
  · intro u v hu hv a1 a2 a3
    unfold kk_q at a1 a2
    have nu : u ≠ t := fun e => by rw [e, v3] at a1; simp at a1
    have nv : v ≠ t := fun e => by rw [e, v3] at a2; simp at a2
    rw [ho u nu 3 (by decide)] at a1
    rw [ho v nv 3 (by decide)] at a2
    rw [ho u nu 7 (by decide), ho v nv 7 (by decide)] at a3
    exact h3 u v hu hv a1 a2 a3
  · intro u v hu hv a3
    by_cases e : u = t
    · by_cases e2 : v = t
      · exact Or.inl (e.trans e2.symm)
      · rw [e, v9, ho v e2 9 (by decide)] at a3
        exact absurd a3.symm (n9 v hv)
    · by_cases e2 : v = t
      · rw [e2, v9, ho u e 9 (by decide)] at a3
        exact absurd a3 (n9 u hu)
      · rw [ho u e 9 (by decide), ho v e2 9 (by decide)] at a3
        rw [ho u e 9 (by decide)]
        exact h4 u v hu hv a3
  · by_cases e : u = t
    · exact ⟨E + 1, Nat.le_refl _, by rw [e, v9]⟩
    · obtain ⟨j, hj, ej⟩ := e3 u hu
      exact ⟨j, by omega, by rw [ho u e 9 (by decide)]; exact ej⟩
  · by_cases e : u = t
    · exact Or.inl (by rw [e]; exact v5)
    · rw [ho u e 5 (by decide)]
      exact t3 u hu
theorem kq_I.end (h : kq_I n S P) (ht : t < 8) (hn : n < 2 ^ 20) {r : Int32} (hr : r ≠ -1) (hq : S 1 t = 1 ∨ S 1 t = 2) : kq_I (n + 1) (kk_end S t r) P :=
  (h.e ht hn hr hq).of0 (fun f h0 _ _ => kq_e_f S t r h0) (fun i _ => congrFun (kq_e_f S t r (by decide)) i)
/-- a thread joins a queue -/
theorem kq_I.join (h : kq_I n S P) (ht : t < 8) (hn : n < 2 ^ 20) (ha : a < 16) (hq : S 1 t = 1 ∨ S 1 t = 2) : kq_I (n + 1) (kk_join S t (nI a)) P := by
  have hTt := h.T ht
  obtain ⟨h1, h2, h3, h4, ⟨J, j1, j2, j3⟩, ⟨E, e1, e2, e3⟩, T, t1, t2, t3⟩ := h
  have ho : ∀ u, u ≠ t → ∀ f, ¬ f = 12 → kk_join S t (nI a) f u = S f u := by
    intro u hu f hf
    unfold kk_join
    rw [fk_up_o hu, fk_up_f hf, fk_up_o hu]
  have g : ∀ f, ¬ f = 3 → ¬ f = 7 → ¬ f = 12 → kk_join S t (nI a) f = S f := by
    intro f a1 a2 a3
    funext i
    simp [kk_join, fk_up, a1, a2, a3]
  have v3 : kk_join S t (nI a) 3 t = nI a := by simp [kk_join, fk_up]
  have v7 : kk_join S t (nI a) 7 t = nI (J + 1) := by simp [kk_join, fk_up, j2, nI_1]
  have v123 : kk_join S t (nI a) 12 3 = nI (J + 1) := by simp [kk_join, fk_up, j2, nI_1]
  have v12 : ∀ i, i ≠ 3 → kk_join S t (nI a) 12 i = S 12 i := by intro i hi; simp [kk_join, fk_up, hi]
  have n7 : ∀ u, u < 8 → S 7 u ≠ nI (J + 1) := by
    intro u hu e
    obtain ⟨j, hj, ej⟩ := j3 u hu
    rw [ej] at e
    have := (nI_eq (by omega) (by omega)).mp e
    omega
  refine ⟨fk_ls_of (g 10 (by decide) (by decide) (by decide)) (g 11 (by decide) (by decide) (by decide)) h1, fun u hu => ?_, ?_, ?_, ⟨J + 1, by omega, v123, fun u hu => ?_⟩, ⟨E, by omega, by rw [v12 1 (by decide)]; exact e2, fun u hu => by rw [g 9 (by decide) (by decide) (by decide)]; exact e3 u hu⟩, T, by omega, by rw [v12 0 (by decide)]; exact t2, fun u hu => by rw [g 5 (by decide) (by decide) (by decide)]; exact t3 u hu⟩
  · by_cases e : u = t
    · subst e
      refine ⟨?_, by rw [g 2 (by decide) (by decide) (by decide)]; exact hTt.2.1, by rw [g 8 (by decide) (by decide) (by decide), g 9 (by decide) (by decide) (by decide)]; exact hTt.2.2⟩
      rw [g 1 (by decide) (by decide) (by decide), g 4 (by decide) (by decide) (by decide), v3]
      rcases hTt.1 with c | c | c | c
      · rw [c.1] at hq; rcases hq with z | z <;> exact absurd z (by decide)
      · exact Or.inr (Or.inl ⟨c.1, ⟨a, ha, rfl⟩, c.2.2⟩)
      · exact Or.inr (Or.inr (Or.inl ⟨c.1, ⟨a, ha, rfl⟩, c.2.2⟩))
      · rw [c.1] at hq; rcases hq with z | z <;> exact absurd z (by decide)
    · exact (h2 u hu).of (fun f hf => ho u e f (by omega)) rfl rfl
  · intro u v hu hv a1 a2 a3
    by_cases e : u = t
    · by_cases e2 : v = t
      · exact e.trans e2.symm
      · rw [e, v7, ho v e2 7 (by decide)] at a3
        exact absurd a3.symm (n7 v hv)
    · by_cases e2 : v = t
      · rw [e2, v7, ho u e 7 (by decide)] at a3
        exact absurd a3 (n7 u hu)
      · unfold kk_q at a1 a2
        rw [ho u e 3 (by decide)] at a1
        rw [ho v e2 3 (by decide)] at a2
        rw [ho u e 7 (by decide), ho v e2 7 (by decide)] at a3
        exact h3 u v hu hv a1 a2 a3
  · rw [g 9 (by decide) (by decide) (by decide)]
    exact h4
  · by_cases e : u = t
    · exact ⟨J + 1, Nat.le_refl _, by rw [e, v7]⟩
    · obtain ⟨j, hj, ej⟩ := j3 u hu
      exact ⟨j, by omega, by rw [ho u e 7 (by decide)]; exact ej⟩
end
