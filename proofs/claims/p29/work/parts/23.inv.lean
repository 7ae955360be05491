/-! further steps that keep what holds -/
section
variable {n : Nat} {S S' : fk_S} {P P' : Nat → Int32} {u t a : Nat}
theorem fk_btw_N {v : Int32} {lo hi : Nat} (h : fk_btw v (nI lo) (nI hi) = true) (hl : lo < 2 ^ 31) (hh : hi < 2 ^ 31) : ∃ k, lo ≤ k ∧ k ≤ hi ∧ v = nI k := by
  unfold fk_btw at h
  simp only [Bool.and_eq_true, decide_eq_true_eq] at h
  have h0 : ¬ v < 0 := fun h9 => by
    have := Int32.lt_of_le_of_lt h.1 h9
    exact absurd this (nI_pos hl)
  obtain ⟨k, hk, rfl⟩ := nI_of h0
  exact ⟨k, (nI_leI hl hk).mp h.1, (nI_leI hk hh).mp h.2, rfl⟩
theorem kq_I.begin (h : kq_I n S P) (ht : t < 8) (hn : n < 2 ^ 20) (hr : S 1 t = 0) (ha : a < 16) {st mk to : Int32} (hst : (st = 1 ∧ P' (8 + t) = mk ∧ fk_btw mk 1 255 = true) ∨ (st = 2 ∧ mk = 255)) (hto : fk_btw to 0 10000 = true) (hP : ∀ u, u ≠ 8 + t → P' u = P u) : kq_I (n + 1) (kk_begin S t st (nI a) mk to) P' := by
  have hTt := h.T ht
  obtain ⟨h1, h2, h3, h4, ⟨J, j1, j2, j3⟩, ⟨E, e1, e2, e3⟩, T, t1, t2, t3⟩ := h
  obtain ⟨d, -, hd, rfl⟩ := fk_btw_N (lo := 0) (hi := 10000) hto (by decide) (by decide)
  have ho : ∀ u, u ≠ t → ∀ f, ¬ f = 12 → kk_begin S t st (nI a) mk (nI d) f u = S f u := by
    intro u hu f hf
    unfold kk_begin kk_join
    rw [fk_up_o hu, fk_up_f hf, fk_up_o hu, fk_up_o hu, fk_up_f hf, fk_up_o hu, fk_up_o hu, fk_up_o hu]
  have g : ∀ f, ¬ f = 1 → ¬ f = 3 → ¬ f = 4 → ¬ f = 5 → ¬ f = 6 → ¬ f = 7 → ¬ f = 12 → kk_begin S t st (nI a) mk (nI d) f = S f := by
    intro f a1 a2 a3 a4 a5 a6 a7
    funext i
    simp [kk_begin, kk_join, fk_up, a1, a2, a3, a4, a5, a6, a7]
  have v1 : kk_begin S t st (nI a) mk (nI d) 1 t = st := by simp [kk_begin, kk_join, fk_up]
  have v3 : kk_begin S t st (nI a) mk (nI d) 3 t = nI a := by simp [kk_begin, kk_join, fk_up]
  have v4 : kk_begin S t st (nI a) mk (nI d) 4 t = mk := by simp [kk_begin, kk_join, fk_up]
  have v5 : kk_begin S t st (nI a) mk (nI d) 5 t = if nI d = 0 then -1 else nI T + nI d := by simp [kk_begin, kk_join, fk_up, t2]
  have v7 : kk_begin S t st (nI a) mk (nI d) 7 t = nI (J + 1) := by simp [kk_begin, kk_join, fk_up, j2, nI_1]
  have v123 : kk_begin S t st (nI a) mk (nI d) 12 3 = nI (J + 1) := by simp [kk_begin, kk_join, fk_up, j2, nI_1]
  have v121 : kk_begin S t st (nI a) mk (nI d) 12 1 = S 12 1 := by simp [kk_begin, kk_join, fk_up]
  have v120 : kk_begin S t st (nI a) mk (nI d) 12 0 = S 12 0 := by simp [kk_begin, kk_join, fk_up]
  have n7 : ∀ u, u < 8 → S 7 u ≠ nI (J + 1) := by
    intro u hu e
    obtain ⟨j, hj, ej⟩ := j3 u hu
    rw [ej] at e
    have := (nI_eq (by omega) (by omega)).mp e
    omega
  refine ⟨fk_ls_of (g 10 (by decide) (by decide) (by decide) (by decide) (by decide) (by decide) (by decide)) (g 11 (by decide) (by decide) (by decide) (by decide) (by decide) (by decide) (by decide)) h1, fun u hu => ?_, ?_, ?_, ⟨J + 1, by omega, v123, fun u hu => ?_⟩, ⟨E, by omega, v121.trans e2, fun u hu => by rw [g 9 (by decide) (by decide) (by decide) (by decide) (by decide) (by decide) (by decide)]; exact e3 u hu⟩, T, by omega, v120.trans t2, fun u hu => ?_⟩
  · by_cases e : u = t
    · subst e
      refine ⟨?_, by rw [g 2 (by decide) (by decide) (by decide) (by decide) (by decide) (by decide) (by decide), hP u (by omega)]; exact hTt.2.1, by rw [g 8 (by decide) (by decide) (by decide) (by decide) (by decide) (by decide) (by decide), g 9 (by decide) (by decide) (by decide) (by decide) (by decide) (by decide) (by decide)]; exact hTt.2.2⟩
      rw [v1, v3, v4]
      rcases hst with c | c
      · exact Or.inr (Or.inl ⟨c.1, ⟨a, ha, rfl⟩, c.2⟩)
      · exact Or.inr (Or.inr (Or.inl ⟨c.1, ⟨a, ha, rfl⟩, c.2⟩))
    · exact (h2 u hu).of (fun f hf => ho u e f (by omega)) (hP u (by omega)) (hP (8 + u) (by omega))
  · intro u v hu hv a1 a2 a3
    by_cases e : u = t
    · by_cases e2 : v = t
      · exact e.trans e2.symm
      · rw [e, v7, ho v e2 7 (by decide)] at a3
        exact absurd a3.symm (n7 v hv)
    · by_cases e2 : v = t
      · rw [e2, v7, ho u e 7 (by decide)] at a3
        exact absurd a3 (n7 u hu)
      · unfold kk_q at a1 a2
        rw [ho u e 3 (by decide)] at a1
        rw [ho v e2 3 (by decide)] at a2
        rw [ho u e 7 (by decide), ho v e2 7 (by decide)] at a3
        exact h3 u v hu hv a1 a2 a3
  · rw [g 9 (by decide) (by decide) (by decide) (by decide) (by decide) (by decide) (by decide)]
    exact h4
  · by_cases e : u = t
    · exact ⟨J + 1, Nat.le_refl _, by rw [e, v7]⟩
    · obtain ⟨j, hj, ej⟩ := j3 u hu
      exact ⟨j, by omega, by rw [ho u e 7 (by decide)]; exact ej⟩
  · by_cases e : u = t
    · rw [e, v5]
      by_cases c : nI d = 0
      · rw [if_pos c]
        exact Or.inl rfl
      · rw [if_neg c, nI_add]
        have hd0 : d ≠ 0 := fun z => c (by rw [z]; rfl)
        exact Or.inr ⟨T + d, by omega, by omega, rfl⟩
    · rw [ho u e 5 (by decide)]
      exact t3 u hu
theorem kq_I.prio1 (h : kq_I n S P) (v : Int32) (h1' : P' t = v) (hP : ∀ u, u ≠ t → P' u = P u) (ht : t < 8) : kq_I n (fk_up S 2 t v) P' := by
  obtain ⟨h1, h2, h3, h4, ⟨J, j1, j2, j3⟩, ⟨E, e1, e2, e3⟩, T, t1, t2, t3⟩ := h
  have g : ∀ f, ¬ f = 2 → fk_up S 2 t v f = S f := fun f hf => fk_up_f hf
  refine ⟨fk_ls_of (g 10 (by decide)) (g 11 (by decide)) h1, fun u hu => ?_, ?_, ?_, ⟨J, j1, by rw [g 12 (by decide)]; exact j2, fun u hu => by rw [g 7 (by decide)]; exact j3 u hu⟩, ⟨E, e1, by rw [g 12 (by decide)]; exact e2, fun u hu => by rw [g 9 (by decide)]; exact e3 u hu⟩, T, t1, by rw [g 12 (by decide)]; exact t2, fun u hu => by rw [g 5 (by decide)]; exact t3 u hu⟩
  · by_cases e : u = t
    · subst e
      have h9 := h2 u hu
      unfold kq_T at h9 ⊢
      rw [g 1 (by decide), g 3 (by decide), g 4 (by decide), g 5 (by decide), g 8 (by decide), g 9 (by decide), fk_up_s, hP (8 + u) (by omega)]
      exact ⟨h9.1, h1', h9.2.2⟩
    · exact (h2 u hu).of (fun f _ => fk_up_o e) (hP u e) (hP (8 + u) (by omega))
  · intro u v hu hv a1 a2 a3
    unfold kk_q at a1 a2
    rw [g 3 (by decide)] at a1 a2
    rw [g 7 (by decide)] at a3
    exact h3 u v hu hv a1 a2 a3
  · rw [g 9 (by decide)]
    exact h4
theorem kq_I.prio (h : kq_I n S P) (ht : t < 8) (hn : n < 2 ^ 20) (v : Int32) (h1' : P' t = v) (hP : ∀ u, u ≠ t → P' u = P u) : kq_I (n + 1) (kk_prio S t v) P' := by
  have h9 := h.prio1 v h1' hP ht
  unfold kk_prio
  split
  · next e =>
    have : P' = P := by
      funext u
      by_cases c : u = t
      · rw [c, h1', e]
        exact (h.T ht).2.1.symm
      · exact hP u c
    rw [this]
    exact h.wk (by omega)
  · split
    · next hq =>
      have hs := (h9.T ht).isq.mp hq
      obtain ⟨a, ha, e⟩ := (h9.T ht).q hs
      rw [fk_up_f (a := 3) (by decide)] at e
      rw [e]
      exact h9.join ht hn ha hs
    · exact h9.wk (by omega)
theorem kq_I.start (h : kq_I n S P) (ht : t < 8) (h3' : S 1 t = 3) (h1' : P' t = 0) (hP : ∀ u, u ≠ t → P' u = P u) : kq_I n (kk_start S t) P' := by
  have hTt := (h.T ht).nq (Or.inr h3')
  obtain ⟨h1, h2, h3, h4, ⟨J, j1, j2, j3⟩, ⟨E, e1, e2, e3⟩, T, t1, t2, t3⟩ := h
  have ho : ∀ u, u ≠ t → ∀ f, kk_start S t f u = S f u := by
    intro u hu f
    unfold kk_start
    rw [fk_up_o hu, fk_up_o hu, fk_up_o hu, fk_up_o hu]
  have g : ∀ f, ¬ f = 1 → ¬ f = 2 → ¬ f = 8 → ¬ f = 9 → kk_start S t f = S f := by
    intro f a1 a2 a3 a4
    unfold kk_start
    rw [fk_up_f a4, fk_up_f a3, fk_up_f a2, fk_up_f a1]
  have v1 : kk_start S t 1 t = 0 := by simp [kk_start, fk_up]
  have v2 : kk_start S t 2 t = 0 := by simp [kk_start, fk_up]
  have v8 : kk_start S t 8 t = -1 := by simp [kk_start, fk_up]
  have v9 : kk_start S t 9 t = 0 := by simp [kk_start, fk_up]
  refine ⟨fk_ls_of (g 10 (by decide) (by decide) (by decide) (by decide)) (g 11 (by decide) (by decide) (by decide) (by decide)) h1, fun u hu => ?_, ?_, ?_, ⟨J, j1, by rw [g 12 (by decide) (by decide) (by decide) (by decide)]; exact j2, fun u hu => by rw [g 7 (by decide) (by decide) (by decide) (by decide)]; exact j3 u hu⟩, ⟨E, e1, by rw [g 12 (by decide) (by decide) (by decide) (by decide)]; exact e2, fun u hu => ?_⟩, T, t1, by rw [g 12 (by decide) (by decide) (by decide) (by decide)]; exact t2, fun u hu => by rw [g 5 (by decide) (by decide) (by decide) (by decide)]; exact t3 u hu⟩
  · by_cases e : u = t
    · subst e
      refine ⟨Or.inl ⟨v1, ?_, ?_⟩, h1'.trans v2.symm, ?_⟩
      · rw [g 3 (by decide) (by decide) (by decide) (by decide)]; exact hTt.1
      · rw [g 5 (by decide) (by decide) (by decide) (by decide)]; exact hTt.2
      · rw [v8, v9]; exact ⟨fun _ => rfl, fun _ => rfl⟩
    · exact (h2 u hu).of (fun f _ => ho u e f) (hP u e) (hP (8 + u) (by omega))
  · intro u v hu hv a1 a2 a3
    unfold kk_q at a1 a2
    rw [g 3 (by decide) (by decide) (by decide) (by decide)] at a1 a2
    rw [g 7 (by decide) (by decide) (by decide) (by decide)] at a3
    exact h3 u v hu hv a1 a2 a3
  · intro u v hu hv a3
    by_cases e : u = t
    · exact Or.inr (by rw [e, v9])
    · by_cases e2 : v = t
      · rw [e2, v9, ho u e 9] at a3
        exact Or.inr (by rw [ho u e 9]; exact a3)
      · rw [ho u e 9, ho v e2 9] at a3
        rw [ho u e 9]
        exact h4 u v hu hv a3
  · by_cases e : u = t
    · exact ⟨0, by omega, by rw [e, v9]; rfl⟩
    · rw [ho u e 9]
      exact e3 u hu
/-! lists -/
theorem kq_I.drop (h : kq_I n S P) (ht : t < 8) (x : Int32) : kq_I n (kk_drop S t x) P := h.lists (kk_drop_ls ht h.1) kk_drop_f
theorem kq_I.add (h : kq_I n S P) (ht : t < 8) {x : Int32} (hx : vp_in x 16) : kq_I n (kk_add S t x) P := h.lists (kk_add_ls ht hx h.1) kk_add_f
theorem kq_I.give (h : kq_I n S P) (ht : t < 8) {x : Int32} (hx : vp_in x 16) (d : Int32) : kq_I n (kk_give S t x d) P := by
  unfold kk_give
  rw [if_pos (fk_vp_isA hx)]
  exact (h.word _ _).add ht hx
theorem kk_first_st {x st mk : Int32} (h : kk_first S x st mk = some t) : t < 8 ∧ S 3 t = x ∧ S 1 t = st := by
  obtain ⟨h1, h2⟩ := fk_best_spec h
  unfold kk_fits at h2
  simp only [Bool.and_eq_true, decide_eq_true_eq] at h2
  exact ⟨h1, h2.1.1, h2.1.2⟩
theorem kq_I.pass (h : kq_I n S P) (hn : n < 2 ^ 20) {x : Int32} (hx : vp_in x 16) (b : Bool) : kq_I (n + 1) (kk_pass S x b) P := by
  unfold kk_pass
  split
  · rw [if_pos (fk_vp_isA hx)]
    exact (h.word _ _).wk (by omega)
  · next t e =>
    obtain ⟨h1, -, h3⟩ := kk_first_st e
    exact (h.end h1 hn (by cases b <;> decide) (Or.inr h3)).give h1 hx _
theorem kk_addrAt_in (h : fk_ls S) (ht : t < 8) (i : Nat) (hi : i < 2 ^ 31) : vp_in (kk_addrAt S t (nI i)) 16 ∨ kk_addrAt S t (nI i) = -1 := by
  obtain ⟨k, hk, hs, hv, -⟩ := h t ht
  unfold kk_addrAt
  by_cases c : 0 ≤ nI i ∧ nI i < S 10 t
  · rw [if_pos c, nI_clamp hi]
    rw [hs] at c
    exact Or.inl (hv i ((nI_ltI hi (by omega)).mp c.2))
  · rw [if_neg c]
    exact Or.inr rfl
theorem kk_owner_m1 : kk_owner S (-1) = none := by
  unfold kk_owner
  rw [if_neg (fun h => by have := h.1; revert this; decide)]
theorem kq_I.exl (ht : t < 8) : ∀ (k i n : Nat) (S : fk_S), kq_I n S P → n + k < 2 ^ 20 → i + k < 2 ^ 30 → kq_I (n + k) (kk_exl t k i S).2 P := by
  intro k
  induction k with
  | zero => intro i n S h _ _; exact h
  | succ k ih =>
    intro i n S h hn hi
    simp only [kk_exl]
    split
    · next hc =>
      rcases kk_addrAt_in h.1 ht i (by omega) with hx | hx
      · exact (ih (i + 1) (n + 1) _ (h.pass (by omega) hx true) (by omega) (by omega)).wk (by omega)
      · rw [hx, kk_owner_m1] at hc
        cases hc
    · exact (ih (i + 1) n _ h (by omega) (by omega)).wk (by omega)
/-- a thread leaves the queues without an end of its wait, and is dead -/
theorem kk_ex0_f {f : Nat} (h : f ≠ 0) : kk_ex0 S t f = (fk_up (if kk_q S t = true then kk_off S t else S) 1 t 3) f := by
  unfold kk_ex0
  by_cases c : kk_q S t = true
  · rw [if_pos c, if_pos c]
    unfold kk_leave
    split
    · by_cases h1 : f = 1
      · subst h1
        funext i
        simp [fk_up]
      · rw [fk_up_f h1, fk_up_f h1, fk_up_f h]
    · rfl
  · rw [if_neg c, if_neg c]
theorem kq_I.ex0 (h : kq_I n S P) (ht : t < 8) : kq_I n (kk_ex0 S t) P := by
  have hTt := h.T ht
  have ho : ∀ u, u ≠ t → ∀ f, ¬ f = 0 → kk_ex0 S t f u = S f u := by
    intro u hu f hf
    rw [kk_ex0_f hf, fk_up_o hu]
    split
    · unfold kk_off
      rw [fk_up_o hu, fk_up_o hu, fk_up_o hu]
    · rfl
  have g : ∀ f, ¬ f = 0 → ¬ f = 1 → ¬ f = 3 → ¬ f = 5 → kk_ex0 S t f = S f := by
    intro f a0 a1 a2 a3
    rw [kk_ex0_f a0, fk_up_f a1]
    split
    · unfold kk_off
      rw [fk_up_f a3, fk_up_f a2, fk_up_f a1]
    · rfl
  have v1 : kk_ex0 S t 1 t = 3 := by rw [kk_ex0_f (by decide), fk_up_s]
  have v35 : kk_ex0 S t 3 t = -1 ∧ kk_ex0 S t 5 t = -1 := by
    rw [kk_ex0_f (by decide), kk_ex0_f (by decide), fk_up_f (by decide), fk_up_f (by decide)]
    by_cases c : kk_q S t = true
    · rw [if_pos c]
      simp [kk_off, fk_up]
    · rw [if_neg c]
      rw [hTt.isq] at c
      rcases hTt.st with e | e | e | e
      · exact hTt.nq (Or.inl e)
      · exact absurd (Or.inl e) c
      · exact absurd (Or.inr e) c
      · exact hTt.nq (Or.inr e)
  obtain ⟨h1, h2, h3, h4, ⟨J, j1, j2, j3⟩, ⟨E, e1, e2, e3⟩, T, t1, t2, t3⟩ := h
  refine ⟨fk_ls_of (g 10 (by decide) (by decide) (by decide) (by decide)) (g 11 (by decide) (by decide) (by decide) (by decide)) h1, fun u hu => ?_, ?_, ?_, ⟨J, j1, by rw [g 12 (by decide) (by decide) (by decide) (by decide)]; exact j2, fun u hu => by rw [g 7 (by decide) (by decide) (by decide) (by decide)]; exact j3 u hu⟩, ⟨E, e1, by rw [g 12 (by decide) (by decide) (by decide) (by decide)]; exact e2, fun u hu => by rw [g 9 (by decide) (by decide) (by decide) (by decide)]; exact e3 u hu⟩, T, t1, by rw [g 12 (by decide) (by decide) (by decide) (by decide)]; exact t2, fun u hu => ?_⟩
  · by_cases e : u = t
    · subst e
      refine ⟨Or.inr (Or.inr (Or.inr ⟨v1, v35.1, v35.2⟩)), ?_, ?_⟩
      · rw [g 2 (by decide) (by decide) (by decide) (by decide)]; exact hTt.2.1
      · rw [g 8 (by decide) (by decide) (by decide) (by decide), g 9 (by decide) (by decide) (by decide) (by decide)]; exact hTt.2.2
    · exact (h2 u hu).of (fun f hf => ho u e f (by omega)) rfl rfl
  · intro u v hu hv a1 a2 a3
    unfold kk_q at a1 a2
    have nu : u ≠ t := fun e => by rw [e, v35.1] at a1; simp at a1
    have nv : v ≠ t := fun e => by rw [e, v35.1] at a2; simp at a2
    rw [ho u nu 3 (by decide)] at a1
    rw [ho v nv 3 (by decide)] at a2
    rw [ho u nu 7 (by decide), ho v nv 7 (by decide)] at a3
    exact h3 u v hu hv a1 a2 a3
  · rw [g 9 (by decide) (by decide) (by decide) (by decide)]
    exact h4
  · by_cases e : u = t
    · exact Or.inl (by rw [e]; exact v35.2)
    · rw [ho u e 5 (by decide)]
      exact t3 u hu
theorem fk_ls_clear (h : fk_ls S) : fk_ls (fk_up S 10 t 0) := by
  intro u hu
  obtain ⟨k, hk, hs, hv, hd⟩ := h u hu
  rw [fk_up_f (a := 11) (by decide)]
  by_cases e : u = t
  · subst e
    exact ⟨0, by omega, by rw [fk_up_s]; rfl, fun j hj => absurd hj (by omega), fun i j _ hj => absurd hj (by omega)⟩
  · exact ⟨k, hk, by rw [fk_up_i e]; exact hs, hv, hd⟩
theorem kq_I.exit (h : kq_I n S P) (ht : t < 8) (hn : n < 2 ^ 19) : kq_I (n + 16) (kk_exit S t) P := by
  obtain ⟨k, hk, hs, -, -⟩ := h.1 t ht
  unfold kk_exit
  rw [hs, nI_clamp (by omega)]
  have h9 := kq_I.exl (P := P) ht k 0 n (kk_ex0 S t) (h.ex0 ht) (by omega) (by omega)
  exact (h9.lists (fk_ls_clear h9.1) (fun f h1 _ => fk_up_f h1)).wk (by omega)
theorem kq_I.wake (x mk : Int32) : ∀ (k n : Nat) (S : fk_S), kq_I n S P → n + k < 2 ^ 20 → kq_I (n + k) (kk_wake x mk k S).2 P := by
  intro k
  induction k with
  | zero => intro n S h _; exact h
  | succ k ih =>
    intro n S h hn
    cases e : kk_first S x 1 mk with
    | none =>
      simp only [kk_wake, e]
      exact h.wk (by omega)
    | some t =>
      simp only [kk_wake, e]
      obtain ⟨h1, -, h3⟩ := kk_first_st e
      exact (ih (n + 1) _ (h.end h1 (by omega) (by decide) (Or.inl h3)) (by omega)).wk (by omega)
theorem kq_I.move (x : Int32) {b : Nat} (hb : b < 16) : ∀ (k n : Nat) (S : fk_S), kq_I n S P → n + k < 2 ^ 20 → kq_I (n + k) (kk_move x (nI b) k S).2 P := by
  intro k
  induction k with
  | zero => intro n S h _; exact h
  | succ k ih =>
    intro n S h hn
    cases e : kk_first S x 1 255 with
    | none =>
      simp only [kk_move, e]
      exact h.wk (by omega)
    | some t =>
      simp only [kk_move, e]
      obtain ⟨h1, -, h3⟩ := kk_first_st e
      exact (ih (n + 1) _ (h.join h1 (by omega) hb (Or.inl h3)) (by omega)).wk (by omega)
end
