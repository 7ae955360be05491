/-! deadlines -/
theorem kq_bestG {P : Nat → Bool} {lt : Nat → Nat → Bool} (ir : ∀ v, lt v v = false) (tr : ∀ u v w, lt u v = true → lt v w = true → lt u w = true) : ∀ (n i : Nat) (x : Option Nat), (∀ u, x = some u → u < i ∧ P u = true ∧ ∀ v, v < i → P v = true → lt v u = false) → (x = none → ∀ v, v < i → P v = false) →
    ∀ u, fk_lp (fk_bb P lt) n i x = some u → u < i + n ∧ P u = true ∧ ∀ v, v < i + n → P v = true → lt v u = false := by
  intro n
  induction n with
  | zero => intro i x h _; exact h
  | succ n ih =>
    intro i x h h0
    show ∀ u, fk_lp (fk_bb P lt) n (i + 1) (fk_bb P lt i x) = some u → _
    rw [show i + (n + 1) = i + 1 + n by omega]
    have l2 : ∀ v, v < i + 1 → v = i ∨ v < i := fun v h9 => by omega
    refine ih (i + 1) _ ?_ ?_
    · intro u hu
      cases x with
      | none =>
        simp only [fk_bb] at hu
        by_cases hp : P i = true
        · rw [if_pos hp] at hu
          cases hu
          refine ⟨by omega, hp, fun v hv hv2 => ?_⟩
          rcases l2 v hv with rfl | h3
          · exact ir _
          · rw [h0 rfl v h3] at hv2
            cases hv2
        · rw [if_neg hp] at hu
          cases hu
      | some w =>
        obtain ⟨h1, h2, h3⟩ := h w rfl
        simp only [fk_bb] at hu
        by_cases hp : (P i && lt i w) = true
        · rw [if_pos hp] at hu
          cases hu
          simp only [Bool.and_eq_true] at hp
          refine ⟨by omega, hp.1, fun v hv hv2 => ?_⟩
          rcases l2 v hv with rfl | h4
          · exact ir _
          · have h5 := h3 v h4 hv2
            rw [← Bool.not_eq_true] at h5 ⊢
            exact fun h6 => h5 (tr _ _ _ h6 hp.2)
        · rw [if_neg hp] at hu
          cases hu
          refine ⟨by omega, h2, fun v hv hv2 => ?_⟩
          rcases l2 v hv with rfl | h4
          · rw [hv2, Bool.true_and] at hp
            simpa using hp
          · exact h3 v h4 hv2
    · intro hx v hv
      cases x with
      | none =>
        simp only [fk_bb] at hx
        by_cases hp : P i = true
        · rw [if_pos hp] at hx
          cases hx
        · rcases l2 v hv with rfl | h3
          · simpa using hp
          · exact h0 rfl v h3
      | some w =>
        simp only [fk_bb] at hx
        split at hx <;> cases hx
theorem kq_so {S : fk_S} {t u : Nat} : kk_sooner S t u = true ↔ ((S 5 t).toInt < (S 5 u).toInt ∨ ((S 5 t).toInt = (S 5 u).toInt ∧ (S 6 t).toInt < (S 6 u).toInt)) := by
  unfold kk_sooner
  simp only [Bool.or_eq_true, Bool.and_eq_true, decide_eq_true_eq, Int32.lt_iff_toInt_lt, ← Int32.toInt_inj]
theorem kq_nx {S : fk_S} {u : Nat} (h : kk_next S = some u) : u < 8 ∧ S 5 u ≠ -1 ∧ ∀ v, v < 8 → S 5 v ≠ -1 → ¬ S 5 v < S 5 u := by
  obtain ⟨h1, h2, h3⟩ := kq_bestG (P := fun t => decide (S 5 t ≠ -1)) (lt := kk_sooner S) (fun v => by rw [← Bool.not_eq_true, kq_so]; omega) (fun a b c x y => by rw [kq_so] at x y ⊢; omega) 8 0 none (fun u hu => by cases hu) (fun _ v hv => absurd hv (by omega)) u h
  refine ⟨by omega, by simpa using h2, fun v hv hv2 h9 => ?_⟩
  have h4 := h3 v (by omega) (decide_eq_true hv2)
  rw [← Bool.not_eq_true, kq_so] at h4
  rw [Int32.lt_iff_toInt_lt] at h9
  exact h4 (Or.inl h9)
theorem kq_nx0 {S : fk_S} (h : kk_next S = none) : ∀ v, v < 8 → S 5 v = -1 := by
  intro v hv
  have := fk_best_none h v hv
  simpa using this
section
variable {n : Nat} {S S' : fk_S} {P P' : Nat → Int32} {u t a : Nat}
/-- the next timeout, by what it is: the least of the deadlines -/
theorem kq_nextV {T d : Nat} (hd : d < 2 ^ 30) (hTd : T < d) (h12 : S 12 0 = nI T) (hu : ∃ u, u < 8 ∧ S 5 u = nI d) (ho : ∀ u, u < 8 → S 5 u = -1 ∨ ∃ d', d ≤ d' ∧ d' < 2 ^ 30 ∧ S 5 u = nI d') : kk_nextR S = nI (d - T) := by
  obtain ⟨u, hu, eu⟩ := hu
  unfold kk_nextR
  cases e : kk_next S with
  | none =>
    have := kq_nx0 e u hu
    rw [eu] at this
    exact absurd this (fk_nI_m1 (by omega))
  | some w =>
    obtain ⟨h1, h2, h3⟩ := kq_nx e
    rcases ho w h1 with h4 | ⟨d', hd', hd2, ew⟩
    · exact absurd h4 h2
    · have h5 := h3 u hu (by rw [eu]; exact fk_nI_m1 (by omega))
      rw [eu, ew, nI_ltI (by omega) (by omega)] at h5
      have : d' = d := by omega
      show S 5 w - S 12 0 = nI (d - T)
      rw [ew, h12, this, pk_sub (by omega)]
theorem kq_nextN (h : ∀ u, u < 8 → S 5 u = -1) : kk_nextR S = -1 := by
  unfold kk_nextR
  cases e : kk_next S with
  | none => rfl
  | some w =>
    obtain ⟨h1, h2, -⟩ := kq_nx e
    exact absurd (h w h1) h2
theorem kq_I.next (h : kq_I n S P) (hn : n < 2 ^ 17) : (kk_nextR S = -1 ∧ kk_next S = none ∧ ∀ u, u < 8 → S 5 u = -1) ∨ ∃ T d w, S 12 0 = nI T ∧ T ≤ 1000 * n ∧ T < d ∧ d ≤ T + 10000 ∧ kk_nextR S = nI (d - T) ∧ kk_next S = some w ∧ w < 8 ∧ S 5 w = nI d ∧ ∀ u, u < 8 → S 5 u = -1 ∨ ∃ d', d ≤ d' ∧ d' < 2 ^ 30 ∧ S 5 u = nI d' := by
  obtain ⟨-, -, -, -, -, -, T, t1, t2, t3⟩ := h
  cases e : kk_next S with
  | none =>
    have := kq_nx0 e
    exact Or.inl ⟨kq_nextN this, rfl, this⟩
  | some w =>
    obtain ⟨h1, h2, h3⟩ := kq_nx e
    rcases t3 w h1 with h4 | ⟨d, d1, d2, ew⟩
    · exact absurd h4 h2
    · have ho : ∀ u, u < 8 → S 5 u = -1 ∨ ∃ d', d ≤ d' ∧ d' < 2 ^ 30 ∧ S 5 u = nI d' := by
        intro u hu
        rcases t3 u hu with h5 | ⟨d', e1, e2, eu⟩
        · exact Or.inl h5
        · refine Or.inr ⟨d', ?_, by omega, eu⟩
          have h6 := h3 u hu (by rw [eu]; exact fk_nI_m1 (by omega))
          rw [eu, ew, nI_ltI (by omega) (by omega)] at h6
          omega
      exact Or.inr ⟨T, d, w, t2, t1, d1, d2, kq_nextV (by omega) d1 t2 ⟨w, h1, ew⟩ ho, rfl, h1, ew, ho⟩
theorem kq_I.next_pos (h : kq_I n S P) (hn : n < 2 ^ 17) : kk_nextR S = -1 ∨ 0 < kk_nextR S := by
  rcases h.next hn with h1 | ⟨T, d, w, -, -, h2, h3, h4, -⟩
  · exact Or.inl h1.1
  · rw [h4]
    exact Or.inr (nI_lt (a := 0) (by omega) (by omega))
/-- nothing of the deadlines has changed -/
theorem kq_I.next_eq (h : kq_I n S P) (hn : n < 2 ^ 17) (h5 : ∀ u, u < 8 → S' 5 u = S 5 u) (h12 : S' 12 0 = S 12 0) : kk_nextR S' = kk_nextR S := by
  rcases h.next hn with ⟨h1, -, h2⟩ | ⟨T, d, w, a1, a2, a3, a4, a5, a6, a7, a8, a9⟩
  · rw [h1]
    exact kq_nextN (fun u hu => by rw [h5 u hu]; exact h2 u hu)
  · rw [a5]
    exact kq_nextV (by omega) a3 (by rw [h12]; exact a1) ⟨w, a7, by rw [h5 w a7]; exact a8⟩ (fun u hu => by rw [h5 u hu]; exact a9 u hu)
/-- one more deadline, of to ticks, for a thread that had none -/
theorem kq_I.next_more (h : kq_I n S P) (hn : n < 2 ^ 17) (ht : t < 8) (h5t : S 5 t = -1) {to : Int32} (hto : fk_btw to 0 10000 = true) (h5 : ∀ u, u < 8 → u ≠ t → S' 5 u = S 5 u) (h5' : S' 5 t = if to = 0 then -1 else S 12 0 + to) (h12 : S' 12 0 = S 12 0) : kk_nextR S' = if 0 < to ∧ (kk_nextR S = -1 ∨ to < kk_nextR S) then to else kk_nextR S := by
  obtain ⟨k, -, hk, rfl⟩ := fk_btw_N (lo := 0) (hi := 10000) hto (by decide) (by decide)
  by_cases c0 : k = 0
  · subst c0
    rw [if_pos nI_0] at h5'
    rw [if_neg (fun z => absurd z.1 (by decide))]
    exact h.next_eq hn (fun u hu => by
      by_cases e : u = t
      · rw [e, h5', h5t]
      · exact h5 u hu e) h12
  · rw [if_neg (nI_ne0 (by omega) (by omega))] at h5'
    have hpos : 0 < nI k := nI_lt (a := 0) (by omega) (by omega)
    rcases h.next hn with ⟨h1, -, h2⟩ | ⟨T, d, w, a1, a2, a3, a4, a5, a6, a7, a8, a9⟩
    · rw [if_pos ⟨hpos, Or.inl h1⟩]
      obtain ⟨-, -, -, -, -, -, T, t1, t2, -⟩ := h
      rw [t2, nI_add] at h5'
      rw [show k = (T + k) - T by omega]
      refine kq_nextV (by omega) (by omega) (by rw [h12]; exact t2) ⟨t, ht, h5'⟩ (fun u hu => ?_)
      by_cases e : u = t
      · rw [e]; exact Or.inr ⟨T + k, Nat.le_refl _, by omega, h5'⟩
      · rw [h5 u hu e]; exact Or.inl (h2 u hu)
    · rw [a1, nI_add] at h5'
      have wt : w ≠ t := fun e => by rw [e, h5t] at a8; exact fk_nI_m1 (by omega) a8.symm
      rw [a5]
      by_cases c : k < d - T
      · rw [if_pos ⟨hpos, Or.inr ((nI_ltI (by omega) (by omega)).mpr c)⟩, show k = (T + k) - T by omega]
        refine kq_nextV (by omega) (by omega) (by rw [h12]; exact a1) ⟨t, ht, h5'⟩ (fun u hu => ?_)
        by_cases e : u = t
        · rw [e]; exact Or.inr ⟨T + k, Nat.le_refl _, by omega, h5'⟩
        · rw [h5 u hu e]
          rcases a9 u hu with z | ⟨d', z1, z2, z3⟩
          · exact Or.inl z
          · exact Or.inr ⟨d', by omega, z2, z3⟩
      · rw [if_neg (fun z => by
          rcases z.2 with z | z
          · exact fk_nI_m1 (by omega) z
          · exact c ((nI_ltI (by omega) (by omega)).mp z))]
        refine kq_nextV (by omega) a3 (by rw [h12]; exact a1) ⟨w, a7, by rw [h5 w a7 wt]; exact a8⟩ (fun u hu => ?_)
        by_cases e : u = t
        · rw [e]; exact Or.inr ⟨T + k, by omega, by omega, h5'⟩
        · rw [h5 u hu e]; exact a9 u hu
/-! a tick -/
theorem kq_end_5 (r : Int32) : kk_end S t r 5 = upd (S 5) t (-1) := by
  rw [kq_e_f S t r (by decide)]
  funext i
  simp [kq_e, kk_fin, kk_off, fk_up, upd]
theorem kq_end_9 (r : Int32) : kk_end S t r 9 = upd (S 9) t (S 12 1 + 1) := by
  rw [kq_e_f S t r (by decide)]
  funext i
  simp [kq_e, kk_fin, kk_off, fk_up, upd]
theorem kq_end_8 (r : Int32) : kk_end S t r 8 = upd (S 8) t r := by
  rw [kq_e_f S t r (by decide)]
  funext i
  simp [kq_e, kk_fin, kk_off, fk_up, upd]
theorem kq_end_12 (r : Int32) {i : Nat} (h : i ≠ 1) : kk_end S t r 12 i = S 12 i := by
  rw [kq_e_f S t r (by decide)]
  simp [kq_e, kk_fin, kk_off, fk_up, h]
theorem kq_end_121 (r : Int32) : kk_end S t r 12 1 = S 12 1 + 1 := by
  rw [kq_e_f S t r (by decide)]
  simp [kq_e, kk_fin, kk_off, fk_up]
theorem kq_filter_upd {p q : Nat → Bool} {t : Nat} (ht : t < 8) (hp : p t = true) (hq : q t = false) (ho : ∀ u, u ≠ t → p u = q u) : ((List.range 8).filter p).length = ((List.range 8).filter q).length + 1 := by
  have key : ∀ m, ((List.range m).filter p).length = ((List.range m).filter q).length + if t < m then 1 else 0 := by
    intro m
    induction m with
    | zero => simp
    | succ m ih =>
      rw [List.range_succ, List.filter_append, List.filter_append, List.length_append, List.length_append, ih]
      by_cases e : m = t
      · subst e
        simp [hp, hq]
      · have : p m = q m := ho m e
        simp only [List.filter_cons, List.filter_nil, this]
        by_cases c : t < m
        · rw [if_pos c, if_pos (show t < m + 1 by omega)]; omega
        · rw [if_neg c, if_neg (show ¬ t < m + 1 by omega)]; omega
  rw [key 8, if_pos ht]
theorem kq_next_dq (h : kq_I n S P) (hu : u < 8) (h5 : S 5 u ≠ -1) : S 1 u = 1 ∨ S 1 u = 2 := by
  rcases (h.T hu).st with e | e | e | e
  · exact absurd ((h.T hu).nq (Or.inl e)).2 h5
  · exact Or.inl e
  · exact Or.inr e
  · exact absurd ((h.T hu).nq (Or.inr e)).2 h5
/-- how many waits a tick ends; L: no serial number was above it -/
theorem kq_tickL {e L : Nat} (he : e < 2 ^ 30) (hL : L < 2 ^ 30) : ∀ (k n : Nat) (S : fk_S), kq_I n S P → n + k < 2 ^ 17 → (∃ E, L ≤ E ∧ E ≤ n ∧ S 12 1 = nI E) → (∀ u, u < 8 → S 5 u ≠ -1 → ¬ nI L < S 9 u) → ((List.range 8).filter (fun u => decide (S 5 u ≠ -1))).length ≤ k →
    kq_I (n + k) (kk_tickL (nI e) k S).2 P ∧ (∀ u, u < 8 → (kk_tickL (nI e) k S).2 5 u = -1 ∨ nI e < (kk_tickL (nI e) k S).2 5 u) ∧ (kk_tickL (nI e) k S).2 12 0 = S 12 0 ∧ (kk_tickL (nI e) k S).1 ≤ k ∧
    ((List.range 8).filter (fun u => decide (nI L < (kk_tickL (nI e) k S).2 9 u) && decide ((kk_tickL (nI e) k S).2 8 u = 1))).length = ((List.range 8).filter (fun u => decide (nI L < S 9 u) && decide (S 8 u = 1))).length + (kk_tickL (nI e) k S).1 := by
  intro k
  induction k with
  | zero =>
    intro n S h hn hE h9 hk
    refine ⟨h, fun u hu => Or.inl ?_, rfl, Nat.le_refl _, rfl⟩
    have : (List.range 8).filter (fun u => decide (S 5 u ≠ -1)) = [] := List.length_eq_zero_iff.mp (by omega)
    rw [List.filter_eq_nil_iff] at this
    have := this u (List.mem_range.mpr hu)
    simpa [kk_tickL] using this
  | succ k ih =>
    intro n S h hn hE h9 hk
    cases hx : kk_next S with
    | none =>
      simp only [kk_tickL, hx]
      exact ⟨h.wk (by omega), fun u hu => Or.inl (kq_nx0 hx u hu), trivial, Nat.zero_le _, rfl⟩
    | some t =>
      obtain ⟨h1, h2, h3⟩ := kq_nx hx
      simp only [kk_tickL, hx]
      by_cases c : S 5 t ≤ nI e
      · rw [if_pos c]
        obtain ⟨E, E1, E2, E3⟩ := hE
        have hst := kq_next_dq h h1 h2
        have hlt : nI L < nI (E + 1) := nI_lt (by omega) (by omega)
        obtain ⟨i1, i2, i3, i4, i5⟩ := ih (n + 1) (kk_end S t 1) (h.end h1 (by omega) (by decide) hst) (by omega) ⟨E + 1, by omega, by omega, by rw [kq_end_121, E3, nI_1]⟩ (fun u hu hu5 => by
          rw [kq_end_5] at hu5
          by_cases z : u = t
          · rw [z, pk_us] at hu5
            exact absurd rfl hu5
          · rw [pk_un z] at hu5
            rw [kq_end_9, pk_un z]
            exact h9 u hu hu5) (by
          have := kq_filter_upd (p := fun u => decide (S 5 u ≠ -1)) (q := fun u => decide (kk_end S t 1 5 u ≠ -1)) h1 (decide_eq_true h2) (by rw [kq_end_5, pk_us]; rfl) (fun u hu => by rw [kq_end_5, pk_un hu])
          omega)
        refine ⟨i1.wk (by omega), i2, i3.trans (kq_end_12 _ (by decide)), by omega, ?_⟩
        rw [i5]
        have := kq_filter_upd (p := fun u => decide (nI L < kk_end S t 1 9 u) && decide (kk_end S t 1 8 u = 1)) (q := fun u => decide (nI L < S 9 u) && decide (S 8 u = 1)) h1 (by rw [kq_end_9, pk_us, kq_end_8, pk_us, E3, nI_1, decide_eq_true hlt]; rfl) (by rw [decide_eq_false (h9 t h1 h2)]; rfl) (fun u hu => by rw [kq_end_9, pk_un hu, kq_end_8, pk_un hu])
        omega
      · rw [if_neg c]
        refine ⟨h.wk (by omega), fun u hu => ?_, rfl, Nat.zero_le _, rfl⟩
        by_cases z : S 5 u = -1
        · exact Or.inl z
        · refine Or.inr ?_
          have h4 := h3 u hu z
          rw [Int32.not_lt] at h4
          rw [Int32.not_le] at c
          exact Int32.lt_of_lt_of_le c h4
theorem kq_tickL0 {e : Int32} : (kk_tickL e 8 S).1 = 0 → (kk_tickL e 8 S).2 = S := by
  intro h
  cases hx : kk_next S with
  | none => simp only [kk_tickL, hx]
  | some t =>
    by_cases c : S 5 t ≤ e
    · simp only [kk_tickL, hx] at h
      rw [if_pos c] at h
      exact absurd h (by simp)
    · simp only [kk_tickL, hx]
      rw [if_neg c]
theorem kq_tickL1 {e : Int32} : (kk_tickL e 8 S).1 = 0 ↔ (match kk_next S with
    | none => True
    | some t => ¬ S 5 t ≤ e) := by
  cases hx : kk_next S with
  | none => simp [kk_tickL, hx]
  | some t =>
    by_cases c : S 5 t ≤ e
    · simp [kk_tickL, hx, c]
    · simp [kk_tickL, hx, c]
end
