/-! the time -/
theorem fk_lp_rel {α β : Type} {f : Nat → α → α} {g : Nat → β → β} (R : Nat → α → β → Prop) (N : Nat) (h : ∀ i x y, i < N → R i x y → R (i + 1) (f i x) (g i y)) : ∀ n i x y, i + n = N → R i x y → R N (fk_lp f n i x) (fk_lp g n i y) := by
  intro n
  induction n with
  | zero => intro i x y hi hr; have : i = N := by omega
            subst this; exact hr
  | succ n ih => intro i x y hi hr; exact ih (i + 1) _ _ (by omega) (h i x y (by omega) hr)
def fk_cn (p : Nat → Bool) : Nat → Nat
  | 0 => 0
  | n + 1 => fk_cn p n + (if p n = true then 1 else 0)
theorem fk_cn_le (p : Nat → Bool) : ∀ n, fk_cn p n ≤ n := by
  intro n
  induction n with
  | zero => exact Nat.le_refl _
  | succ n ih =>
    show fk_cn p n + (if p n = true then 1 else 0) ≤ n + 1
    split <;> omega
theorem fk_cn_congr {p q : Nat → Bool} : ∀ n, (∀ u, u < n → p u = q u) → fk_cn p n = fk_cn q n := by
  intro n
  induction n with
  | zero => intro _; rfl
  | succ n ih =>
    intro h
    show fk_cn p n + (if p n = true then 1 else 0) = fk_cn q n + (if q n = true then 1 else 0)
    rw [ih (fun u hu => h u (by omega)), h n (by omega)]
theorem fk_cn_drop {p q : Nat → Bool} {t : Nat} (hp : p t = true) (hq : q t = false) (he : ∀ u, u ≠ t → q u = p u) : ∀ n, t < n → fk_cn q n + 1 = fk_cn p n := by
  intro n
  induction n with
  | zero => intro h; omega
  | succ n ih =>
    intro h
    show fk_cn q n + (if q n = true then 1 else 0) + 1 = fk_cn p n + (if p n = true then 1 else 0)
    by_cases e : t = n
    · subst e
      rw [hp, hq, fk_cn_congr t (fun u hu => he u (by omega))]
      simp
    · rw [he n (fun z => e z.symm), ← ih (by omega)]
      omega
theorem fk_up_commi (S : fk_S) {f i j : Nat} {v w : Int32} (h : i ≠ j) : fk_up (fk_up S f i v) f j w = fk_up (fk_up S f j w) f i v := by
  funext a b
  simp only [fk_up]
  by_cases h1 : a = f
  · subst h1
    by_cases h2 : b = j
    · subst h2
      simp [Ne.symm h]
    · simp [h2]
  · simp [h1]
theorem mm_first_tm (M : fk_S) (v x st mk : Int32) : mm_first (fk_up M 12 0 v) x st mk = mm_first M x st mk := rfl
theorem kk_first_tm (M : fk_S) (v x st mk : Int32) : kk_first (fk_up M 12 0 v) x st mk = kk_first M x st mk := rfl
theorem kk_next_tm (M : fk_S) (v : Int32) : kk_next (fk_up M 12 0 v) = kk_next M := rfl
theorem mm_leave_tm (M : fk_S) (t : Nat) (w v : Int32) : mm_leave (fk_up M 12 0 v) t w = fk_up (mm_leave M t w) 12 0 v := by
  unfold mm_leave mm_lk
  rw [fk_up_comm M (f := 12) (g := 1) (by decide), mm_first_tm, fk_up_f (a := 1) (by decide), fk_up_f (a := 3) (by decide), fk_up_f (a := 0) (by decide)]
  split
  · rw [fk_up_comm _ (f := 12) (g := 0) (by decide)]
  · rfl
theorem kk_fin_tm (M : fk_S) (t : Nat) (w v : Int32) : kk_fin (fk_up M 12 0 v) t w = fk_up (kk_fin M t w) 12 0 v := by
  unfold kk_fin
  rw [fk_up_i (S := M) (f := 12) (i := 0) (v := v) (b := 1) (by decide), fk_up_comm M (f := 12) (g := 8) (by decide), fk_up_commi (f := 12) (i := 0) (j := 1) _ (by decide), fk_up_comm _ (f := 12) (i := 0) (g := 9) (by decide)]
theorem mm_end_tm (M : fk_S) (t : Nat) (w v : Int32) : mm_end (fk_up M 12 0 v) t w = fk_up (mm_end M t w) 12 0 v := by
  unfold mm_end
  rw [mm_leave_tm, kk_fin_tm]
theorem kk_off_tm (M : fk_S) (t : Nat) (v : Int32) : kk_off (fk_up M 12 0 v) t = fk_up (kk_off M t) 12 0 v := by
  unfold kk_off
  rw [fk_up_comm M (f := 12) (g := 1) (by decide), fk_up_comm _ (f := 12) (g := 3) (by decide), fk_up_comm _ (f := 12) (g := 5) (by decide)]
theorem kk_leave_tm (M : fk_S) (t : Nat) (v : Int32) : kk_leave (fk_up M 12 0 v) t = fk_up (kk_leave M t) 12 0 v := by
  unfold kk_leave kk_lk
  rw [kk_off_tm, kk_first_tm, fk_up_f (a := 1) (by decide), fk_up_f (a := 3) (by decide), fk_up_f (a := 0) (by decide)]
  split
  · rw [fk_up_comm _ (f := 12) (g := 0) (by decide)]
  · rfl
theorem kk_end_tm (M : fk_S) (t : Nat) (w v : Int32) : kk_end (fk_up M 12 0 v) t w = fk_up (kk_end M t w) 12 0 v := by
  unfold kk_end
  rw [kk_leave_tm, kk_fin_tm]
theorem kk_tickL_tm (e v : Int32) : ∀ n S, kk_tickL e n (fk_up S 12 0 v) = ((kk_tickL e n S).1, fk_up (kk_tickL e n S).2 12 0 v) := by
  intro n
  induction n with
  | zero => intro S; rfl
  | succ n ih =>
    intro S
    simp only [kk_tickL]
    rw [kk_next_tm]
    cases kk_next S with
    | none => rfl
    | some t =>
      simp only
      rw [fk_up_f (a := 5) (by decide), kk_end_tm, ih]
      split <;> rfl
/-- the time of the model's numbers goes on -/
theorem fk_k_tm (M : fk_S) (v : Int32) : fk_kOf (fk_up M 12 0 v) = fk_up (fk_kOf M) 12 0 v := fk_k_up M v (by decide) (by decide) (by decide) (by omega)
/-- what the deadlines are -/
theorem fk_dl {a b : Nat} {M : fk_S} (h : fk_I a b M) : ∃ T, T ≤ b ∧ M 12 0 = nI T ∧ ∀ u, u < 8 → (fk_kOf M 5 u = -1 ∧ (mm_q M u = true → M 5 u = 0)) ∨ (mm_q M u = true ∧ ∃ d, M 5 u = nI d ∧ fk_kOf M 5 u = nI d ∧ T < d ∧ d ≤ T + 10000) := by
  obtain ⟨-, -, -, -, -, T, t1, t2, t3⟩ := h
  refine ⟨T, t1, t2, fun u hu => ?_⟩
  by_cases hq : mm_q M u = true
  · rcases t3 u hu hq with e | ⟨d, e, h1, h2⟩
    · exact Or.inl ⟨by rw [fk_k5, if_neg (fun z => z.2 e)], fun _ => e⟩
    · by_cases e0 : M 5 u = 0
      · exact Or.inl ⟨by rw [fk_k5, if_neg (fun z => z.2 e0)], fun _ => e0⟩
      · exact Or.inr ⟨hq, d, e, by rw [fk_k5, if_pos ⟨hq, e0⟩, e], h1, h2⟩
  · exact Or.inl ⟨by rw [fk_k5, if_neg (fun z => hq z.1)], fun z => absurd z hq⟩
theorem kk_next_due {a b : Nat} {M : fk_S} (h : fk_I a b M) (hb : b < 2 ^ 25) {T : Nat} (hT : M 12 0 = nI T) (hT2 : T ≤ b) :
    match mm_due (fk_up M 12 0 (nI (T + 1))) with
    | some t => kk_next (fk_kOf M) = some t ∧ mm_q M t = true ∧ fk_kOf M 5 t = nI (T + 1)
    | none => ∀ u, u < 8 → mm_q M u = true → M 5 u ≠ nI (T + 1) := by
  obtain ⟨T', t1, t2, t3⟩ := fk_dl h
  have eT : T' = T := by
    exact (nI_eq (by omega) (by omega)).mp (t2.symm.trans hT)
  subst eT
  have hP : ∀ t, (fun t => mm_q (fk_up M 12 0 (nI (T' + 1))) t && decide (fk_up M 12 0 (nI (T' + 1)) 5 t = fk_up M 12 0 (nI (T' + 1)) 12 0)) t = (mm_q M t && decide (M 5 t = nI (T' + 1))) := fun t => rfl
  have key : ∀ t, t < 8 → (mm_q M t && decide (M 5 t = nI (T' + 1))) = decide (fk_kOf M 5 t = nI (T' + 1)) := by
    intro t ht
    rcases t3 t ht with ⟨e1, e2⟩ | ⟨e1, d, e2, e3, e4, e5⟩
    · rw [e1]
      by_cases hq : mm_q M t = true
      · rw [e2 hq, hq]
        have n0 : ¬ (0 : Int32) = nI (T' + 1) := fun z => nI_ne0 (n := T' + 1) (by omega) (by omega) z.symm
        have n1 : ¬ (-1 : Int32) = nI (T' + 1) := fun z => fk_nI_m1 (u := T' + 1) (by omega) z.symm
        rw [decide_eq_false n0, decide_eq_false n1]; rfl
      · have n1 : ¬ (-1 : Int32) = nI (T' + 1) := fun z => fk_nI_m1 (u := T' + 1) (by omega) z.symm
        rw [eq_false_of_ne_true hq, decide_eq_false n1]; rfl
    · rw [e1, e2, e3]; rfl
  have rel := fk_lp_rel (f := fk_bb (fun t => mm_q (fk_up M 12 0 (nI (T' + 1))) t && decide (fk_up M 12 0 (nI (T' + 1)) 5 t = fk_up M 12 0 (nI (T' + 1)) 12 0)) (fun t u => decide (fk_up M 12 0 (nI (T' + 1)) 6 t < fk_up M 12 0 (nI (T' + 1)) 6 u))) (g := fk_bb (fun t => decide (fk_kOf M 5 t ≠ -1)) (kk_sooner (fk_kOf M)))
    (fun _ x y => match x with
      | some t => y = some t ∧ t < 8 ∧ fk_kOf M 5 t = nI (T' + 1)
      | none => match y with
        | none => True
        | some u => u < 8 ∧ ∃ d, fk_kOf M 5 u = nI d ∧ T' + 1 < d ∧ d ≤ T' + 10000) 8 (by
      intro i x y hi hr
      have k1 := key i hi
      have n1 : ∀ d, d < 2 ^ 31 → ¬ nI d = (-1 : Int32) := fun d hd => fk_nI_m1 hd
      have k6 : ∀ u, fk_kOf M 6 u = M 6 u := fun u => fk_kf (by decide) (by decide) (by omega)
      have p1 : ∀ t, t < 8 → ∀ z : Option Nat, fk_bb (fun t => mm_q (fk_up M 12 0 (nI (T' + 1))) t && decide (fk_up M 12 0 (nI (T' + 1)) 5 t = fk_up M 12 0 (nI (T' + 1)) 12 0)) (fun t u => decide (fk_up M 12 0 (nI (T' + 1)) 6 t < fk_up M 12 0 (nI (T' + 1)) 6 u)) t z = fk_bb (fun t => decide (fk_kOf M 5 t = nI (T' + 1))) (fun t u => decide (M 6 t < M 6 u)) t z := by
        intro t ht z
        have := key t ht
        cases z with
        | none => show (if (mm_q M t && decide (M 5 t = nI (T' + 1))) = true then some t else none) = (if decide (fk_kOf M 5 t = nI (T' + 1)) = true then some t else none); rw [this]
        | some w => show (if ((mm_q M t && decide (M 5 t = nI (T' + 1))) && decide (M 6 t < M 6 w)) = true then some t else some w) = (if (decide (fk_kOf M 5 t = nI (T' + 1)) && decide (M 6 t < M 6 w)) = true then some t else some w); rw [this]
      rw [p1 i hi x]
      by_cases c1 : fk_kOf M 5 i = nI (T' + 1)
      · have c2 : ¬ fk_kOf M 5 i = -1 := by rw [c1]; exact n1 _ (by omega)
        cases x with
        | none =>
          have e1 : fk_bb (fun t => decide (fk_kOf M 5 t = nI (T' + 1))) (fun t u => decide (M 6 t < M 6 u)) i none = some i := by simp [fk_bb, c1]
          rw [e1]
          cases y with
          | none => exact ⟨by simp [fk_bb, c2], hi, c1⟩
          | some u =>
            obtain ⟨hu, d, d1, d2, d3⟩ := hr
            have : nI (T' + 1) < nI d := (nI_ltI (by omega) (by omega)).mpr d2
            exact ⟨by simp [fk_bb, kk_sooner, c1, d1, this, n1 (T' + 1) (by omega)], hi, c1⟩
        | some w =>
          obtain ⟨rfl, hw, ew⟩ := hr
          by_cases c3 : M 6 i < M 6 w
          · have e1 : fk_bb (fun t => decide (fk_kOf M 5 t = nI (T' + 1))) (fun t u => decide (M 6 t < M 6 u)) i (some w) = some i := by simp [fk_bb, c1, c3]
            rw [e1]
            exact ⟨by simp [fk_bb, kk_sooner, c1, ew, c3, k6, n1 (T' + 1) (by omega)], hi, c1⟩
          · have e1 : fk_bb (fun t => decide (fk_kOf M 5 t = nI (T' + 1))) (fun t u => decide (M 6 t < M 6 u)) i (some w) = some w := by simp [fk_bb, c3]
            rw [e1]
            exact ⟨by simp [fk_bb, kk_sooner, c1, ew, c3, k6, Int32.lt_irrefl], hw, ew⟩
      · rcases t3 i hi with ⟨e1, e2⟩ | ⟨e1, d, e2, e3, e4, e5⟩
        · have e9 : ∀ z : Option Nat, fk_bb (fun t => decide (fk_kOf M 5 t = nI (T' + 1))) (fun t u => decide (M 6 t < M 6 u)) i z = z := by intro z; cases z <;> simp [fk_bb, c1]
          have e8 : ∀ z : Option Nat, fk_bb (fun t => decide (fk_kOf M 5 t ≠ -1)) (kk_sooner (fk_kOf M)) i z = z := by intro z; cases z <;> simp [fk_bb, e1]
          rw [e9, e8]
          exact hr
        · have d9 : T' + 1 < d := by
            have : ¬ d = T' + 1 := fun z => c1 (by rw [e3, z])
            omega
          have e9 : ∀ z : Option Nat, fk_bb (fun t => decide (fk_kOf M 5 t = nI (T' + 1))) (fun t u => decide (M 6 t < M 6 u)) i z = z := by intro z; cases z <;> simp [fk_bb, c1]
          rw [e9]
          cases x with
          | none =>
            cases y with
            | none =>
              have e8 : fk_bb (fun t => decide (fk_kOf M 5 t ≠ -1)) (kk_sooner (fk_kOf M)) i none = some i := by simp [fk_bb, e3, n1 d (by omega)]
              rw [e8]
              exact ⟨hi, d, e3, d9, e5⟩
            | some u =>
              by_cases c4 : ((fun t => decide (fk_kOf M 5 t ≠ -1)) i && kk_sooner (fk_kOf M) i u) = true
              · have e8 : fk_bb (fun t => decide (fk_kOf M 5 t ≠ -1)) (kk_sooner (fk_kOf M)) i (some u) = some i := if_pos c4
                rw [e8]
                exact ⟨hi, d, e3, d9, e5⟩
              · have e8 : fk_bb (fun t => decide (fk_kOf M 5 t ≠ -1)) (kk_sooner (fk_kOf M)) i (some u) = some u := if_neg c4
                rw [e8]
                exact hr
          | some w =>
            obtain ⟨rfl, hw, ew⟩ := hr
            have l1 : ¬ nI d < nI (T' + 1) := fun z => by have := (nI_ltI (a := d) (b := T' + 1) (by omega) (by omega)).mp z; omega
            have l2 : ¬ nI d = nI (T' + 1) := fun z => by have := (nI_eq (a := d) (b := T' + 1) (by omega) (by omega)).mp z; omega
            have e8 : fk_bb (fun t => decide (fk_kOf M 5 t ≠ -1)) (kk_sooner (fk_kOf M)) i (some w) = some w := by simp [fk_bb, kk_sooner, e3, ew, l1, l2]
            rw [e8]
            exact ⟨rfl, hw, ew⟩) 8 0 none none rfl trivial
  cases hd : mm_due (fk_up M 12 0 (nI (T' + 1))) with
  | some t =>
    have hd' : fk_lp (fk_bb (fun t => mm_q (fk_up M 12 0 (nI (T' + 1))) t && decide (fk_up M 12 0 (nI (T' + 1)) 5 t = fk_up M 12 0 (nI (T' + 1)) 12 0)) (fun t u => decide (fk_up M 12 0 (nI (T' + 1)) 6 t < fk_up M 12 0 (nI (T' + 1)) 6 u))) 8 0 none = some t := hd
    rw [hd'] at rel
    obtain ⟨r1, r2, r3⟩ := rel
    refine ⟨r1, ?_, r3⟩
    have := key t r2
    rw [decide_eq_true r3] at this
    simp only [Bool.and_eq_true] at this
    exact this.1
  | none =>
    intro u hu hq e
    have : (mm_q M u && decide (M 5 u = nI (T' + 1))) = false := fk_best_none hd u hu
    rw [hq, decide_eq_true e] at this
    cases this
/-- the queued threads are counted -/
def mm_cnt (M : fk_S) : Nat := fk_cn (mm_q M) 8
theorem mm_end_q {M : fk_S} {t : Nat} {r : Int32} : mm_q (mm_end M t r) t = false ∧ ∀ u, u ≠ t → mm_q (mm_end M t r) u = mm_q M u := by
  refine ⟨fk_nq (mm_end_1s M t r) (Or.inl rfl), fun u hu => ?_⟩
  unfold mm_q
  rw [mm_end_1 hu]
theorem mm_cnt_end {M : fk_S} {t : Nat} {r : Int32} (ht : t < 8) (hq : mm_q M t = true) : mm_cnt (mm_end M t r) + 1 = mm_cnt M :=
  fk_cn_drop hq mm_end_q.1 mm_end_q.2 8 ht
theorem fk_due_k {a b : Nat} (ha : a < 2 ^ 20) (hb : b < 2 ^ 25) {T E : Nat} (hT : T ≤ b) (hE : T + 1 ≤ E) (hE2 : E < 2 ^ 30) : ∀ (m : Nat) (M : fk_S) (r : Nat), fk_I a b M → M 12 0 = nI T → mm_cnt M ≤ m → mm_cnt M ≤ r →
    mm_dueT m (fk_up M 12 0 (nI (T + 1))) ∧ ∃ c M', mm_dueL m (fk_up M 12 0 (nI (T + 1))) = (c, fk_up M' 12 0 (nI (T + 1))) ∧ fk_I a b M' ∧ M' 12 0 = nI T ∧ mm_cnt M' + c ≤ mm_cnt M ∧ (∀ u, u < 8 → mm_q M' u = true → M' 5 u ≠ nI (T + 1)) ∧
      kk_tickL (nI E) r (fk_kOf M) = ((c + (kk_tickL (nI E) (r - c) (fk_kOf M')).1), (kk_tickL (nI E) (r - c) (fk_kOf M')).2) := by
  intro m
  induction m with
  | zero =>
    intro M r h ht hm hr
    have kd := kk_next_due h hb ht hT
    have h0 : mm_due (fk_up M 12 0 (nI (T + 1))) = none := by
      cases hd : mm_due (fk_up M 12 0 (nI (T + 1))) with
      | none => rfl
      | some t =>
        rw [hd] at kd
        have := mm_cnt_end (r := 1) (mm_due_lt hd) kd.2.1
        omega
    rw [h0] at kd
    exact ⟨h0, 0, M, rfl, h, ht, by omega, kd, by rw [Nat.zero_add]; rfl⟩
  | succ m ih =>
    intro M r h ht hm hr
    have kd := kk_next_due h hb ht hT
    cases hd : mm_due (fk_up M 12 0 (nI (T + 1))) with
    | none =>
      rw [hd] at kd
      refine ⟨by simp only [mm_dueT, hd], 0, M, by simp only [mm_dueL, hd], h, ht, by omega, kd, by rw [Nat.zero_add]; rfl⟩
    | some t =>
      rw [hd] at kd
      obtain ⟨k1, k2, k3⟩ := kd
      have ht8 := mm_due_lt hd
      have hc := mm_cnt_end (r := 1) ht8 k2
      obtain ⟨r', rfl⟩ : ∃ r', r = r' + 1 := ⟨r - 1, by omega⟩
      have ht2 : mm_end M t 1 12 0 = nI T := by
        have := congrFun (congrFun (mm_end_tm M t 1 (nI T)) 12) 0
        rw [fk_up_s, fk_up_same M ht] at this
        exact this
      obtain ⟨i1, c, M', i2, i3, i4, i5, i6, i7⟩ := ih (mm_end M t 1) r' (fk_I_end h) ht2 (by omega) (by omega)
      refine ⟨?_, c + 1, M', ?_, i3, i4, by omega, i6, ?_⟩
      · simp only [mm_dueT, hd]
        rw [mm_end_tm]
        exact i1
      · simp only [mm_dueL, hd]
        rw [mm_end_tm, i2]
      · have le : nI (T + 1) ≤ nI E := (nI_leI (by omega) (by omega)).mpr hE
        simp only [kk_tickL, k1]
        rw [k3, if_pos le, kk_end_k h ha ht8 k2, i7, show r' + 1 - (c + 1) = r' - c by omega]
        simp only
        rw [show c + (kk_tickL (nI E) (r' - c) (fk_kOf M')).1 + 1 = c + 1 + (kk_tickL (nI E) (r' - c) (fk_kOf M')).1 by omega]
theorem fk_I_tm {a b : Nat} {M : fk_S} (h : fk_I a b M) {T : Nat} (hb : b < 2 ^ 25) (hT : T ≤ b) (ht : M 12 0 = nI T) (hn : ∀ u, u < 8 → mm_q M u = true → M 5 u ≠ nI (T + 1)) : fk_I a (b + 1) (fk_up M 12 0 (nI (T + 1))) := by
  obtain ⟨h1, h2, h3, ⟨J, j1, j2, j3⟩, h5, T', t1, t2, t3⟩ := h
  have eT : T' = T := (nI_eq (by omega) (by omega)).mp (t2.symm.trans ht)
  subst eT
  have q : ∀ u, mm_q (fk_up M 12 0 (nI (T' + 1))) u = mm_q M u := fun u => rfl
  have r : ∀ f, f ≠ 12 → fk_up M 12 0 (nI (T' + 1)) f = M f := fun f hf => fk_up_f hf
  refine ⟨fk_ls_up (by decide) (by decide) h1, fun u hu hq => by rw [r 3 (by decide)]; exact h2 u hu hq, fun u hu => by rw [r 2 (by decide)]; exact h3 u hu, ⟨J, j1, by rw [fk_up_i (by decide)]; exact j2, fun u hu => by rw [r 7 (by decide)]; exact j3 u hu⟩, fun u v hu hv a1 a2 a3 => by rw [r 7 (by decide)] at a3; exact h5 u v hu hv a1 a2 a3, T' + 1, by omega, fk_up_s .., fun u hu hq => ?_⟩
  rw [r 5 (by decide)]
  rcases t3 u hu hq with e | ⟨d, e, d1, d2⟩
  · exact Or.inl e
  · have : d ≠ T' + 1 := fun z => hn u hu hq (by rw [e, z])
    exact Or.inr ⟨d, e, by omega, by omega⟩
theorem fk_tick_k {a : Nat} (ha : a < 2 ^ 20) : ∀ (n b : Nat) (M : fk_S) (r T : Nat), b + n < 2 ^ 25 → fk_I a b M → T ≤ b → M 12 0 = nI T → mm_cnt M ≤ r →
    mm_tickT n M ∧ (kk_tickL (nI (T + n)) r (fk_kOf M)).1 = (mm_tickL n M).1 ∧ fk_up (kk_tickL (nI (T + n)) r (fk_kOf M)).2 12 0 (nI (T + n)) = fk_kOf (mm_tickL n M).2 ∧ fk_I a (b + n) (mm_tickL n M).2 := by
  intro n
  induction n with
  | zero =>
    intro b M r T hb h hT ht hr
    have z : kk_tickL (nI (T + 0)) r (fk_kOf M) = (0, fk_kOf M) := by
      cases r with
      | zero => rfl
      | succ r =>
        simp only [kk_tickL]
        cases hk : kk_next (fk_kOf M) with
        | none => rfl
        | some t =>
          have hs := (fk_best_spec hk)
          obtain ⟨T', t1, t2, t3⟩ := fk_dl h
          have eT : T' = T := (nI_eq (by omega) (by omega)).mp (t2.symm.trans ht)
          subst eT
          rcases t3 t hs.1 with ⟨e1, -⟩ | ⟨-, d, -, e3, e4, e5⟩
          · exact absurd e1 (by simpa using hs.2)
          · simp only
            rw [e3, if_neg]
            intro z
            have := (nI_leI (a := d) (b := T' + 0) (by omega) (by omega)).mp z
            omega
    rw [z]
    refine ⟨trivial, rfl, ?_, h⟩
    show fk_up (fk_kOf M) 12 0 (nI (T + 0)) = fk_kOf M
    exact fk_up_same _ (by rw [fk_kf (by decide) (by decide) (by omega)]; exact ht)
  | succ n ih =>
    intro b M r T hb h hT ht hr
    have e1 : mm_tk M = fk_up M 12 0 (nI (T + 1)) := by
      unfold mm_tk
      rw [ht, nI_1]
    obtain ⟨d1, c, M', d2, d3, d4, d5, d6, d7⟩ := fk_due_k ha (by omega) (E := T + (n + 1)) hT (by omega) (by omega) 8 M r h ht (fk_cn_le _ 8) hr
    have hI := fk_I_tm d3 (by omega) hT d4 d6
    obtain ⟨i1, i2, i3, i4⟩ := ih (b + 1) (fk_up M' 12 0 (nI (T + 1))) (r - c) (T + 1) (by omega) hI (by omega) (fk_up_s ..) (show mm_cnt M' ≤ r - c by omega)
    rw [fk_k_tm, kk_tickL_tm] at i2 i3
    have e2 : T + 1 + n = T + (n + 1) := by omega
    rw [e2] at i2 i3
    simp only [mm_tickT, mm_tickL]
    rw [e1, d2, d7]
    refine ⟨⟨d1, i1⟩, ?_, ?_, ?_⟩
    · show c + (kk_tickL (nI (T + (n + 1))) (r - c) (fk_kOf M')).1 = c + (mm_tickL n (fk_up M' 12 0 (nI (T + 1)))).1
      rw [← i2]
    · show fk_up (kk_tickL (nI (T + (n + 1))) (r - c) (fk_kOf M')).2 12 0 (nI (T + (n + 1))) = fk_kOf (mm_tickL n (fk_up M' 12 0 (nI (T + 1)))).2
      rw [← i3]
      exact (fk_up_up _ 12 0 _ _).symm
    · have := i4
      rw [show b + 1 + n = b + (n + 1) by omega] at this
      exact this
theorem kk_tick_k {a b : Nat} {M : fk_S} (h : fk_I a b M) (ha : a < 2 ^ 20) {n : Nat} (hn : n ≤ 1000) (hb : b + 1000 < 2 ^ 25) : mm_tickT n M ∧ kk_tickR (fk_kOf M) (nI n) = nI (mm_tickL n M).1 ∧ kk_tick (fk_kOf M) (nI n) = fk_kOf (mm_tickL n M).2 ∧ fk_I a (b + 1000) (mm_tickL n M).2 := by
  have h9 := h
  obtain ⟨-, -, -, -, -, T, t1, t2, -⟩ := h
  obtain ⟨i1, i2, i3, i4⟩ := fk_tick_k ha n b M 8 T (by omega) h9 t1 t2 (fk_cn_le _ 8)
  have e : fk_kOf M 12 0 + nI n = nI (T + n) := by rw [fk_kf (f := 12) (i := 0) (by decide) (by decide) (by omega), t2, nI_add]
  unfold kk_tickR kk_tick
  rw [e]
  exact ⟨i1, congrArg nI i2, i3, i4.wk (Nat.le_refl _) (by omega)⟩
theorem kk_nextR_k {a b : Nat} {M : fk_S} (h : fk_I a b M) (hb : b < 2 ^ 25) : kk_nextR (fk_kOf M) = mm_nextR M := by
  obtain ⟨T, t1, t2, t3⟩ := fk_dl h
  have sub : ∀ d, T < d → d ≤ T + 10000 → nI d - nI T = nI (d - T) := fun d _ _ => pk_sub (by omega)
  have rel := fk_lp_rel (f := fk_bb (fun t => decide (fk_kOf M 5 t ≠ -1)) (kk_sooner (fk_kOf M))) (g := mm_nt1 M)
    (fun _ x y => match x with
      | none => y = -1
      | some u => u < 8 ∧ ∃ d, fk_kOf M 5 u = nI d ∧ T < d ∧ d ≤ T + 10000 ∧ y = nI (d - T)) 8 (by
      intro i x y hi hr
      rcases t3 i hi with ⟨e1, e2⟩ | ⟨e1, d, e2, e3, e4, e5⟩
      · have e8 : fk_bb (fun t => decide (fk_kOf M 5 t ≠ -1)) (kk_sooner (fk_kOf M)) i x = x := by cases x <;> simp [fk_bb, e1]
        have e9 : mm_nt1 M i y = y := by
          unfold mm_nt1
          by_cases hq : mm_q M i = true
          · rw [if_pos hq, e2 hq, if_neg (by decide)]
          · rw [if_neg hq]
        rw [e8, e9]
        exact hr
      · have n1 : ∀ d, d < 2 ^ 31 → ¬ nI d = (-1 : Int32) := fun d hd => fk_nI_m1 hd
        have p0 : (0 : Int32) < nI d := nI_lt (a := 0) (by omega) (by omega)
        have e9 : mm_nt1 M i y = if y = -1 then nI (d - T) else if nI (d - T) < y then nI (d - T) else y := by
          unfold mm_nt1
          rw [if_pos e1, e2, if_pos p0, t2, sub d e4 e5, if_neg (n1 _ (by omega))]
        rw [e9]
        cases x with
        | none =>
          have e8 : fk_bb (fun t => decide (fk_kOf M 5 t ≠ -1)) (kk_sooner (fk_kOf M)) i none = some i := by simp [fk_bb, e3, n1 d (by omega)]
          rw [e8, if_pos hr]
          exact ⟨hi, d, e3, e4, e5, rfl⟩
        | some w =>
          obtain ⟨hw, d', f1, f2, f3, rfl⟩ := hr
          rw [if_neg (n1 _ (by omega))]
          by_cases c : (decide (fk_kOf M 5 i ≠ -1) && kk_sooner (fk_kOf M) i w) = true
          · have e8 : fk_bb (fun t => decide (fk_kOf M 5 t ≠ -1)) (kk_sooner (fk_kOf M)) i (some w) = some i := if_pos c
            rw [e8]
            have c' : d ≤ d' := by
              simp only [kk_sooner, e3, f1, Bool.and_eq_true, Bool.or_eq_true, decide_eq_true_eq] at c
              rcases c.2 with z | z
              · exact Nat.le_of_lt ((nI_ltI (by omega) (by omega)).mp z)
              · exact Nat.le_of_eq ((nI_eq (by omega) (by omega)).mp z.1)
            refine ⟨hi, d, e3, e4, e5, ?_⟩
            by_cases c2 : d = d'
            · subst c2
              split <;> rfl
            · rw [if_pos ((nI_ltI (by omega) (by omega)).mpr (by omega))]
          · have e8 : fk_bb (fun t => decide (fk_kOf M 5 t ≠ -1)) (kk_sooner (fk_kOf M)) i (some w) = some w := if_neg c
            rw [e8]
            have c' : d' ≤ d := by
              rcases Nat.lt_or_ge d d' with z | z
              · exfalso
                apply c
                have z' : nI d < nI d' := (nI_ltI (by omega) (by omega)).mpr z
                simp [kk_sooner, e3, f1, z', n1 d (by omega)]
              · exact z
            refine ⟨hw, d', f1, f2, f3, ?_⟩
            rw [if_neg]
            intro z
            have := (nI_ltI (a := d - T) (b := d' - T) (by omega) (by omega)).mp z
            omega) 8 0 none (-1) rfl rfl
  unfold kk_nextR mm_nextR
  have hk : kk_next (fk_kOf M) = fk_lp (fk_bb (fun t => decide (fk_kOf M 5 t ≠ -1)) (kk_sooner (fk_kOf M))) 8 0 none := rfl
  rw [hk]
  cases hx : fk_lp (fk_bb (fun t => decide (fk_kOf M 5 t ≠ -1)) (kk_sooner (fk_kOf M))) 8 0 none with
  | none =>
    rw [hx] at rel
    exact rel.symm
  | some u =>
    rw [hx] at rel
    obtain ⟨hu, d, f1, f2, f3, f4⟩ := rel
    rw [f4]
    show fk_kOf M 5 u - fk_kOf M 12 0 = _
    rw [f1, fk_kf (f := 12) (i := 0) (by decide) (by decide) (by omega), t2, sub d f2 f3]
