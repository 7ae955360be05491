/-! places in the queues -/
theorem fk_cntK (p : Nat → Bool) : fk_lp (kk_cnt1 p) 8 0 0 = nI (fk_cn p 8) :=
  fk_lp_rel (f := kk_cnt1 p) (g := fun _ (y : Unit) => y) (fun i x _ => x = nI (fk_cn p i)) 8 (by
    intro i x y hi hr
    subst hr
    show (if p i then nI (fk_cn p i) + 1 else nI (fk_cn p i)) = nI (fk_cn p i + (if p i = true then 1 else 0))
    by_cases c : p i = true
    · rw [if_pos c, if_pos c, nI_1]
    · rw [if_neg c, if_neg c]
      rfl) 8 0 0 () rfl rfl
theorem fk_cntM (p : Nat → Bool) : fk_lp (mm_cnt1 p) 8 0 0 = nI (fk_cn p 8) :=
  fk_lp_rel (f := mm_cnt1 p) (g := fun _ (y : Unit) => y) (fun i x _ => x = nI (fk_cn p i)) 8 (by
    intro i x y hi hr
    subst hr
    show nI (fk_cn p i) + (if p i = true then (1 : Int32) else 0) = nI (fk_cn p i + (if p i = true then 1 else 0))
    by_cases c : p i = true
    · rw [if_pos c, if_pos c, nI_1]
    · rw [if_neg c, if_neg c]
      exact nI_add (a := fk_cn p i) (b := 0)) 8 0 0 () rfl rfl
/-- the i-th thread of a set -/
theorem fk_enum (A : Nat → Bool) : ∀ N, ∃ e : Nat → Nat, (∀ i, i < fk_cn A N → e i < N ∧ A (e i) = true) ∧ ∀ i j, i < j → j < fk_cn A N → e i ≠ e j := by
  intro N
  induction N with
  | zero => exact ⟨id, fun i hi => absurd hi (Nat.not_lt_zero _), fun i j _ hj => absurd hj (Nat.not_lt_zero _)⟩
  | succ N ih =>
    obtain ⟨e, h1, h2⟩ := ih
    have hs : fk_cn A (N + 1) = fk_cn A N + (if A N = true then 1 else 0) := rfl
    by_cases c : A N = true
    · rw [if_pos c] at hs
      refine ⟨fun i => if i < fk_cn A N then e i else N, fun i hi => ?_, fun i j hij hj => ?_⟩
      · show (if i < fk_cn A N then e i else N) < N + 1 ∧ A (if i < fk_cn A N then e i else N) = true
        by_cases c2 : i < fk_cn A N
        · rw [if_pos c2]
          exact ⟨Nat.lt_succ_of_lt (h1 i c2).1, (h1 i c2).2⟩
        · rw [if_neg c2]
          exact ⟨Nat.lt_succ_self _, c⟩
      · show (if i < fk_cn A N then e i else N) ≠ (if j < fk_cn A N then e j else N)
        rw [if_pos (by omega)]
        by_cases c2 : j < fk_cn A N
        · rw [if_pos c2]; exact h2 i j hij c2
        · rw [if_neg c2]
          have := (h1 i (by omega)).1
          omega
    · rw [if_neg c] at hs
      exact ⟨e, fun i hi => ⟨Nat.lt_succ_of_lt (h1 i (by omega)).1, (h1 i (by omega)).2⟩, fun i j hij hj => h2 i j hij (by omega)⟩
def fk_rk (A : Nat → Bool) (κ : Nat → Nat) (t : Nat) : Nat := fk_cn (fun u => A u && decide (κ u < κ t)) 8
theorem fk_cn_lt {p q : Nat → Bool} {n t : Nat} (h : ∀ u, u < n → p u = true → q u = true) (ht : t < n) (h1 : q t = true) (h2 : ¬ p t = true) : fk_cn p n < fk_cn q n := by
  obtain ⟨a1, a2⟩ := fk_cn_mono n h
  rcases Nat.lt_or_ge (fk_cn p n) (fk_cn q n) with c | c
  · exact c
  · exact absurd (a2 c t ht h1) h2
theorem fk_rk_lt {A : Nat → Bool} {κ : Nat → Nat} {t : Nat} (ht : t < 8) (hA : A t = true) : fk_rk A κ t < fk_cn A 8 :=
  fk_cn_lt (fun u _ h => by simp only [Bool.and_eq_true] at h; exact h.1) ht hA (by simp)
theorem fk_rk_mono {A : Nat → Bool} {κ : Nat → Nat} {t u : Nat} (ht : t < 8) (hA : A t = true) (h : κ t < κ u) : fk_rk A κ t < fk_rk A κ u :=
  fk_cn_lt (t := t) (fun w _ h9 => by
    simp only [Bool.and_eq_true, decide_eq_true_eq] at h9 ⊢
    exact ⟨h9.1, by omega⟩) ht (by simp [hA, h]) (by simp)
theorem fk_rk_inj {A : Nat → Bool} {κ : Nat → Nat} (hk : ∀ u v, u < 8 → v < 8 → A u = true → A v = true → κ u = κ v → u = v) {u v : Nat} (hu : u < 8) (hv : v < 8) (h1 : A u = true) (h2 : A v = true) (h : fk_rk A κ u = fk_rk A κ v) : u = v := by
  rcases Nat.lt_trichotomy (κ u) (κ v) with c | c | c
  · have := fk_rk_mono hu h1 c; omega
  · exact hk u v hu hv h1 h2 c
  · have := fk_rk_mono hv h2 c; omega
theorem fk_rk_hit {A : Nat → Bool} {κ : Nat → Nat} (hk : ∀ u v, u < 8 → v < 8 → A u = true → A v = true → κ u = κ v → u = v) {q : Nat} (hq : q < fk_cn A 8) : ∃ t, t < 8 ∧ A t = true ∧ fk_rk A κ t = q := by
  obtain ⟨e, e1, e2⟩ := fk_enum A 8
  by_cases hx : ∃ t, t < 8 ∧ A t = true ∧ fk_rk A κ t = q
  · exact hx
  · exfalso
    have hne : ∀ i, i < fk_cn A 8 → fk_rk A κ (e i) ≠ q := fun i hi z => hx ⟨e i, (e1 i hi).1, (e1 i hi).2, z⟩
    have := fk_holes (fk_cn A 8 - 1) (fk_cn A 8) (fun i => if fk_rk A κ (e i) < q then fk_rk A κ (e i) else fk_rk A κ (e i) - 1) (by
      intro i hi
      show (if fk_rk A κ (e i) < q then fk_rk A κ (e i) else fk_rk A κ (e i) - 1) < fk_cn A 8 - 1
      have h1 := fk_rk_lt (κ := κ) (e1 i hi).1 (e1 i hi).2
      have h2 := hne i hi
      split <;> omega) (by
      intro i j hij hj
      show (if fk_rk A κ (e i) < q then fk_rk A κ (e i) else fk_rk A κ (e i) - 1) ≠ (if fk_rk A κ (e j) < q then fk_rk A κ (e j) else fk_rk A κ (e j) - 1)
      have h1 : fk_rk A κ (e i) ≠ fk_rk A κ (e j) := fun z => e2 i j hij hj (fk_rk_inj hk (e1 i (by omega)).1 (e1 j hj).1 (e1 i (by omega)).2 (e1 j hj).2 z)
      have h2 := hne i (by omega)
      have h3 := hne j hj
      split <;> split <;> omega)
    omega
theorem fk_seek_none {p : Nat → Bool} : ∀ (n i : Nat), fk_seek p n i = none → ∀ j, i ≤ j → j < i + n → p j = false := by
  intro n
  induction n with
  | zero => intro i _ j h1 h2; omega
  | succ n ih =>
    intro i h j h1 h2
    simp only [fk_seek] at h
    by_cases c : p i = true
    · rw [if_pos c] at h; cases h
    · rw [if_neg c] at h
      by_cases e : j = i
      · subst e; exact eq_false_of_ne_true c
      · exact ih (i + 1) h j (by omega) (by omega)
/-- the first is the last, where there is one at most -/
theorem fk_seek_last {p q : Nat → Bool} (he : ∀ t, t < 8 → p t = q t) (hu : ∀ u v, u < 8 → v < 8 → p u = true → p v = true → u = v) : fk_seek p 8 0 = fk_lp (fun t (y : Option Nat) => if q t = true then some t else y) 8 0 none := by
  have rel := fk_lp_rel (f := fun t (y : Option Nat) => if q t = true then some t else y) (g := fun _ (y : Unit) => y) (fun i y _ => (∀ t, y = some t → t < 8 ∧ p t = true) ∧ (y = none → ∀ j, j < i → p j = false)) 8 (by
    intro i x y hi hr
    by_cases c : q i = true
    · refine ⟨fun t ht => ?_, fun h => ?_⟩
      · rw [if_pos c] at ht
        cases ht
        exact ⟨hi, by rw [he i hi]; exact c⟩
      · rw [if_pos c] at h
        cases h
    · refine ⟨fun t ht => ?_, fun h j hj => ?_⟩
      · rw [if_neg c] at ht
        exact hr.1 t ht
      · rw [if_neg c] at h
        by_cases e : j = i
        · subst e; rw [he j hi]; exact eq_false_of_ne_true c
        · exact hr.2 h j (by omega)) 8 0 none () rfl ⟨fun t h => (by cases h), fun _ j hj => absurd hj (Nat.not_lt_zero _)⟩
  cases h1 : fk_seek p 8 0 with
  | none =>
    cases h2 : fk_lp (fun t (y : Option Nat) => if q t = true then some t else y) 8 0 none with
    | none => rfl
    | some t =>
      obtain ⟨t1, t2⟩ := rel.1 t h2
      rw [fk_seek_none 8 0 h1 t (by omega) (by omega)] at t2
      cases t2
  | some u =>
    obtain ⟨-, u1, u2⟩ := fk_seek_spec 8 0 h1
    cases h2 : fk_lp (fun t (y : Option Nat) => if q t = true then some t else y) 8 0 none with
    | none =>
      rw [rel.2 h2 u (by omega)] at u2
      cases u2
    | some t =>
      obtain ⟨t1, t2⟩ := rel.1 t h2
      rw [hu u t (by omega) t1 u2 t2]
/-- the order of the queues in numbers -/
def fk_ky (M : fk_S) (u : Nat) : Nat := (9 - (M 2 u).toNatClampNeg) * 1000000000 + (M 7 u).toNatClampNeg
theorem fk_ky_lt {a b : Nat} {M : fk_S} (h : fk_I a b M) (ha : a < 2 ^ 20) {t u : Nat} (ht : t < 8) (hu : u < 8) : mm_lt M t u = decide (fk_ky M t < fk_ky M u) := by
  obtain ⟨-, -, h3, ⟨J, j1, j2, j3⟩, -, -⟩ := h
  obtain ⟨p, hp, ep⟩ := h3 t ht
  obtain ⟨q, hq, eq⟩ := h3 u hu
  obtain ⟨i, hi, ei⟩ := j3 t ht
  obtain ⟨j, hj, ej⟩ := j3 u hu
  unfold mm_lt fk_ky
  rw [mm_key_N hp ep (by omega) ei, mm_key_N hq eq (by omega) ej, ep, eq, ei, ej, nI_clamp (by omega), nI_clamp (by omega), nI_clamp (by omega), nI_clamp (by omega)]
  exact decide_eq_decide.mpr (pk_lLT (by omega) (by omega))
theorem fk_ky_inj {a b : Nat} {M : fk_S} (h : fk_I a b M) (ha : a < 2 ^ 20) {t u : Nat} (ht : t < 8) (hu : u < 8) (h1 : mm_q M t = true) (h2 : mm_q M u = true) (e : fk_ky M t = fk_ky M u) : t = u := by
  obtain ⟨-, -, h3, ⟨J, j1, j2, j3⟩, h5, -⟩ := h
  obtain ⟨p, hp, ep⟩ := h3 t ht
  obtain ⟨q, hq, eq⟩ := h3 u hu
  obtain ⟨i, hi, ei⟩ := j3 t ht
  obtain ⟨j, hj, ej⟩ := j3 u hu
  unfold fk_ky at e
  rw [ep, eq, ei, ej, nI_clamp (by omega), nI_clamp (by omega), nI_clamp (by omega), nI_clamp (by omega)] at e
  have : i = j := by omega
  exact h5 t u ht hu h1 h2 (by rw [ei, ej, this])
/-- in the queue of an address -/
def fk_qa (M : fk_S) (a : Int32) (u : Nat) : Bool := mm_q M u && decide (M 3 u = a)
theorem fk_qa_k (M : fk_S) {a : Nat} (ha : a < 16) (u : Nat) : decide (fk_kOf M 3 u = nI a) = fk_qa M (nI a) u := by
  unfold fk_qa
  by_cases hq : mm_q M u = true
  · rw [fk_k3 hq, hq, Bool.true_and]
  · rw [fk_k3n hq, eq_false_of_ne_true hq, decide_eq_false (fun z => fk_nI_m1 (u := a) (by omega) z.symm)]
    rfl
theorem mm_cntA_N (M : fk_S) (a : Int32) : mm_cntA M a = nI (fk_cn (fk_qa M a) 8) := fk_cntM _
theorem kk_waiters_k (M : fk_S) {a : Nat} (ha : a < 16) : kk_waiters (fk_kOf M) (nI a) = mm_cntA M (nI a) := by
  rw [mm_cntA_N]
  unfold kk_waiters
  rw [fk_cntK]
  exact congrArg nI (fk_cn_congr 8 (fun u _ => fk_qa_k M ha u))
theorem kk_cntA_k {a b : Nat} {M : fk_S} (h : fk_I a b M) (ha : a < 2 ^ 20) {x : Nat} (hx : x < 16) {t : Nat} (ht : t < 8) (hA : fk_qa M (nI x) t = true) : kk_cntA (fk_kOf M) t = nI (fk_rk (fk_qa M (nI x)) (fk_ky M) t) := by
  have e3 : fk_kOf M 3 t = nI x := by rw [← fk_qa_k M hx] at hA; simpa using hA
  unfold kk_cntA
  rw [fk_cntK]
  refine congrArg nI (fk_cn_congr 8 (fun u hu => ?_))
  show (decide (fk_kOf M 3 u = fk_kOf M 3 t) && kk_ahead (fk_kOf M) u t) = (fk_qa M (nI x) u && decide (fk_ky M u < fk_ky M t))
  rw [e3, fk_qa_k M hx, kk_ahead_k h ha hu ht, fk_ky_lt h ha hu ht]
theorem mm_in_a (M : fk_S) {x : Nat} (hx : x < 16) (u : Nat) : mm_in M u (fk_bkt (nI x)) (nI x) = fk_qa M (nI x) u := by
  unfold mm_in fk_qa
  rw [decide_eq_false (fk_nI_m1 (u := x) (by omega)), Bool.false_or]
  by_cases c : M 3 u = nI x
  · rw [c]; simp
  · simp [c]
theorem mm_rank_N {a b : Nat} {M : fk_S} (h : fk_I a b M) (ha : a < 2 ^ 20) {A : Nat → Bool} {y z : Int32} (hA : ∀ u, mm_in M u y z = A u) {t : Nat} (ht : t < 8) : mm_rank M y z t = nI (fk_rk A (fk_ky M) t) := by
  unfold mm_rank
  rw [fk_cntM]
  refine congrArg nI (fk_cn_congr 8 (fun u hu => ?_))
  show (mm_in M u y z && mm_lt M u t) = (A u && decide (fk_ky M u < fk_ky M t))
  rw [hA, fk_ky_lt h ha hu ht]
theorem fk_one {M : fk_S} {a b : Nat} (h : fk_I a b M) (ha : a < 2 ^ 20) {A : Nat → Bool} (hA : ∀ u, A u = true → mm_q M u = true) {q : Int32} : ∀ u v, u < 8 → v < 8 → (A u && decide (nI (fk_rk A (fk_ky M) u) = q)) = true → (A v && decide (nI (fk_rk A (fk_ky M) v) = q)) = true → u = v := by
  intro u v hu hv h1 h2
  simp only [Bool.and_eq_true, decide_eq_true_eq] at h1 h2
  have b1 := fk_cn_le (fun w => A w && decide (fk_ky M w < fk_ky M u)) 8
  have b2 := fk_cn_le (fun w => A w && decide (fk_ky M w < fk_ky M v)) 8
  have e : fk_rk A (fk_ky M) u = fk_rk A (fk_ky M) v := (nI_eq (Nat.lt_of_le_of_lt b1 (by decide)) (Nat.lt_of_le_of_lt b2 (by decide))).mp (h1.2.trans h2.2.symm)
  exact fk_rk_inj (fun u v hu hv a1 a2 e => fk_ky_inj h ha hu hv (hA u a1) (hA v a2) e) hu hv h1.1 h2.1 e
theorem kk_wAt_k {a b : Nat} {M : fk_S} (h : fk_I a b M) (ha : a < 2 ^ 20) {x : Nat} (hx : x < 16) (q : Int32) : kk_wAt (fk_kOf M) (nI x) q = mm_th M (fk_bkt (nI x)) (nI x) q ∧ ((0 ≤ q ∧ q < mm_cntA M (nI x)) ↔ ∃ u, kk_wAt (fk_kOf M) (nI x) q = some u) := by
  have hp : ∀ t, t < 8 → (decide (fk_kOf M 3 t = nI x) && decide (kk_cntA (fk_kOf M) t = q)) = (fk_qa M (nI x) t && decide (nI (fk_rk (fk_qa M (nI x)) (fk_ky M) t) = q)) := by
    intro t ht
    rw [fk_qa_k M hx]
    by_cases c : fk_qa M (nI x) t = true
    · rw [kk_cntA_k h ha hx ht c]
    · rw [eq_false_of_ne_true c]; rfl
  have hqa : ∀ u, fk_qa M (nI x) u = true → mm_q M u = true := fun u z => by unfold fk_qa at z; simp only [Bool.and_eq_true] at z; exact z.1
  have one := fk_one h ha hqa (q := q)
  have e1 : kk_wAt (fk_kOf M) (nI x) q = mm_th M (fk_bkt (nI x)) (nI x) q := by
    refine fk_seek_last (q := fun t => mm_in M t (fk_bkt (nI x)) (nI x) && decide (mm_rank M (fk_bkt (nI x)) (nI x) t = q)) (fun t ht => ?_) (fun u v hu hv h1 h2 => ?_)
    · show (decide (fk_kOf M 3 t = nI x) && decide (kk_cntA (fk_kOf M) t = q)) = _
      rw [hp t ht, mm_in_a M hx, mm_rank_N h ha (mm_in_a M hx) ht]
    · have h1' : (decide (fk_kOf M 3 u = nI x) && decide (kk_cntA (fk_kOf M) u = q)) = true := h1
      have h2' : (decide (fk_kOf M 3 v = nI x) && decide (kk_cntA (fk_kOf M) v = q)) = true := h2
      rw [hp u hu] at h1'
      rw [hp v hv] at h2'
      exact one u v hu hv h1' h2'
  refine ⟨e1, ?_⟩
  rw [mm_cntA_N]
  have bA := fk_cn_le (fk_qa M (nI x)) 8
  constructor
  · intro ⟨q0, q1⟩
    obtain ⟨j, hj, rfl⟩ := nI_of (x := q) (Int32.not_lt.mpr q0)
    have hjl := (nI_ltI hj (by omega)).mp q1
    obtain ⟨t, t1, t2, t3⟩ := fk_rk_hit (A := fk_qa M (nI x)) (κ := fk_ky M) (fun u v hu hv a1 a2 e => fk_ky_inj h ha hu hv (hqa u a1) (hqa v a2) e) hjl
    cases hs : kk_wAt (fk_kOf M) (nI x) (nI j) with
    | some u => exact ⟨u, rfl⟩
    | none =>
      have := fk_seek_none 8 0 hs t (by omega) (by omega)
      have h9 := hp t t1
      rw [t2, t3] at h9
      have this' : (decide (fk_kOf M 3 t = nI x) && decide (kk_cntA (fk_kOf M) t = nI j)) = false := this
      rw [this'] at h9
      simp at h9
  · intro ⟨u, hu⟩
    obtain ⟨-, u1, u2⟩ := fk_seek_spec 8 0 hu
    have u2' : (decide (fk_kOf M 3 u = nI x) && decide (kk_cntA (fk_kOf M) u = q)) = true := u2
    rw [hp u (by omega)] at u2'
    simp only [Bool.and_eq_true, decide_eq_true_eq] at u2'
    have := fk_rk_lt (κ := fk_ky M) (show u < 8 by omega) u2'.1
    rw [← u2'.2]
    exact ⟨nI_pos' (by omega), (nI_ltI (by omega) (by omega)).mpr this⟩
/-- in a bucket -/
def fk_qb (M : fk_S) (y : Int32) (u : Nat) : Bool := mm_q M u && decide (fk_bkt (M 3 u) = y)
theorem kk_qAt_k {a b : Nat} {M : fk_S} (h : fk_I a b M) (ha : a < 2 ^ 20) (y q : Int32) : kk_qAt (fk_kOf M) y q = mm_th M y (-1) q := by
  have hin : ∀ u, mm_in M u y (-1) = fk_qb M y u := fun u => by unfold mm_in fk_qb; simp
  have hq' : ∀ u, fk_qb M y u = true → mm_q M u = true := fun u z => by unfold fk_qb at z; simp only [Bool.and_eq_true] at z; exact z.1
  have hb : ∀ u, u < 8 → ∀ z, (kk_q (fk_kOf M) u && decide (fk_bkt (fk_kOf M 3 u) = z)) = fk_qb M z u := by
    intro u hu z
    unfold fk_qb
    rw [kk_q_k h hu]
    by_cases c : mm_q M u = true
    · rw [fk_k3 c]
    · rw [eq_false_of_ne_true c]; rfl
  have hp : ∀ t, t < 8 → (kk_q (fk_kOf M) t && decide (fk_bkt (fk_kOf M 3 t) = y) && decide (kk_cntB (fk_kOf M) t = q)) = (fk_qb M y t && decide (nI (fk_rk (fk_qb M y) (fk_ky M) t) = q)) := by
    intro t ht
    rw [hb t ht y]
    by_cases c : fk_qb M y t = true
    · have e : kk_cntB (fk_kOf M) t = nI (fk_rk (fk_qb M y) (fk_ky M) t) := by
        have e3 : fk_bkt (fk_kOf M 3 t) = y := by
          rw [fk_k3 (hq' t c)]
          unfold fk_qb at c
          simp only [Bool.and_eq_true, decide_eq_true_eq] at c
          exact c.2
        unfold kk_cntB
        rw [fk_cntK]
        refine congrArg nI (fk_cn_congr 8 (fun u hu => ?_))
        show (kk_q (fk_kOf M) u && decide (fk_bkt (fk_kOf M 3 u) = fk_bkt (fk_kOf M 3 t)) && kk_ahead (fk_kOf M) u t) = (fk_qb M y u && decide (fk_ky M u < fk_ky M t))
        rw [e3, hb u hu, kk_ahead_k h ha hu ht, fk_ky_lt h ha hu ht]
      rw [e]
    · rw [eq_false_of_ne_true c]; rfl
  refine fk_seek_last (q := fun t => mm_in M t y (-1) && decide (mm_rank M y (-1) t = q)) (fun t ht => ?_) (fun u v hu hv h1 h2 => ?_)
  · show (kk_q (fk_kOf M) t && decide (fk_bkt (fk_kOf M 3 t) = y) && decide (kk_cntB (fk_kOf M) t = q)) = _
    rw [hp t ht, hin, mm_rank_N h ha hin ht]
  · have h1' : (kk_q (fk_kOf M) u && decide (fk_bkt (fk_kOf M 3 u) = y) && decide (kk_cntB (fk_kOf M) u = q)) = true := h1
    have h2' : (kk_q (fk_kOf M) v && decide (fk_bkt (fk_kOf M 3 v) = y) && decide (kk_cntB (fk_kOf M) v = q)) = true := h2
    rw [hp u hu] at h1'
    rw [hp v hv] at h2'
    exact fk_one h ha hq' u v hu hv h1' h2'
