/-! queues as lists: the tasks with a property, in the order of kk_ahead -/
theorem kq_ah {S : fk_S} {t u : Nat} : kk_ahead S t u = true ↔ ((S 2 u).toInt < (S 2 t).toInt ∨ ((S 2 t).toInt = (S 2 u).toInt ∧ (S 7 t).toInt < (S 7 u).toInt)) := by
  unfold kk_ahead
  simp only [Bool.or_eq_true, Bool.and_eq_true, decide_eq_true_eq, Int32.lt_iff_toInt_lt, ← Int32.toInt_inj]
theorem kq_ir (S : fk_S) (t : Nat) : kk_ahead S t t = false := by
  rw [← Bool.not_eq_true, kq_ah]
  omega
theorem kq_as {S : fk_S} {t u : Nat} (h : kk_ahead S t u = true) : kk_ahead S u t = false := by
  rw [← Bool.not_eq_true, kq_ah]
  rw [kq_ah] at h
  omega
theorem kq_tr {S : fk_S} {t u v : Nat} (h : kk_ahead S t u = true) (h2 : kk_ahead S u v = true) : kk_ahead S t v = true := by
  rw [kq_ah] at h h2 ⊢
  omega
def kq_le (S : fk_S) (t u : Nat) : Bool := !(kk_ahead S u t)
theorem kq_le_i {S : fk_S} {t u : Nat} : kq_le S t u = true ↔ ¬ kk_ahead S u t = true := by
  unfold kq_le
  simp
def kq_L (S : fk_S) (P : Nat → Bool) : List Nat := ((List.range 8).filter P).mergeSort (kq_le S)
theorem kq_mem {S : fk_S} {P : Nat → Bool} {t : Nat} : t ∈ kq_L S P ↔ t < 8 ∧ P t = true := by
  unfold kq_L
  rw [List.mem_mergeSort, List.mem_filter, List.mem_range]
theorem kq_nd (S : fk_S) (P : Nat → Bool) : (kq_L S P).Nodup := by
  unfold kq_L
  exact (List.mergeSort_perm _ _).symm.nodup (List.nodup_range.filter _)
theorem kq_len (S : fk_S) (P : Nat → Bool) : (kq_L S P).length = ((List.range 8).filter P).length := by
  unfold kq_L
  rw [List.length_mergeSort]
theorem kq_len8 (S : fk_S) (P : Nat → Bool) : (kq_L S P).length ≤ 8 := by
  rw [kq_len]
  exact Nat.le_trans (List.length_filter_le _ _) (by simp)
theorem kq_pwle (S : fk_S) (P : Nat → Bool) : (kq_L S P).Pairwise (fun a b => kq_le S a b = true) := by
  unfold kq_L
  refine List.pairwise_mergeSort (le := kq_le S) (fun a b c h1 h2 => ?_) (fun a b => ?_) _
  · rw [kq_le_i, kq_ah] at h1 h2 ⊢
    omega
  · cases h : kq_le S a b with
    | true => rfl
    | false =>
      have h1 : ¬ kq_le S a b = true := by rw [h]; decide
      have h2 : kq_le S b a = true := by
        rw [kq_le_i, kq_ah]
        rw [kq_le_i, kq_ah] at h1
        omega
      rw [h2]
      rfl
/-- tasks with the property joined at different times -/
def kq_inj (S : fk_S) (P : Nat → Bool) : Prop := ∀ u v, u < 8 → v < 8 → P u = true → P v = true → S 7 u = S 7 v → u = v
theorem kq_inj.and {S : fk_S} {P Q : Nat → Bool} (h : kq_inj S P) (hQ : ∀ t, t < 8 → Q t = true → P t = true) : kq_inj S Q := fun u v hu hv h1 h2 e => h u v hu hv (hQ u hu h1) (hQ v hv h2) e
theorem kq_tot {S : fk_S} {P : Nat → Bool} (h : kq_inj S P) {u v : Nat} (hu : u < 8) (hv : v < 8) (h1 : P u = true) (h2 : P v = true) (hn : u ≠ v) : kk_ahead S u v = true ∨ kk_ahead S v u = true := by
  have h3 : ¬ S 7 u = S 7 v := fun e => hn (h u v hu hv h1 h2 e)
  rw [← Int32.toInt_inj] at h3
  rw [kq_ah, kq_ah]
  omega
theorem kq_pw {S : fk_S} {P : Nat → Bool} (h : kq_inj S P) : (kq_L S P).Pairwise (fun a b => kk_ahead S a b = true) := by
  have h1 := kq_pwle S P
  have h2 : (kq_L S P).Pairwise (fun a b => a ≠ b) := kq_nd S P
  refine List.Pairwise.imp_of_mem (R := fun a b => kq_le S a b = true ∧ a ≠ b) ?_ (h1.and h2)
  intro a b ha hb hab
  rw [kq_mem] at ha hb
  rcases kq_tot h ha.1 hb.1 ha.2 hb.2 hab.2 with h9 | h9
  · exact h9
  · exact absurd h9 (kq_le_i.mp hab.1)
theorem kq_uniq {S : fk_S} {P : Nat → Bool} (h : kq_inj S P) {L : List Nat} (hL : L.Pairwise (fun a b => kk_ahead S a b = true)) (hm : ∀ t, t ∈ L ↔ t < 8 ∧ P t = true) : L = kq_L S P := by
  have hn : L.Nodup := hL.imp (fun {a b} h9 e => by
    rw [e, kq_ir] at h9
    cases h9)
  refine List.Perm.eq_of_pairwise (le := fun a b => kk_ahead S a b = true) (fun a b _ _ h1 h2 => ?_) hL (kq_pw h) ((List.perm_ext_iff_of_nodup hn (kq_nd S P)).mpr (fun t => by rw [hm, kq_mem]))
  rw [kq_as h1] at h2
  cases h2
theorem kq_filter {S : fk_S} {P Q : Nat → Bool} (h : kq_inj S P) : (kq_L S P).filter Q = kq_L S (fun t => P t && Q t) := by
  refine kq_uniq (h.and (fun t _ h9 => ?_)) ((kq_pw h).filter _) (fun t => ?_)
  · simp only [Bool.and_eq_true] at h9
    exact h9.1
  · rw [List.mem_filter, kq_mem, Bool.and_eq_true, and_assoc]
theorem kq_congr {S S' : fk_S} {P P' : Nat → Bool} (h : kq_inj S P) (hP : ∀ t, t < 8 → P' t = P t) (hS : ∀ t, t < 8 → P t = true → S' 2 t = S 2 t ∧ S' 7 t = S 7 t) : kq_L S' P' = kq_L S P := by
  have h' : kq_inj S' P' := fun u v hu hv h1 h2 e => by
    rw [hP u hu] at h1
    rw [hP v hv] at h2
    rw [(hS u hu h1).2, (hS v hv h2).2] at e
    exact h u v hu hv h1 h2 e
  refine (kq_uniq h' (List.Pairwise.imp_of_mem ?_ (kq_pw h)) (fun t => ?_)).symm
  · intro a b ha hb hab
    rw [kq_mem] at ha hb
    rw [kq_ah] at hab ⊢
    rw [(hS a ha.1 ha.2).1, (hS a ha.1 ha.2).2, (hS b hb.1 hb.2).1, (hS b hb.1 hb.2).2]
    exact hab
  · rw [kq_mem]
    exact ⟨fun h9 => ⟨h9.1, by rw [hP t h9.1]; exact h9.2⟩, fun h9 => ⟨h9.1, by rw [← hP t h9.1]; exact h9.2⟩⟩
/-! counting -/
theorem kq_cntG (p : Nat → Bool) : ∀ (n i x : Nat), x + n < 2 ^ 31 → fk_lp (kk_cnt1 p) n i (nI x) = nI (x + ((List.range' i n).filter p).length) := by
  intro n
  induction n with
  | zero => intro i x _; rfl
  | succ n ih =>
    intro i x hx
    show fk_lp (kk_cnt1 p) n (i + 1) (kk_cnt1 p i (nI x)) = _
    rw [List.range'_succ]
    by_cases h : p i = true
    · have e : kk_cnt1 p i (nI x) = nI (x + 1) := by
        unfold kk_cnt1
        rw [if_pos h, nI_1]
      rw [e, ih (i + 1) (x + 1) (by omega), List.filter_cons_of_pos h, List.length_cons]
      exact congrArg nI (by omega)
    · have e : kk_cnt1 p i (nI x) = nI x := by
        unfold kk_cnt1
        rw [if_neg h]
      rw [e, ih (i + 1) x (by omega), List.filter_cons_of_neg h]
theorem kq_cnt (p : Nat → Bool) : fk_lp (kk_cnt1 p) 8 0 0 = nI (((List.range 8).filter p).length) := by
  have := kq_cntG p 8 0 0 (by omega)
  rw [Nat.zero_add] at this
  rw [List.range_eq_range']
  exact this
theorem kq_idxL {R : Nat → Nat → Bool} (ir : ∀ a, R a a = false) (as : ∀ a b, R a b = true → R b a = false) : ∀ (L : List Nat) (k t : Nat), L.Pairwise (fun a b => R a b = true) → L[k]? = some t → (L.filter (fun u => R u t)).length = k := by
  intro L
  induction L with
  | nil => intro k t _ h; simp at h
  | cons a L ih =>
    intro k t hp h
    rw [List.pairwise_cons] at hp
    cases k with
    | zero =>
      simp at h
      subst h
      rw [List.filter_cons_of_neg (by rw [ir]; decide), List.length_eq_zero_iff, List.filter_eq_nil_iff]
      intro b hb
      rw [as a b (hp.1 b hb)]
      decide
    | succ k =>
      simp at h
      rw [List.filter_cons_of_pos (p := fun u => R u t) (hp.1 t (List.mem_of_getElem? h)), List.length_cons, ih k t hp.2 h]
theorem kq_idx {S : fk_S} {P : Nat → Bool} (hi : kq_inj S P) {k t : Nat} (h : (kq_L S P)[k]? = some t) : ((List.range 8).filter (fun u => P u && kk_ahead S u t)).length = k := by
  rw [← kq_idxL (R := kk_ahead S) (kq_ir S) (fun a b h9 => kq_as h9) (kq_L S P) k t (kq_pw hi) h]
  refine List.Perm.length_eq ((List.perm_ext_iff_of_nodup (List.nodup_range.filter _) ((kq_nd S P).filter _)).mpr (fun u => ?_))
  rw [List.mem_filter, List.mem_filter, kq_mem, List.mem_range, Bool.and_eq_true, and_assoc]
theorem fk_seek_none {p : Nat → Bool} : ∀ (n i : Nat), fk_seek p n i = none → ∀ v, i ≤ v → v < i + n → p v = false := by
  intro n
  induction n with
  | zero => intro i _ v h1 h2; omega
  | succ n ih =>
    intro i h v h1 h2
    simp only [fk_seek] at h
    by_cases e : p i = true
    · rw [if_pos e] at h
      cases h
    · rw [if_neg e] at h
      by_cases hv : v = i
      · rw [hv]
        simpa using e
      · exact ih (i + 1) h v (by omega) (by omega)
theorem kq_at {S : fk_S} {P : Nat → Bool} (hi : kq_inj S P) {c : Nat → Int32} (hc : ∀ t, t < 8 → P t = true → c t = nI (((List.range 8).filter (fun u => P u && kk_ahead S u t)).length)) {k : Nat} (hk : k < 2 ^ 31) : fk_seek (fun u => P u && decide (c u = nI k)) 8 0 = (kq_L S P)[k]? := by
  have key : ∀ v, v < 8 → (P v && decide (c v = nI k)) = true → (kq_L S P)[k]? = some v := by
    intro v hv h
    simp only [Bool.and_eq_true, decide_eq_true_eq] at h
    obtain ⟨j, hj⟩ := List.getElem?_of_mem (kq_mem.mpr ⟨hv, h.1⟩)
    have h2 := h.2
    rw [hc v hv h.1, kq_idx hi hj] at h2
    have hjl := (List.getElem?_eq_some_iff.mp hj).1
    have h8 := kq_len8 S P
    have := (nI_eq (by omega) hk).mp h2
    rw [← this]
    exact hj
  cases hs : fk_seek (fun u => P u && decide (c u = nI k)) 8 0 with
  | some u =>
    obtain ⟨-, h1, h2⟩ := fk_seek_spec 8 0 hs
    exact (key u (by omega) h2).symm
  | none =>
    cases hL : (kq_L S P)[k]? with
    | none => rfl
    | some t =>
      have hm := kq_mem.mp (List.mem_of_getElem? hL)
      have h9 := fk_seek_none 8 0 hs t (by omega) (by omega)
      rw [hm.2, hc t hm.1 hm.2, kq_idx hi hL] at h9
      simp at h9
/-! the queue of a bucket, the waiters of an address -/
def kq_PB (S : fk_S) (b : Int32) (t : Nat) : Bool := kk_q S t && decide (fk_bkt (S 3 t) = b)
def kq_PA (S : fk_S) (a : Int32) (t : Nat) : Bool := decide (S 3 t = a)
def kq_B (S : fk_S) (b : Nat) : List Nat := kq_L S (kq_PB S (nI b))
def kq_A (S : fk_S) (a : Nat) : List Nat := kq_L S (kq_PA S (nI a))
def kq_J (S : fk_S) : Prop := kq_inj S (kk_q S)
theorem kq_J.B {S : fk_S} (h : kq_J S) (b : Int32) : kq_inj S (kq_PB S b) := h.and (fun t _ h9 => by
  unfold kq_PB at h9
  simp only [Bool.and_eq_true] at h9
  exact h9.1)
theorem kq_PA_q {S : fk_S} {a t : Nat} (ha : a < 2 ^ 31) (h : kq_PA S (nI a) t = true) : kk_q S t = true := by
  unfold kq_PA at h
  unfold kk_q
  rw [decide_eq_true_eq] at h ⊢
  rw [h]
  exact fk_nI_m1 ha
theorem kq_J.A {S : fk_S} (h : kq_J S) {a : Nat} (ha : a < 2 ^ 31) : kq_inj S (kq_PA S (nI a)) := h.and (fun t _ h9 => kq_PA_q ha h9)
theorem kq_qAt {S : fk_S} (h : kq_J S) (b : Nat) {k : Nat} (hk : k < 2 ^ 31) : kk_qAt S (nI b) (nI k) = (kq_B S b)[k]? := by
  refine (show kk_qAt S (nI b) (nI k) = fk_seek (fun u => kq_PB S (nI b) u && decide (kk_cntB S u = nI k)) 8 0 from rfl).trans (kq_at (h.B _) (fun t ht hp => ?_) hk)
  unfold kk_cntB
  rw [kq_cnt]
  have e : fk_bkt (S 3 t) = nI b := by
    unfold kq_PB at hp
    simp only [Bool.and_eq_true, decide_eq_true_eq] at hp
    exact hp.2
  rw [e]
  rfl
theorem kq_wAt {S : fk_S} (h : kq_J S) {a : Nat} (ha : a < 2 ^ 31) {k : Nat} (hk : k < 2 ^ 31) : kk_wAt S (nI a) (nI k) = (kq_A S a)[k]? := by
  refine (show kk_wAt S (nI a) (nI k) = fk_seek (fun u => kq_PA S (nI a) u && decide (kk_cntA S u = nI k)) 8 0 from rfl).trans (kq_at (h.A ha) (fun t ht hp => ?_) hk)
  unfold kk_cntA
  rw [kq_cnt]
  have e : S 3 t = nI a := by
    unfold kq_PA at hp
    simpa using hp
  rw [e]
  rfl
theorem kq_waiters (S : fk_S) (a : Nat) : kk_waiters S (nI a) = nI (kq_A S a).length := by
  unfold kk_waiters kq_A
  rw [kq_cnt, kq_len]
  rfl
/-! the first of some -/
theorem kq_bestI {P : Nat → Bool} {S : fk_S} : ∀ (n i : Nat) (x : Option Nat), ((x = none → ∀ v, v < i → P v = false) ∧ ∀ u, x = some u → u < i ∧ P u = true ∧ ∀ v, v < i → P v = true → kk_ahead S v u = false) →
    ((fk_lp (fk_bb P (kk_ahead S)) n i x = none → ∀ v, v < i + n → P v = false) ∧ ∀ u, fk_lp (fk_bb P (kk_ahead S)) n i x = some u → u < i + n ∧ P u = true ∧ ∀ v, v < i + n → P v = true → kk_ahead S v u = false) := by
  intro n
  induction n with
  | zero => intro i x h; exact h
  | succ n ih =>
    intro i x h
    show ((fk_lp (fk_bb P (kk_ahead S)) n (i + 1) (fk_bb P (kk_ahead S) i x) = none → _) ∧ ∀ u, fk_lp (fk_bb P (kk_ahead S)) n (i + 1) (fk_bb P (kk_ahead S) i x) = some u → _)
    rw [show i + (n + 1) = i + 1 + n by omega]
    refine ih (i + 1) _ ?_
    have lt : ∀ v, v < i + 1 → v = i ∨ v < i := fun v h9 => by omega
    cases x with
    | none =>
      have h1 := h.1 rfl
      simp only [fk_bb]
      by_cases hp : P i = true
      · rw [if_pos hp]
        refine ⟨fun h9 => (by cases h9), fun u hu => ?_⟩
        cases hu
        refine ⟨by omega, hp, fun v hv hv2 => ?_⟩
        rcases lt v hv with rfl | h3
        · exact kq_ir S _
        · rw [h1 v h3] at hv2
          cases hv2
      · rw [if_neg hp]
        refine ⟨fun _ v hv => ?_, fun u hu => by cases hu⟩
        rcases lt v hv with rfl | h3
        · simpa using hp
        · exact h1 v h3
    | some w =>
      obtain ⟨h1, h2, h3⟩ := h.2 w rfl
      simp only [fk_bb]
      by_cases hp : (P i && kk_ahead S i w) = true
      · rw [if_pos hp]
        simp only [Bool.and_eq_true] at hp
        refine ⟨fun h9 => (by cases h9), fun u hu => ?_⟩
        cases hu
        refine ⟨by omega, hp.1, fun v hv hv2 => ?_⟩
        rcases lt v hv with rfl | h4
        · exact kq_ir S _
        · have h5 := h3 v h4 hv2
          have h6 := hp.2
          rw [← Bool.not_eq_true, kq_ah] at h5
          rw [kq_ah] at h6
          rw [← Bool.not_eq_true, kq_ah]
          omega
      · rw [if_neg hp]
        refine ⟨fun h9 => (by cases h9), fun u hu => ?_⟩
        cases hu
        refine ⟨by omega, h2, fun v hv hv2 => ?_⟩
        rcases lt v hv with rfl | h4
        · rw [hv2, Bool.true_and] at hp
          simpa using hp
        · exact h3 v h4 hv2
theorem kq_best {S : fk_S} {P : Nat → Bool} (hi : kq_inj S P) : fk_best P (kk_ahead S) = (kq_L S P).head? := by
  obtain ⟨h1, h2⟩ := kq_bestI (P := P) (S := S) 8 0 none ⟨fun _ v hv => absurd hv (by omega), fun u hu => by cases hu⟩
  unfold fk_best
  cases hx : fk_lp (fk_bb P (kk_ahead S)) 8 0 none with
  | none =>
    have h9 := h1 hx
    have : kq_L S P = [] := by
      rw [List.eq_nil_iff_forall_not_mem]
      intro t ht
      rw [kq_mem] at ht
      rw [h9 t (by omega)] at ht
      cases ht.2
    rw [this]
    rfl
  | some u =>
    obtain ⟨a1, a2, a3⟩ := h2 u hx
    have hm : u ∈ kq_L S P := kq_mem.mpr ⟨by omega, a2⟩
    have hp := kq_pw hi
    cases hL : kq_L S P with
    | nil => rw [hL] at hm; cases hm
    | cons w L =>
      rw [hL] at hm hp
      rw [List.pairwise_cons] at hp
      rcases List.mem_cons.mp hm with rfl | h9
      · rfl
      · have h4 := hp.1 u h9
        have hw : w ∈ kq_L S P := by rw [hL]; exact List.mem_cons_self
        rw [kq_mem] at hw
        rw [a3 w (by omega) hw.2] at h4
        cases h4
/-- the first at an address that fits is the first of its waiters that fits -/
theorem kq_first {S : fk_S} (h : kq_J S) {a : Nat} (ha : a < 2 ^ 31) (st mk : Int32) : kk_first S (nI a) st mk = ((kq_A S a).filter (fun t => decide (S 1 t = st) && decide (S 4 t &&& mk ≠ 0))).head? := by
  unfold kk_first kq_A
  rw [kq_filter (h.A ha)]
  have e : kk_fits S (nI a) st mk = fun t => kq_PA S (nI a) t && (decide (S 1 t = st) && decide (S 4 t &&& mk ≠ 0)) := by
    funext t
    unfold kk_fits kq_PA
    rw [Bool.and_assoc]
  rw [e]
  exact kq_best ((h.A ha).and (fun t _ h9 => by
    simp only [Bool.and_eq_true] at h9
    exact h9.1))
/-- those at an address are those of its bucket's queue with this address -/
theorem kq_AB {S : fk_S} (h : kq_J S) {a b : Nat} (ha : a < 2 ^ 31) (hb : fk_bkt (nI a) = nI b) : kq_A S a = (kq_B S b).filter (fun t => decide (S 3 t = nI a)) := by
  unfold kq_A kq_B
  rw [kq_filter (h.B _)]
  refine congrArg (kq_L S) (funext fun t => ?_)
  unfold kq_PB kq_PA
  by_cases e : S 3 t = nI a
  · have hq : kk_q S t = true := kq_PA_q ha (decide_eq_true e)
    rw [hq, e, hb]
    simp
  · simp [e]
