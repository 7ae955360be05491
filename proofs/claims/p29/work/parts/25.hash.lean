/-! what the law reads off a kernel -/
def pl_lk (S : fk_S) (t : Nat) : Nat → Nat → Int64 → Int64
  | 0, _, h => h
  | n + 1, k, h => pl_lk S t n (k + 1) (h * 17 + (kk_addrAt S t (nI k)).toInt64)
def pl_t1 (S : fk_S) (but : Int32) (t : Nat) (h : Int64) : Int64 :=
  if nI t = but then h else pl_lk S t (S 10 t).toNatClampNeg 0 ((((h * 5 + (S 1 t).toInt64) * 17 + (S 3 t).toInt64) * 7 + (S 8 t).toInt64) * 1009 + (S 9 t).toInt64)
def pl_q1 (but : Int32) (b : Nat) (h : Int64) (t : Nat) : Int64 := if nI t = but then h else h * 11 + 3 * (nI b).toInt64 + (nI t).toInt64
def pl_qs (S : fk_S) (but : Int32) (b : Nat) (h : Int64) : Int64 := (kq_B S b).foldl (pl_q1 but b) h
def pl_thr (S : fk_S) (but : Int32) : Int64 := fk_lp (pl_qs S but) 4 0 (fk_lp (pl_t1 S but) 8 0 (S 12 0).toInt64)
def pl_w1 (S : fk_S) (but : Int32) (a : Nat) (h : Int64) : Int64 := if nI a = but then h else h * 1000003 + (S 0 a).toInt64
def pl_wds (S : fk_S) (but : Int32) : Int64 := fk_lp (pl_w1 S but) 16 0 1
def pl_ls1 (S : fk_S) (t : Nat) (x : Int32) : Int32 := if x < S 9 t then S 9 t else x
def pl_last (S : fk_S) : Int32 := fk_lp (pl_ls1 S) 8 0 0
/-- all but the thread t are as they were -/
def kq_Off (S S' : fk_S) (t : Int32) : Prop := S' 12 0 = S 12 0 ∧ ∀ u, u < 8 → nI u ≠ t → (∀ f, f = 1 ∨ f = 2 ∨ f = 3 ∨ f = 7 ∨ f = 8 ∨ f = 9 ∨ f = 10 → S' f u = S f u) ∧ ∀ j, j < 16 → S' 11 (16 * u + j) = S 11 (16 * u + j)
theorem kq_Off.rf (S : fk_S) (t : Int32) : kq_Off S S t := ⟨rfl, fun _ _ _ => ⟨fun _ _ => rfl, fun _ _ => rfl⟩⟩
theorem kq_Off.tr {S S1 S2 : fk_S} {t : Int32} (h : kq_Off S S1 t) (h2 : kq_Off S1 S2 t) : kq_Off S S2 t :=
  ⟨h2.1.trans h.1, fun u hu hn => ⟨fun f hf => ((h2.2 u hu hn).1 f hf).trans ((h.2 u hu hn).1 f hf), fun j hj => ((h2.2 u hu hn).2 j hj).trans ((h.2 u hu hn).2 j hj)⟩⟩
/-- fields that these don't speak of -/
theorem kq_Off.of {S S' : fk_S} {t : Int32} (hf : ∀ f, f = 1 ∨ f = 2 ∨ f = 3 ∨ f = 7 ∨ f = 8 ∨ f = 9 ∨ f = 10 ∨ f = 11 → S' f = S f) (h12 : S' 12 0 = S 12 0) : kq_Off S S' t :=
  ⟨h12, fun u _ _ => ⟨fun f h => congrFun (hf f (by omega)) u, fun j _ => congrFun (hf 11 (by omega)) _⟩⟩
section
variable {n : Nat} {S S' : fk_S} {P P' : Nat → Int32} {u t a : Nat}
theorem pl_lk_eq (hs : ∃ k, k ≤ 16 ∧ S 10 t = nI k) (h10 : S' 10 t = S 10 t) (h11 : ∀ j, j < 16 → S' 11 (16 * t + j) = S 11 (16 * t + j)) : ∀ (n k : Nat) (h : Int64), k + n < 2 ^ 30 → pl_lk S' t n k h = pl_lk S t n k h := by
  obtain ⟨m, hm, em⟩ := hs
  intro n
  induction n with
  | zero => intro k h _; rfl
  | succ n ih =>
    intro k h hk
    simp only [pl_lk]
    have e : kk_addrAt S' t (nI k) = kk_addrAt S t (nI k) := by
      unfold kk_addrAt
      rw [h10, nI_clamp (by omega)]
      by_cases c : 0 ≤ nI k ∧ nI k < S 10 t
      · rw [if_pos c, if_pos c]
        rw [em] at c
        have := (nI_ltI (by omega) (by omega)).mp c.2
        exact h11 k (by omega)
      · rw [if_neg c, if_neg c]
    rw [e]
    exact ih _ _ (by omega)
theorem pl_fold_skip {but : Int32} {b : Nat} : ∀ (L : List Nat) (h : Int64), L.foldl (pl_q1 but b) h = (L.filter (fun t => !decide (nI t = but))).foldl (pl_q1 but b) h := by
  intro L
  induction L with
  | nil => intro h; rfl
  | cons t L ih =>
    intro h
    by_cases e : nI t = but
    · rw [List.filter_cons_of_neg (by simp [e]), List.foldl_cons, ih]
      simp only [pl_q1]
      rw [if_pos e]
    · rw [List.filter_cons_of_pos (by simp [e]), List.foldl_cons, List.foldl_cons, ih]
theorem pl_thr_eq (hz : fk_sz S) (hJ : kq_J S) (hJ' : kq_J S') {but : Int32} (h : kq_Off S S' but) : pl_thr S' but = pl_thr S but := by
  have h1 : fk_lp (pl_t1 S' but) 8 0 (S' 12 0).toInt64 = fk_lp (pl_t1 S but) 8 0 (S 12 0).toInt64 := by
    rw [h.1]
    refine fk_lp_congr (fun _ => True) 8 (fun _ _ _ _ => trivial) (fun t x ht _ => ?_) 8 0 _ rfl trivial
    unfold pl_t1
    by_cases e : nI t = but
    · rw [if_pos e, if_pos e]
    · rw [if_neg e, if_neg e]
      obtain ⟨a1, a2⟩ := h.2 t ht e
      rw [a1 1 (by omega), a1 3 (by omega), a1 8 (by omega), a1 9 (by omega), a1 10 (by omega)]
      obtain ⟨k, hk, ek⟩ := hz t ht
      refine pl_lk_eq ⟨k, hk, ek⟩ (a1 10 (by omega)) a2 _ _ _ ?_
      rw [ek, nI_clamp (by omega)]
      omega
  unfold pl_thr
  rw [h1]
  refine fk_lp_congr (fun _ => True) 4 (fun _ _ _ _ => trivial) (fun b x hb _ => ?_) 4 0 _ rfl trivial
  unfold pl_qs
  rw [pl_fold_skip, pl_fold_skip (L := kq_B S b)]
  unfold kq_B
  rw [kq_filter (hJ'.B _), kq_filter (hJ.B _)]
  refine congrArg (fun L => List.foldl (pl_q1 but b) x L) (kq_congr ((hJ.B (nI b)).and (fun t _ h9 => ?_)) (fun t ht => ?_) (fun t ht h9 => ?_))
  · simp only [Bool.and_eq_true] at h9
    exact h9.1
  · by_cases e : nI t = but
    · simp [e]
    · obtain ⟨a1, a2⟩ := h.2 t ht e
      unfold kq_PB kk_q
      rw [a1 3 (by omega)]
  · simp only [Bool.and_eq_true, Bool.not_eq_true', decide_eq_false_iff_not] at h9
    obtain ⟨a1, a2⟩ := h.2 t ht h9.2
    exact ⟨a1 2 (by omega), a1 7 (by omega)⟩
theorem kq_I.thr (h : kq_I n S P) {n' : Nat} (h' : kq_I n' S' P') {but : Int32} (hO : kq_Off S S' but) : pl_thr S' but = pl_thr S but := pl_thr_eq h.sz h.J h'.J hO
theorem pl_wds_eq {but : Int32} (h : ∀ a, a < 16 → nI a ≠ but → S' 0 a = S 0 a) : pl_wds S' but = pl_wds S but := by
  unfold pl_wds
  refine fk_lp_congr (fun _ => True) 16 (fun _ _ _ _ => trivial) (fun a x ha _ => ?_) 16 0 _ rfl trivial
  unfold pl_w1
  by_cases e : nI a = but
  · rw [if_pos e, if_pos e]
  · rw [if_neg e, if_neg e, h a ha e]
/-- the last serial number that shows -/
theorem kq_I.last (h : kq_I n S P) (hn : n < 2 ^ 20) : ∃ L E, L ≤ E ∧ E ≤ n ∧ S 12 1 = nI E ∧ pl_last S = nI L ∧ ∀ u, u < 8 → ∃ j, j ≤ L ∧ S 9 u = nI j := by
  obtain ⟨-, -, -, -, -, ⟨E, e1, e2, e3⟩, -⟩ := h
  have key : ∀ (n i : Nat) (x : Nat), i + n = 8 → x ≤ E → ∃ L, L ≤ E ∧ x ≤ L ∧ fk_lp (pl_ls1 S) n i (nI x) = nI L ∧ ∀ u, i ≤ u → u < i + n → ∃ j, j ≤ L ∧ S 9 u = nI j := by
    intro n
    induction n with
    | zero => intro i x _ hx; exact ⟨x, hx, Nat.le_refl _, rfl, fun u h1 h2 => absurd h2 (by omega)⟩
    | succ n ih =>
      intro i x hi hx
      obtain ⟨j, hj, ej⟩ := e3 i (by omega)
      have st : pl_ls1 S i (nI x) = nI (max x j) := by
        unfold pl_ls1
        rw [ej]
        by_cases c : x < j
        · rw [if_pos ((nI_ltI (by omega) (by omega)).mpr c), Nat.max_eq_right (by omega)]
        · rw [if_neg (fun z => c ((nI_ltI (by omega) (by omega)).mp z)), Nat.max_eq_left (by omega)]
      obtain ⟨L, l1, l2, l3, l4⟩ := ih (i + 1) (max x j) (by omega) (by omega)
      refine ⟨L, l1, by omega, ?_, fun u h1 h2 => ?_⟩
      · show fk_lp (pl_ls1 S) n (i + 1) (pl_ls1 S i (nI x)) = nI L
        rw [st]
        exact l3
      · by_cases c : u = i
        · rw [c]
          exact ⟨j, by omega, ej⟩
        · exact l4 u (by omega) (by omega)
  obtain ⟨L, l1, -, l3, l4⟩ := key 8 0 0 rfl (Nat.zero_le _)
  exact ⟨L, E, l1, e1, e2, l3, fun u hu => l4 u (by omega) (by omega)⟩
/-! what 'joined' asks -/
def kq_Jd (S : fk_S) (t a : Nat) : Prop := t < 8 ∧ a < 16 ∧ S 3 t = nI a ∧ ∀ u, u < 8 → u ≠ t → kk_q S u = true → S 7 u < S 7 t
def pl_bkt (a : Nat) : Nat := (a + a / 4) % 4
theorem pl_bkt_lt (a : Nat) : pl_bkt a < 4 := Nat.mod_lt _ (by decide)
theorem fk_bkt_N {a : Nat} (ha : a < 2 ^ 20) : fk_bkt (nI a) = nI (pl_bkt a) := by
  unfold fk_bkt pl_bkt
  rw [show (4 : Int32) = nI 4 from rfl, pk_div (by omega) (by decide) (by decide), nI_add, pk_rem (by omega) (by decide) (by decide)]
theorem kq_Jd.at (h : kq_Jd S t a) : t ∈ kq_B S (pl_bkt a) := by
  obtain ⟨ht, ha, h3, -⟩ := h
  refine kq_mem.mpr ⟨ht, ?_⟩
  unfold kq_PB kk_q
  rw [h3, fk_bkt_N (by omega), decide_eq_true (fk_nI_m1 (by omega))]
  simp
/-- behind it: lower priorities alone -/
theorem kq_Jd.behind (h : kq_Jd S t a) (hJ : kq_J S) {i k v : Nat} (hi : (kq_B S (pl_bkt a))[i]? = some t) (hk : (kq_B S (pl_bkt a))[k]? = some v) (hik : i < k) : v < 8 ∧ S 2 v < S 2 t := by
  have hp := kq_pw (hJ.B (nI (pl_bkt a)))
  have hv := kq_mem.mp (List.mem_of_getElem? hk)
  obtain ⟨i1, e1⟩ := List.getElem?_eq_some_iff.mp hi
  obtain ⟨k1, e2⟩ := List.getElem?_eq_some_iff.mp hk
  have ah := List.pairwise_iff_getElem.mp hp i k i1 k1 hik
  have ah2 : kk_ahead S t v = true := by
    have : kk_ahead S ((kq_B S (pl_bkt a))[i]) ((kq_B S (pl_bkt a))[k]) = true := ah
    rw [e1, e2] at this
    exact this
  refine ⟨hv.1, ?_⟩
  have hne : v ≠ t := fun e => by
    rw [e, kq_ir] at ah2
    cases ah2
  have hq : kk_q S v = true := by
    have := hv.2
    unfold kq_PB at this
    simp only [Bool.and_eq_true] at this
    exact this.1
  have h7 := h.2.2.2 v hv.1 hne hq
  rw [kq_ah] at ah2
  rw [Int32.lt_iff_toInt_lt] at h7 ⊢
  omega
end
