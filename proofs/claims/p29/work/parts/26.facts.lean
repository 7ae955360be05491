/-! the calls, by what the law asks of them -/
def kq_D (S : fk_S) : Prop := ∀ u, u < 8 → S 1 u = 3 → S 10 u = 0
def kq_G (n : Nat) (S : fk_S) (P : Nat → Int32) : Prop := kq_I n S P ∧ kq_D S
section
variable {n : Nat} {S S' : fk_S} {P P' : Nat → Int32} {u t a : Nat}
theorem kq_G.wk (h : kq_G n S P) {m : Nat} (hm : n ≤ m) : kq_G m S P := ⟨h.1.wk hm, h.2⟩
theorem kq_D.of (h : kq_D S) (h1 : ∀ u, u < 8 → S' 1 u = 3 → S 1 u = 3) (h10 : ∀ u, u < 8 → S' 1 u = 3 → S' 10 u = S 10 u) : kq_D S' := fun u hu e => by
  rw [h10 u hu e]
  exact h u hu (h1 u hu e)
theorem kq_I.pr (h : kq_I n S P) : ∀ u, u < 8 → P u = S 2 u := fun u hu => (h.T hu).2.1
/-! a word is written -/
theorem kq_G.word (h : kq_G n S P) (a : Nat) (v : Int32) : kq_G n (fk_up S 0 a v) P := ⟨h.1.word a v, h.2.of (fun u _ e => by rw [fk_up_f (by decide)] at e; exact e) (fun u _ _ => by rw [fk_up_f (by decide)])⟩
theorem kq_Off_word (S : fk_S) (a : Nat) (v x : Int32) : kq_Off S (fk_up S 0 a v) x := kq_Off.of (fun f h => fk_up_f (by omega)) (by rw [fk_up_f (by decide)])
theorem pl_thr_word (h : kq_I n S P) (a : Nat) (v x : Int32) : pl_thr (fk_up S 0 a v) x = pl_thr S x := h.thr (h.word a v) (kq_Off_word S a v x)
theorem pl_wds_word (S : fk_S) (a : Nat) (v : Int32) : pl_wds (fk_up S 0 a v) (nI a) = pl_wds S (nI a) := pl_wds_eq (fun b _ hn => fk_up_i (fun e => hn (by rw [e])))
/-! a wait begins -/
theorem kk_begin_o {st x mk to : Int32} {f : Nat} (hu : u ≠ t) (hf : ¬ f = 12) : kk_begin S t st x mk to f u = S f u := by
  unfold kk_begin kk_join
  rw [fk_up_o hu, fk_up_f hf, fk_up_o hu, fk_up_o hu, fk_up_f hf, fk_up_o hu, fk_up_o hu, fk_up_o hu]
theorem kk_begin_g {st x mk to : Int32} {f : Nat} (h1 : ¬ f = 1) (h3 : ¬ f = 3) (h4 : ¬ f = 4) (h5 : ¬ f = 5) (h6 : ¬ f = 6) (h7 : ¬ f = 7) (h12 : ¬ f = 12) : kk_begin S t st x mk to f = S f := by
  funext i
  simp [kk_begin, kk_join, fk_up, h1, h3, h4, h5, h6, h7, h12]
theorem kk_begin_1 {st x mk to : Int32} : kk_begin S t st x mk to 1 t = st := by simp [kk_begin, kk_join, fk_up]
theorem kk_begin_3 {st x mk to : Int32} : kk_begin S t st x mk to 3 t = x := by simp [kk_begin, kk_join, fk_up]
theorem kk_begin_5 {st x mk to : Int32} : kk_begin S t st x mk to 5 t = if to = 0 then -1 else S 12 0 + to := by simp [kk_begin, kk_join, fk_up]
theorem kk_begin_7 {st x mk to : Int32} : kk_begin S t st x mk to 7 t = S 12 3 + 1 := by simp [kk_begin, kk_join, fk_up]
theorem kk_begin_120 {st x mk to : Int32} : kk_begin S t st x mk to 12 0 = S 12 0 := by simp [kk_begin, kk_join, fk_up]
theorem kk_begin_Off (st x mk to : Int32) (h8 : t < 8) : kq_Off S (kk_begin S t st x mk to) (nI t) :=
  ⟨kk_begin_120, fun u _ hn => ⟨fun f hf => kk_begin_o (fun e => hn (by rw [e])) (by omega), fun j _ => congrFun (kk_begin_g (by decide) (by decide) (by decide) (by decide) (by decide) (by decide) (by decide)) _⟩⟩
/-- who joined last is behind all -/
theorem kq_I.last7 (h : kq_I n S P) (hn : n < 2 ^ 20) (hu : u < 8) : S 7 u < S 12 3 + 1 := by
  obtain ⟨-, -, -, -, ⟨J, j1, j2, j3⟩, -⟩ := h
  obtain ⟨j, hj, ej⟩ := j3 u hu
  rw [ej, j2, nI_1]
  exact nI_lt (by omega) (by omega)
theorem kk_begin_Jd (h : kq_I n S P) (hn : n < 2 ^ 20) (ht : t < 8) (ha : a < 16) (st mk to : Int32) : kq_Jd (kk_begin S t st (nI a) mk to) t a :=
  ⟨ht, ha, kk_begin_3, fun u hu hne _ => by
    rw [kk_begin_7, kk_begin_o hne (by decide)]
    exact h.last7 hn hu⟩
theorem kq_G.begin (h : kq_G n S P) (ht : t < 8) (hn : n < 2 ^ 17) (hr : S 1 t = 0) (ha : a < 16) {st mk to : Int32} (hst : (st = 1 ∧ fk_btw mk 1 255 = true) ∨ (st = 2 ∧ mk = 255)) (hto : fk_btw to 0 10000 = true) : kq_G (n + 1) (kk_begin S t st (nI a) mk to) (upd P (8 + t) mk) := by
  refine ⟨h.1.begin ht (by omega) hr ha ?_ hto (fun u hu => pk_un hu), h.2.of (fun u hu e => ?_) (fun u hu e => ?_)⟩
  · rcases hst with c | c
    · exact Or.inl ⟨c.1, pk_us, c.2⟩
    · exact Or.inr c
  · by_cases z : u = t
    · rw [z, kk_begin_1] at e
      rcases hst with c | c <;> rw [c.1] at e <;> exact absurd e (by decide)
    · rw [kk_begin_o z (by decide)] at e
      exact e
  · exact congrFun (kk_begin_g (by decide) (by decide) (by decide) (by decide) (by decide) (by decide) (by decide)) u
theorem kk_begin_next (h : kq_I n S P) (hn : n < 2 ^ 17) (ht : t < 8) (hr : S 1 t = 0) (st x mk : Int32) {to : Int32} (hto : fk_btw to 0 10000 = true) : kk_nextR (kk_begin S t st x mk to) = if 0 < to ∧ (kk_nextR S = -1 ∨ to < kk_nextR S) then to else kk_nextR S :=
  h.next_more hn ht ((h.T ht).nq (Or.inl hr)).2 hto (fun u _ hne => kk_begin_o hne (by decide)) kk_begin_5 kk_begin_120
/-! a wait ends -/
theorem kk_end_o {r : Int32} {f : Nat} (hu : u ≠ t) (h0 : ¬ f = 0) (hf : ¬ f = 12) : kk_end S t r f u = S f u := by
  rw [kq_e_f S t r h0]
  unfold kq_e kk_fin kk_off
  rw [fk_up_o hu, fk_up_f hf, fk_up_o hu, fk_up_o hu, fk_up_o hu, fk_up_o hu]
theorem kk_end_g {r : Int32} {f : Nat} (h0 : ¬ f = 0) (h1 : ¬ f = 1) (h3 : ¬ f = 3) (h5 : ¬ f = 5) (h8 : ¬ f = 8) (h9 : ¬ f = 9) (h12 : ¬ f = 12) : kk_end S t r f = S f := by
  rw [kq_e_f S t r h0]
  funext i
  simp [kq_e, kk_fin, kk_off, fk_up, h1, h3, h5, h8, h9, h12]
theorem kk_end_1 (r : Int32) : kk_end S t r 1 t = 0 := by
  rw [kq_e_f S t r (by decide)]
  simp [kq_e, kk_fin, kk_off, fk_up]
theorem kk_end_3 (r : Int32) : kk_end S t r 3 t = -1 := by
  rw [kq_e_f S t r (by decide)]
  simp [kq_e, kk_fin, kk_off, fk_up]
theorem kk_end_8 (r : Int32) : kk_end S t r 8 t = r := by rw [kq_end_8, pk_us]
theorem kk_end_9 (r : Int32) : kk_end S t r 9 t = S 12 1 + 1 := by rw [kq_end_9, pk_us]
theorem kk_end_Off (r : Int32) : kq_Off S (kk_end S t r) (nI t) :=
  ⟨kq_end_12 r (by decide), fun u _ hn => ⟨fun f hf => kk_end_o (fun e => hn (by rw [e])) (by omega) (by omega), fun j _ => congrFun (kk_end_g (by decide) (by decide) (by decide) (by decide) (by decide) (by decide) (by decide)) _⟩⟩
theorem kq_G.end (h : kq_G n S P) (ht : t < 8) (hn : n < 2 ^ 20) {r : Int32} (hr : r ≠ -1) (hq : S 1 t = 1 ∨ S 1 t = 2) : kq_G (n + 1) (kk_end S t r) P := by
  refine ⟨h.1.end ht hn hr hq, h.2.of (fun u hu e => ?_) (fun u hu e => ?_)⟩
  · by_cases z : u = t
    · rw [z, kk_end_1] at e
      exact absurd e (by decide)
    · rw [kk_end_o z (by decide) (by decide)] at e
      exact e
  · exact congrFun (kk_end_g (by decide) (by decide) (by decide) (by decide) (by decide) (by decide) (by decide)) u
/-- the new serial number is above all that show -/
theorem kq_I.ser (h : kq_I n S P) (hn : n < 2 ^ 20) : pl_last S < S 12 1 + 1 := by
  obtain ⟨L, E, h1, h2, h3, h4, -⟩ := h.last hn
  rw [h4, h3, nI_1]
  exact nI_lt (by omega) (by omega)
/-- a word without its highest bit is not below 0 -/
theorem fk_and31 (w : Int32) : 0 ≤ w &&& 2147483647 := by
  obtain ⟨j, hj, e⟩ := pk_andE w (m := 2147483647) 31 (by decide)
  rw [e]
  exact nI_pos' (by omega)
theorem kk_end_word (h : kq_I n S P) (ht : t < 8) (r : Int32) (hq : S 1 t = 1 ∨ S 1 t = 2) (ha : a < 16) (e3 : S 3 t = nI a) : S 1 t = 1 ∨ 0 ≤ kk_end S t r 0 a ∨ 0 < kk_waiters (kk_end S t r) (nI a) := by
  rcases hq with hq | hq
  · exact Or.inl hq
  · have e0 : kk_end S t r 0 a = kk_leave S t 0 a := by
      unfold kk_end kk_fin
      rw [fk_up_f (by decide), fk_up_f (by decide), fk_up_f (by decide)]
    cases hl : kk_lk (kk_off S t) (nI a) with
    | none =>
      refine Or.inr (Or.inl ?_)
      rw [e0]
      unfold kk_leave
      rw [e3, if_pos ⟨hq, fk_isA_nI ha, hl⟩, nI_clamp (by omega), fk_up_s]
      exact fk_and31 _
    | some v =>
      refine Or.inr (Or.inr ?_)
      obtain ⟨v1, v2, v3⟩ := kk_first_st hl
      have e1 : kk_end S t r 3 = kk_off S t 3 := by
        rw [kq_e_f S t r (by decide)]
        unfold kq_e kk_fin
        rw [fk_up_f (by decide), fk_up_f (by decide), fk_up_f (by decide)]
      rw [kq_waiters]
      have hm : v ∈ kq_A (kk_end S t r) a := kq_mem.mpr ⟨v1, by unfold kq_PA; rw [e1, v2]; exact decide_eq_true rfl⟩
      have hl9 := List.length_pos_of_mem hm
      have h8 : (kq_A (kk_end S t r) a).length ≤ 8 := kq_len8 _ _
      exact nI_lt (a := 0) hl9 (by omega)
/-! start -/
theorem kk_start_o {f : Nat} (hu : u ≠ t) : kk_start S t f u = S f u := by
  unfold kk_start
  rw [fk_up_o hu, fk_up_o hu, fk_up_o hu, fk_up_o hu]
theorem kk_start_g {f : Nat} (h1 : ¬ f = 1) (h2 : ¬ f = 2) (h8 : ¬ f = 8) (h9 : ¬ f = 9) : kk_start S t f = S f := by
  unfold kk_start
  rw [fk_up_f h9, fk_up_f h8, fk_up_f h2, fk_up_f h1]
theorem kk_start_Off : kq_Off S (kk_start S t) (nI t) :=
  ⟨congrFun (kk_start_g (by decide) (by decide) (by decide) (by decide)) 0, fun u _ hn => ⟨fun f _ => kk_start_o (fun e => hn (by rw [e])), fun j _ => congrFun (kk_start_g (by decide) (by decide) (by decide) (by decide)) _⟩⟩
theorem kk_start_1 : kk_start S t 1 t = 0 := by simp [kk_start, fk_up]
theorem kk_start_8 : kk_start S t 8 t = -1 := by simp [kk_start, fk_up]
theorem kk_start_9 : kk_start S t 9 t = 0 := by simp [kk_start, fk_up]
theorem kq_G.start (h : kq_G n S P) (ht : t < 8) (h3 : S 1 t = 3) : kq_G n (kk_start S t) (upd P t 0) :=
  ⟨h.1.start ht h3 pk_us (fun u hu => pk_un hu), h.2.of (fun u hu e => by
    by_cases z : u = t
    · rw [z, kk_start_1] at e
      exact absurd e (by decide)
    · rw [kk_start_o z] at e
      exact e) (fun u _ _ => congrFun (kk_start_g (by decide) (by decide) (by decide) (by decide)) u)⟩
/-! priorities -/
theorem kk_prio_o {v : Int32} {f : Nat} (hu : u ≠ t) (hf : ¬ f = 12) : kk_prio S t v f u = S f u := by
  unfold kk_prio
  split
  · rfl
  · split
    · unfold kk_join
      rw [fk_up_o hu, fk_up_f hf, fk_up_o hu, fk_up_o hu]
    · rw [fk_up_o hu]
theorem kk_prio_g {v : Int32} {f : Nat} (h2 : ¬ f = 2) (h3 : ¬ f = 3) (h7 : ¬ f = 7) (h12 : ¬ f = 12) : kk_prio S t v f = S f := by
  unfold kk_prio
  split
  · rfl
  · split
    · unfold kk_join
      rw [fk_up_f h7, fk_up_f h12, fk_up_f h3, fk_up_f h2]
    · rw [fk_up_f h2]
theorem kk_prio_120 (v : Int32) : kk_prio S t v 12 0 = S 12 0 := by
  unfold kk_prio
  split
  · rfl
  · split
    · unfold kk_join
      rw [fk_up_f (by decide), fk_up_i (by decide), fk_up_f (by decide), fk_up_f (by decide)]
    · rw [fk_up_f (by decide)]
theorem kk_prio_Off (v : Int32) : kq_Off S (kk_prio S t v) (nI t) :=
  ⟨kk_prio_120 v, fun u _ hn => ⟨fun f hf => kk_prio_o (fun e => hn (by rw [e])) (by omega), fun j _ => congrFun (kk_prio_g (by decide) (by decide) (by decide) (by decide)) _⟩⟩
theorem kk_prio_same {v : Int32} (e : v = S 2 t) : kk_prio S t v = S := by
  unfold kk_prio
  rw [if_pos e]
theorem kq_G.prio (h : kq_G n S P) (ht : t < 8) (hn : n < 2 ^ 20) (v : Int32) : kq_G (n + 1) (kk_prio S t v) (upd P t v) :=
  ⟨h.1.prio ht hn v pk_us (fun u hu => pk_un hu), h.2.of (fun u _ e => by rw [kk_prio_g (by decide) (by decide) (by decide) (by decide)] at e; exact e) (fun u _ _ => congrFun (kk_prio_g (by decide) (by decide) (by decide) (by decide)) u)⟩
theorem kk_prio_Jd (h : kq_I n S P) (hn : n < 2 ^ 20) (ht : t < 8) (ha : a < 16) (e3 : S 3 t = nI a) {v : Int32} (hv : ¬ v = S 2 t) : kq_Jd (kk_prio S t v) t a := by
  have hq : kk_q (fk_up S 2 t v) t = true := by
    unfold kk_q
    rw [fk_up_f (by decide), e3]
    exact decide_eq_true (fk_nI_m1 (by omega))
  have e : kk_prio S t v = kk_join (fk_up S 2 t v) t (S 3 t) := by
    unfold kk_prio
    rw [if_neg hv, if_pos hq]
  refine ⟨ht, ha, ?_, fun u hu hne _ => ?_⟩
  · rw [e]
    unfold kk_join
    rw [fk_up_f (by decide), fk_up_f (by decide), fk_up_s, e3]
  · rw [e]
    unfold kk_join
    rw [fk_up_s, fk_up_o hne, fk_up_f (by decide), fk_up_f (by decide), fk_up_f (by decide), fk_up_f (by decide)]
    exact h.last7 hn hu
/-! a tick -/
theorem kq_tick (h : kq_G n S P) (hn : n + 16 < 2 ^ 17) {d : Nat} (h1 : 1 ≤ d) (hd : d ≤ 1000) : kq_G (n + 16) (kk_tick S (nI d)) P ∧ kk_tick S (nI d) 12 0 = S 12 0 + nI d ∧
    (∃ m, m ≤ 8 ∧ kk_tickR S (nI d) = nI m ∧ ((List.range 8).filter (fun u => decide (pl_last S < kk_tick S (nI d) 9 u) && decide (kk_tick S (nI d) 8 u = 1))).length = m ∧ ((kk_nextR S = -1 ∨ nI d < kk_nextR S) ↔ m = 0) ∧
      (m = 0 → kk_nextR (kk_tick S (nI d)) = if kk_nextR S = -1 then -1 else kk_nextR S - nI d)) := by
  obtain ⟨L, E, l1, l2, l3, l4, l5⟩ := h.1.last (by omega)
  have hnext := h.1.next (by omega)
  obtain ⟨-, -, -, -, -, -, T, t1, t2, -⟩ := id h.1
  have eT : S 12 0 + nI d = nI (T + d) := by rw [t2, nI_add]
  have hlen : ((List.range 8).filter (fun u => decide (S 5 u ≠ -1))).length ≤ 8 := Nat.le_trans (List.length_filter_le _ _) (by simp)
  obtain ⟨i1, i2, i3, i4, i5⟩ := kq_tickL (P := P) (e := T + d) (L := L) (by omega) (by omega) 8 n S h.1 (by omega) ⟨E, l1, l2, l3⟩ (fun u hu _ => by
    obtain ⟨j, hj, ej⟩ := l5 u hu
    rw [ej]
    exact nI_nlt (by omega) (by omega)) hlen
  have z : ((List.range 8).filter (fun u => decide (nI L < S 9 u) && decide (S 8 u = 1))).length = 0 := by
    rw [List.length_eq_zero_iff, List.filter_eq_nil_iff]
    intro u hu
    obtain ⟨j, hj, ej⟩ := l5 u (List.mem_range.mp hu)
    rw [ej, decide_eq_false (nI_nlt (by omega) (by omega))]
    simp
  have hm0 : ((kk_nextR S = -1 ∨ nI d < kk_nextR S) ↔ (kk_tickL (nI (T + d)) 8 S).1 = 0) := by
    rw [kq_tickL1]
    rcases hnext with ⟨a1, a2, a3⟩ | ⟨T', dd, w, a1, a2, a3, a4, a5, a6, a7, a8, a9⟩
    · rw [a2]
      exact ⟨fun _ => trivial, fun _ => Or.inl a1⟩
    · rw [a6]
      have eTT : T' = T := (nI_eq (by omega) (by omega)).mp (a1.symm.trans t2)
      subst eTT
      show _ ↔ ¬ S 5 w ≤ nI (T' + d)
      rw [a5, a8, nI_leI (by omega) (by omega)]
      constructor
      · rintro (q | q)
        · exact absurd q (fk_nI_m1 (by omega))
        · have := (nI_ltI (by omega) (by omega)).mp q
          omega
      · intro q
        exact Or.inr (nI_lt (by omega) (by omega))
  have hst : ∀ k (S : fk_S) e, (∀ u, u < 8 → S 1 u = 3 → S 10 u = 0) → (∀ u, u < 8 → (kk_tickL e k S).2 1 u = 3 → (kk_tickL e k S).2 10 u = 0) := by
    intro k
    induction k with
    | zero => intro S e h9; exact h9
    | succ k ih =>
      intro S e h9
      cases hx : kk_next S with
      | none => simp only [kk_tickL, hx]; exact h9
      | some t =>
        simp only [kk_tickL, hx]
        split
        · refine ih _ _ (fun u hu e1 => ?_)
          rw [kk_end_g (f := 10) (by decide) (by decide) (by decide) (by decide) (by decide) (by decide) (by decide)]
          by_cases c : u = t
          · rw [c, kk_end_1] at e1
            exact absurd e1 (by decide)
          · rw [kk_end_o c (by decide) (by decide)] at e1
            exact h9 u hu e1
        · exact h9
  have hG : kq_G (n + 16) (kk_tick S (nI d)) P := by
    unfold kk_tick
    rw [eT]
    obtain ⟨b1, b2, b3, b4, ⟨J, j1, j2, j3⟩, ⟨E2, e1, e2, e3⟩, T2, t3, t4, t5⟩ := i1
    have g : ∀ f, ¬ f = 12 → fk_up (kk_tickL (nI (T + d)) 8 S).2 12 0 (nI (T + d)) f = (kk_tickL (nI (T + d)) 8 S).2 f := fun f hf => fk_up_f hf
    refine ⟨⟨fk_ls_of (g 10 (by decide)) (g 11 (by decide)) b1, fun u hu => (b2 u hu).of (fun f hf => congrFun (g f (by omega)) u) rfl rfl, ?_, ?_, ⟨J, by omega, by rw [fk_up_i (by decide)]; exact j2, fun u hu => by rw [g 7 (by decide)]; exact j3 u hu⟩, ⟨E2, by omega, by rw [fk_up_i (by decide)]; exact e2, fun u hu => by rw [g 9 (by decide)]; exact e3 u hu⟩, T + d, by omega, by rw [fk_up_s], fun u hu => ?_⟩, fun u hu e9 => ?_⟩
    · intro u v hu hv a1 a2 a3
      unfold kk_q at a1 a2
      rw [g 3 (by decide)] at a1 a2
      rw [g 7 (by decide)] at a3
      exact b3 u v hu hv a1 a2 a3
    · rw [g 9 (by decide)]
      exact b4
    · rw [g 5 (by decide)]
      rcases t5 u hu with q | ⟨dd, q1, q2, q3⟩
      · exact Or.inl q
      · rcases i2 u hu with w | w
        · exact Or.inl w
        · rw [q3] at w
          have hw := (nI_ltI (by omega) (by omega)).mp w
          rw [i3, t2] at t4
          have := (nI_eq (by omega) (by omega)).mp t4
          exact Or.inr ⟨dd, hw, by omega, q3⟩
    · rw [g 1 (by decide)] at e9
      rw [g 10 (by decide)]
      exact hst 8 S _ h.2 u hu e9
  refine ⟨hG, by unfold kk_tick; rw [fk_up_s], (kk_tickL (nI (T + d)) 8 S).1, i4, by unfold kk_tickR; rw [eT], ?_, hm0, fun q => ?_⟩
  · unfold kk_tick
    rw [eT, fk_up_f (a := 9) (by decide), fk_up_f (a := 8) (by decide), l4, i5, z, Nat.zero_add]
  · have q2 := kq_tickL0 q
    unfold kk_tick
    rw [eT, q2]
    rcases hnext with ⟨a1, a2, a3⟩ | ⟨T', dd, w, a1, a2, a3, a4, a5, a6, a7, a8, a9⟩
    · rw [a1, if_pos rfl]
      exact kq_nextN (fun u hu => by rw [fk_up_f (by decide)]; exact a3 u hu)
    · have eTT : T' = T := (nI_eq (by omega) (by omega)).mp (a1.symm.trans t2)
      subst eTT
      have hlt : d < dd - T' := by
        rcases hm0.mpr q with w9 | w9
        · rw [a5] at w9
          exact absurd w9 (fk_nI_m1 (by omega))
        · rw [a5] at w9
          exact (nI_ltI (by omega) (by omega)).mp w9
      rw [a5, if_neg (fk_nI_m1 (by omega)), pk_sub (by omega), show dd - T' - d = dd - (T' + d) by omega]
      refine kq_nextV (by omega) (by omega) (fk_up_s _ _ _ _) ⟨w, a7, by rw [fk_up_f (by decide)]; exact a8⟩ (fun u hu => ?_)
      rw [fk_up_f (by decide)]
      exact a9 u hu
end
