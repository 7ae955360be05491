/-! sums over queues and addresses -/
def pl_sm (f : Nat → Nat) : Nat → Nat
  | 0 => 0
  | m + 1 => pl_sm f m + f m
theorem pl_sm_congr {f g : Nat → Nat} : ∀ m, (∀ b, b < m → f b = g b) → pl_sm f m = pl_sm g m := by
  intro m
  induction m with
  | zero => intro _; rfl
  | succ m ih => intro h; simp only [pl_sm]; rw [ih (fun b hb => h b (by omega)), h m (by omega)]
theorem pl_sm_one {x : Nat} {f : Nat → Nat} : ∀ m, x < m → pl_sm (fun b => (if x = b then 1 else 0) + f b) m = 1 + pl_sm f m := by
  have z : ∀ m, m ≤ x → pl_sm (fun b => (if x = b then 1 else 0) + f b) m = pl_sm f m := by
    intro m
    induction m with
    | zero => intro _; rfl
    | succ m ih => intro h; simp only [pl_sm]; rw [ih (by omega), if_neg (by omega), Nat.zero_add]
  intro m
  induction m with
  | zero => intro h; omega
  | succ m ih =>
    intro h
    simp only [pl_sm]
    by_cases e : x = m
    · rw [z m (by omega), if_pos e]; omega
    · rw [ih (by omega), if_neg e]; omega
theorem pl_sm_count {q : Nat → Bool} {g : Nat → Nat} {m : Nat} : ∀ (L : List Nat), (∀ t ∈ L, q t = true → g t < m) → pl_sm (fun b => (L.filter (fun t => q t && decide (g t = b))).length) m = (L.filter q).length := by
  intro L
  induction L with
  | nil =>
    intro _
    have : ∀ m, pl_sm (fun _ => 0) m = 0 := by
      intro m
      induction m with
      | zero => rfl
      | succ m ih => simp only [pl_sm]; rw [ih]
    exact this m
  | cons t L ih =>
    intro h
    have ih' := ih (fun u hu => h u (List.mem_cons_of_mem _ hu))
    by_cases c : q t = true
    · rw [List.filter_cons_of_pos c, List.length_cons, ← ih', Nat.add_comm]
      rw [← pl_sm_one m (h t List.mem_cons_self c)]
      refine pl_sm_congr m (fun b _ => ?_)
      by_cases e : g t = b
      · rw [List.filter_cons_of_pos (by simp [c, e]), if_pos e, List.length_cons]; omega
      · rw [List.filter_cons_of_neg (by simp [e]), if_neg e]; omega
    · rw [List.filter_cons_of_neg c, ← ih']
      refine pl_sm_congr m (fun b _ => ?_)
      rw [List.filter_cons_of_neg (by simp [c])]
def pl_wn (S : fk_S) : Nat → Nat
  | 0 => 0
  | t + 1 => pl_wn S t + if kk_q S t = true then 1 else 0
theorem pl_wn_eq (S : fk_S) : ∀ m, pl_wn S m = ((List.range m).filter (kk_q S)).length := by
  intro m
  induction m with
  | zero => rfl
  | succ m ih =>
    simp only [pl_wn]
    rw [List.range_succ, List.filter_append, List.length_append, ih]
    by_cases c : kk_q S m = true
    · rw [if_pos c, List.filter_cons_of_pos c]; rfl
    · rw [if_neg c, List.filter_cons_of_neg c]; rfl
section
variable {n : Nat} {S S' : fk_S} {P P' : Nat → Int32} {u t a b v : Nat}
theorem kq_I.qa (h : kq_I n S P) (hu : u < 8) (hq : kk_q S u = true) : ∃ a, a < 16 ∧ S 3 u = nI a := (h.T hu).q ((h.T hu).isq.mp hq)
theorem kq_sumB (h : kq_I n S P) : pl_sm (fun b => (kq_B S b).length) 4 = pl_wn S 8 := by
  rw [pl_wn_eq, ← pl_sm_count (q := kk_q S) (g := fun t => pl_bkt (S 3 t).toNatClampNeg) (m := 4) (List.range 8) (fun t _ _ => pl_bkt_lt _)]
  refine pl_sm_congr 4 (fun b hb => ?_)
  unfold kq_B
  rw [kq_len]
  refine congrArg List.length (List.filter_congr (fun t ht => ?_))
  unfold kq_PB
  by_cases c : kk_q S t = true
  · obtain ⟨a, ha, e⟩ := h.qa (List.mem_range.mp ht) c
    have hb4 := pl_bkt_lt a
    rw [c, e, fk_bkt_N (by omega), nI_clamp (by omega)]
    exact congrArg (true && ·) (decide_eq_decide.mpr (nI_eq (by omega) (by omega)))
  · have c9 : kk_q S t = false := by simpa using c
    rw [c9]
    rfl
theorem kq_sumA (h : kq_I n S P) : pl_sm (fun a => (kq_A S a).length) 16 = pl_wn S 8 := by
  rw [pl_wn_eq, ← pl_sm_count (q := kk_q S) (g := fun t => (S 3 t).toNatClampNeg) (m := 16) (List.range 8) (fun t ht c => by
    obtain ⟨a, ha, e⟩ := h.qa (List.mem_range.mp ht) c
    show (S 3 t).toNatClampNeg < 16
    rw [e, nI_clamp (by omega)]
    exact ha)]
  refine pl_sm_congr 16 (fun b hb => ?_)
  unfold kq_A
  rw [kq_len]
  refine congrArg List.length (List.filter_congr (fun t ht => ?_))
  unfold kq_PA
  by_cases c : kk_q S t = true
  · obtain ⟨a, ha, e⟩ := h.qa (List.mem_range.mp ht) c
    rw [c, e, nI_clamp (by omega), Bool.true_and]
    exact decide_eq_decide.mpr (nI_eq (by omega) (by omega))
  · have c9 : kk_q S t = false := by simpa using c
    have e : S 3 t = -1 := by unfold kk_q at c9; simpa using c9
    rw [c9, Bool.false_and, e]
    exact decide_eq_false (fun z => fk_nI_m1 (by omega) z.symm)
theorem kq_B_at (hJ : kq_I n S P) {k : Nat} (h : (kq_B S b)[k]? = some t) : t < 8 ∧ kk_q S t = true ∧ fk_bkt (S 3 t) = nI b := by
  have hm := kq_mem.mp (List.mem_of_getElem? h)
  have h2 := hm.2
  unfold kq_PB at h2
  simp only [Bool.and_eq_true, decide_eq_true_eq] at h2
  exact ⟨hm.1, h2.1, h2.2⟩
/-- in the order of the priorities -/
theorem kq_B_ord (h : kq_I n S P) {i k : Nat} (hi : (kq_B S b)[i]? = some u) (hk : (kq_B S b)[k]? = some t) (hik : i < k) : S 2 t ≤ S 2 u := by
  have hp := kq_pw (h.J.B (nI b))
  obtain ⟨i1, e1⟩ := List.getElem?_eq_some_iff.mp hi
  obtain ⟨k1, e2⟩ := List.getElem?_eq_some_iff.mp hk
  have ah := List.pairwise_iff_getElem.mp hp i k i1 k1 hik
  have ah2 : kk_ahead S u t = true := by
    have : kk_ahead S ((kq_B S b)[i]) ((kq_B S b)[k]) = true := ah
    rw [e1, e2] at this
    exact this
  rw [kq_ah] at ah2
  rw [Int32.le_iff_toInt_le]
  omega
theorem kq_I.ser2 (h : kq_I n S P) (hu : u < 8) (ht : t < 8) (e : S 9 u = S 9 t) : u = t ∨ S 9 u = 0 := h.2.2.2.1 u t hu ht e
/-- those of a queue that are at the address, gone through up to one of them -/
theorem kq_putA {F : List Nat} {D : List Nat} {x : Int32} {A : List Nat} (hF : F ++ (t :: D).filter (fun w => decide (S 3 w = x)) = A) : (S 3 t = x → (F ++ [t]) ++ D.filter (fun w => decide (S 3 w = x)) = A ∧ A[F.length]? = some t ∧ F.length < A.length) ∧ (¬ S 3 t = x → F ++ D.filter (fun w => decide (S 3 w = x)) = A) := by
  constructor
  · intro c
    rw [List.filter_cons_of_pos (by simpa using c)] at hF
    refine ⟨by rw [List.append_assoc]; exact hF, ?_, ?_⟩
    · rw [← hF, List.getElem?_append_right (Nat.le_refl _), Nat.sub_self]
      rfl
    · rw [← hF, List.length_append, List.length_cons]
      omega
  · intro c
    rw [List.filter_cons_of_neg (by simpa using c)] at hF
    exact hF
end
