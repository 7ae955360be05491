/-! exit: what it leaves as it was -/
section
variable {n : Nat} {S S' : fk_S} {P P' : Nat → Int32} {u t a : Nat}
theorem kk_give_o {w : Nat} {x d : Int32} (h : u ≠ w) (hu : u < 8) (hw : w < 8) (hz : fk_sz S) : (∀ f, f ≠ 0 → f ≠ 11 → kk_give S w x d f u = S f u) ∧ ∀ j, j < 16 → kk_give S w x d 11 (16 * u + j) = S 11 (16 * u + j) := by
  unfold kk_give
  split
  · have hz2 : fk_sz (fk_up S 0 x.toNatClampNeg (kk_word S w x d)) := fk_sz_of (fk_up_10 (by decide)) hz
    obtain ⟨a1, a2, -⟩ := kk_add_o (a := x) h hu hw hz2
    refine ⟨fun f h0 h11 => ?_, fun j hj => ?_⟩
    · by_cases e : f = 10
      · subst e
        rw [a1, fk_up_f (by decide)]
      · rw [kk_add_f f e h11, fk_up_f h0]
    · rw [a2 j hj, fk_up_f (by decide)]
  · exact ⟨fun _ _ _ => rfl, fun _ _ => rfl⟩
theorem kk_give_g {w : Nat} {x d : Int32} {f : Nat} (h0 : f ≠ 0) (h10 : f ≠ 10) (h11 : f ≠ 11) : kk_give S w x d f = S f := by
  unfold kk_give
  split
  · rw [kk_add_f f h10 h11, fk_up_f h0]
  · rfl
theorem kk_end_sz (hz : fk_sz S) {w : Nat} (r : Int32) : fk_sz (kk_end S w r) := fk_sz_of (kk_end_10 S w r) hz
theorem kk_pass_N {x : Int32} {b : Bool} (h : kk_lk S x = none) : kk_pass S x b = if fk_isA x = true then fk_up S 0 x.toNatClampNeg (kk_died b) else S := by
  unfold kk_pass
  rw [h]
theorem kk_pass_S {x : Int32} {b : Bool} {w : Nat} (h : kk_lk S x = some w) : kk_pass S x b = kk_give (kk_end S w (if b then 4 else 3)) w x (kk_died b) := by
  unfold kk_pass
  rw [h]
/-- a thread that isn't LOCKING isn't touched when a lock is passed on -/
theorem kk_pass_o {x : Int32} {b : Bool} (hz : fk_sz S) (hu : u < 8) (h : ¬ S 1 u = 2) : (∀ f, f ≠ 0 → f ≠ 11 → f ≠ 12 → kk_pass S x b f u = S f u) ∧ ∀ j, j < 16 → kk_pass S x b 11 (16 * u + j) = S 11 (16 * u + j) := by
  cases e : kk_lk S x with
  | none =>
    rw [kk_pass_N e]
    by_cases c : fk_isA x = true
    · rw [if_pos c]
      exact ⟨fun f h0 _ _ => by rw [fk_up_f h0], fun j _ => by rw [fk_up_f (by decide)]⟩
    · rw [if_neg c]
      exact ⟨fun _ _ _ _ => rfl, fun _ _ => rfl⟩
  | some w =>
    rw [kk_pass_S e]
    obtain ⟨w1, -, w3⟩ := kk_first_st e
    have hne : u ≠ w := fun z => h (by rw [z]; exact w3)
    obtain ⟨g1, g2⟩ := kk_give_o (x := x) (d := kk_died b) hne hu w1 (kk_end_sz hz (w := w) (if b then 4 else 3))
    refine ⟨fun f h0 h11 h12 => (g1 f h0 h11).trans (kk_end_o hne h0 h12), fun j hj => (g2 j hj).trans ?_⟩
    exact congrFun (kk_end_g (by decide) (by decide) (by decide) (by decide) (by decide) (by decide) (by decide)) _
theorem kk_pass_120 {x : Int32} {b : Bool} : kk_pass S x b 12 0 = S 12 0 := by
  cases e : kk_lk S x with
  | none =>
    rw [kk_pass_N e]
    by_cases c : fk_isA x = true
    · rw [if_pos c, fk_up_f (by decide)]
    · rw [if_neg c]
  | some w => rw [kk_pass_S e, kk_give_g (by decide) (by decide) (by decide), kq_end_12 _ (by decide)]
theorem kk_pass_D {x : Int32} {b : Bool} (hz : fk_sz S) (h : ∀ u, u < 8 → u ≠ t → S 1 u = 3 → S 10 u = 0) : ∀ u, u < 8 → u ≠ t → kk_pass S x b 1 u = 3 → kk_pass S x b 10 u = 0 := by
  intro u hu hne e
  by_cases c : S 1 u = 2
  · have : kk_pass S x b 1 u = 2 ∨ kk_pass S x b 1 u = 0 := by
      cases e9 : kk_lk S x with
      | none =>
        rw [kk_pass_N e9]
        by_cases c9 : fk_isA x = true
        · rw [if_pos c9, fk_up_f (by decide)]; exact Or.inl c
        · rw [if_neg c9]; exact Or.inl c
      | some w =>
        rw [kk_pass_S e9, kk_give_g (by decide) (by decide) (by decide)]
        by_cases z : u = w
        · rw [z, kk_end_1]; exact Or.inr rfl
        · rw [kk_end_o z (by decide) (by decide)]; exact Or.inl c
    rw [e] at this
    rcases this with w | w <;> exact absurd w (by decide)
  · obtain ⟨g1, -⟩ := kk_pass_o (x := x) (b := b) hz hu c
    rw [g1 1 (by decide) (by decide) (by decide)] at e
    rw [g1 10 (by decide) (by decide) (by decide)]
    exact h u hu hne e
theorem kk_exl_o (ht : t < 8) : ∀ (k i : Nat) (S : fk_S), fk_sz S → S 1 t = 3 → (∀ f, f ≠ 0 → f ≠ 11 → f ≠ 12 → (kk_exl t k i S).2 f t = S f t) ∧ ((∀ u, u < 8 → u ≠ t → S 1 u = 3 → S 10 u = 0) → ∀ u, u < 8 → u ≠ t → (kk_exl t k i S).2 1 u = 3 → (kk_exl t k i S).2 10 u = 0) ∧ (kk_exl t k i S).1 ≤ k := by
  intro k
  induction k with
  | zero => intro i S _ _; exact ⟨fun _ _ _ _ => rfl, fun h => h, Nat.le_refl _⟩
  | succ k ih =>
    intro i S hz h3
    simp only [kk_exl]
    by_cases c9 : kk_owner S (kk_addrAt S t (nI i)) = some t
    · rw [if_pos c9]
      obtain ⟨g1, -⟩ := kk_pass_o (x := kk_addrAt S t (nI i)) (b := true) hz ht (show ¬ S 1 t = 2 by rw [h3]; decide)
      obtain ⟨i1, i2, i3⟩ := ih (i + 1) (kk_pass S (kk_addrAt S t (nI i)) true) (kk_pass_sz hz) ((g1 1 (by decide) (by decide) (by decide)).trans h3)
      exact ⟨fun f a b c => (i1 f a b c).trans (g1 f a b c), fun h => i2 (kk_pass_D hz h), Nat.succ_le_succ i3⟩
    · rw [if_neg c9]
      obtain ⟨i1, i2, i3⟩ := ih (i + 1) S hz h3
      exact ⟨i1, i2, by omega⟩
theorem kk_exl_0 : ∀ (k i : Nat) (S : fk_S), (kk_exl t k i S).1 = 0 → (kk_exl t k i S).2 = S := by
  intro k
  induction k with
  | zero => intro i S _; rfl
  | succ k ih =>
    intro i S h
    simp only [kk_exl] at h ⊢
    by_cases c : kk_owner S (kk_addrAt S t (nI i)) = some t
    · rw [if_pos c] at h
      exact absurd h (by simp)
    · rw [if_neg c] at h ⊢
      exact ih _ _ h
theorem kk_ex0_Off : kq_Off S (kk_ex0 S t) (nI t) := by
  refine ⟨?_, fun u _ hn => ⟨fun f hf => ?_, fun j _ => ?_⟩⟩
  · rw [kk_ex0_f (by decide), fk_up_f (by decide)]
    split
    · unfold kk_off
      rw [fk_up_f (by decide), fk_up_f (by decide), fk_up_f (by decide)]
    · rfl
  · have hu : u ≠ t := fun e => hn (by rw [e])
    rw [kk_ex0_f (by omega), fk_up_o hu]
    split
    · unfold kk_off
      rw [fk_up_o hu, fk_up_o hu, fk_up_o hu]
    · rfl
  · rw [kk_ex0_f (by decide), fk_up_f (by decide)]
    split
    · unfold kk_off
      rw [fk_up_f (by decide), fk_up_f (by decide), fk_up_f (by decide)]
    · rfl
theorem kq_exit (hG : kq_G n S P) (ht : t < 8) (hn : n < 2 ^ 17) : ∃ m, kk_exitR S t = nI m ∧ m < 2 ^ 20 ∧ kq_G (n + 16) (kk_exit S t) P ∧ kk_exit S t 1 t = 3 ∧ kk_exit S t 10 t = 0 ∧ kk_exit S t 3 t = -1 ∧ (m = 0 → pl_thr (kk_exit S t) (nI t) = pl_thr S (nI t)) := by
  obtain ⟨hI, hDd⟩ := id hG
  have hI2 := hI.exit ht (by omega)
  have hx := hI.ex0 ht
  have e1 : kk_ex0 S t 1 t = 3 := by rw [kk_ex0_f (by decide), fk_up_s]
  have e3 : kk_ex0 S t 3 t = -1 := ((hx.T ht).nq (Or.inr e1)).1
  obtain ⟨i1, i2, i3⟩ := kk_exl_o ht (S 10 t).toNatClampNeg 0 (kk_ex0 S t) hx.sz e1
  obtain ⟨k, hk, hs, -, -⟩ := hI.1 t ht
  have hk2 : (S 10 t).toNatClampNeg = k := by rw [hs, nI_clamp (by omega)]
  have f1 : kk_exit S t 1 t = 3 := by
    unfold kk_exit
    rw [fk_up_f (by decide), i1 1 (by decide) (by decide) (by decide), e1]
  refine ⟨(kk_exl t (S 10 t).toNatClampNeg 0 (kk_ex0 S t)).1, rfl, by omega, ⟨hI2, fun u hu e => ?_⟩, f1, by unfold kk_exit; rw [fk_up_s], ?_, fun h0 => ?_⟩
  · by_cases c : u = t
    · rw [c]
      unfold kk_exit
      rw [fk_up_s]
    · unfold kk_exit at e ⊢
      rw [fk_up_f (by decide)] at e
      rw [fk_up_i c]
      refine i2 (fun v hv hne ev => ?_) u hu c e
      rw [(kk_ex0_Off (t := t)).2 v hv (fun z => hne ((nI_eq (by omega) (by omega)).mp z)) |>.1 1 (by omega)] at ev
      rw [(kk_ex0_Off (t := t)).2 v hv (fun z => hne ((nI_eq (by omega) (by omega)).mp z)) |>.1 10 (by omega)]
      exact hDd v hv ev
  · unfold kk_exit
    rw [fk_up_f (by decide), i1 3 (by decide) (by decide) (by decide), e3]
  · refine hI.thr hI2 ?_
    have e := kk_exl_0 (t := t) (S 10 t).toNatClampNeg 0 (kk_ex0 S t) h0
    have : kk_exit S t = fk_up (kk_ex0 S t) 10 t 0 := by
      unfold kk_exit
      rw [e]
    rw [this]
    refine kk_ex0_Off.tr ⟨by rw [fk_up_f (by decide)], fun u _ hn => ⟨fun f _ => fk_up_o (fun z => hn (by rw [z])), fun j _ => by rw [fk_up_f (by decide)]⟩⟩
end
