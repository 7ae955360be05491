/-! the lists of locks in order (taken over from the whole claim) -/
def fk_ls (S : fk_S) : Prop := ∀ u, u < 8 → ∃ k, k ≤ 16 ∧ S 10 u = nI k ∧ (∀ j, j < k → vp_in (S 11 (16 * u + j)) 16) ∧ ∀ i j, i < j → j < k → S 11 (16 * u + i) ≠ S 11 (16 * u + j)
theorem fk_ls_sz {S : fk_S} (h : fk_ls S) : fk_sz S := fun u hu => by
  obtain ⟨k, h1, h2, -⟩ := h u hu
  exact ⟨k, h1, h2⟩
theorem fk_ls_of {S S' : fk_S} (e : S' 10 = S 10) (e2 : S' 11 = S 11) (h : fk_ls S) : fk_ls S' := fun u hu => by rw [e, e2]; exact h u hu
theorem fk_find_none {S : fk_S} {t : Nat} {a : Int32} : ∀ (n i : Nat), fk_find S t a n i = none → ∀ j, i ≤ j → j < i + n → S 11 (16 * t + j) ≠ a := by
  intro n
  induction n with
  | zero => intro i _ j h1 h2; omega
  | succ n ih =>
    intro i h j h1 h2
    simp only [fk_find] at h
    by_cases e : S 11 (16 * t + i) = a
    · rw [if_pos e] at h
      cases h
    · rw [if_neg e] at h
      by_cases e2 : j = i
      · rw [e2]; exact e
      · exact ih (i + 1) h j (by omega) (by omega)
theorem fk_holes : ∀ (m n : Nat) (f : Nat → Nat), (∀ i, i < n → f i < m) → (∀ i j, i < j → j < n → f i ≠ f j) → n ≤ m := by
  intro m
  induction m with
  | zero =>
    intro n f h _
    rcases Nat.eq_zero_or_pos n with e | e
    · omega
    · exact absurd (h 0 e) (Nat.not_lt_zero _)
  | succ m ih =>
    intro n f h hd
    by_cases hm : ∃ i, i < n ∧ f i = m
    · obtain ⟨i0, hi0, e0⟩ := hm
      have : n - 1 ≤ m := by
        refine ih (n - 1) (fun i => if i < i0 then f i else f (i + 1)) ?_ ?_
        · intro i hi
          show (if i < i0 then f i else f (i + 1)) < m
          by_cases e : i < i0
          · rw [if_pos e]
            have h1 := h i (by omega)
            have h2 := hd i i0 e hi0
            omega
          · rw [if_neg e]
            have h1 := h (i + 1) (by omega)
            have h2 := hd i0 (i + 1) (by omega) (by omega)
            omega
        · intro i j hij hj
          show (if i < i0 then f i else f (i + 1)) ≠ (if j < i0 then f j else f (j + 1))
          by_cases e1 : i < i0
          · rw [if_pos e1]
            by_cases e2 : j < i0
            · rw [if_pos e2]; exact hd i j hij (by omega)
            · rw [if_neg e2]; exact hd i (j + 1) (by omega) (by omega)
          · rw [if_neg e1, if_neg (by omega)]
            exact hd (i + 1) (j + 1) (by omega) (by omega)
      omega
    · have : n ≤ m := ih n f (fun i hi => by
        have h1 := h i hi
        have h2 : f i ≠ m := fun e => hm ⟨i, hi, e⟩
        omega) hd
      omega
theorem fk_ls_room {S : fk_S} {t k : Nat} {a : Int32} (hk : k ≤ 16) (hs : S 10 t = nI k) (hv : ∀ j, j < k → vp_in (S 11 (16 * t + j)) 16) (hd : ∀ i j, i < j → j < k → S 11 (16 * t + i) ≠ S 11 (16 * t + j)) (ha : vp_in a 16) (hn : fk_place S t a = none) : k < 16 := by
  rcases Nat.lt_or_ge k 16 with h | h
  · exact h
  · have hk16 : k = 16 := by omega
    subst hk16
    unfold fk_place at hn
    rw [hs, nI_clamp (by decide)] at hn
    have hne := fk_find_none 16 0 hn
    obtain ⟨q, hq, eq⟩ := vp_in_of ha (by decide)
    have hv' : ∀ j, j < 16 → ∃ z, z < 16 ∧ S 11 (16 * t + j) = nI z := fun j hj => vp_in_of (hv j hj) (by decide)
    have := fk_holes 16 17 (fun i => if i < 16 then (S 11 (16 * t + i)).toNatClampNeg else q) (by
      intro i hi
      show (if i < 16 then (S 11 (16 * t + i)).toNatClampNeg else q) < 16
      by_cases e : i < 16
      · rw [if_pos e]
        obtain ⟨z, hz, ez⟩ := hv' i e
        rw [ez, nI_clamp (by omega)]
        exact hz
      · rw [if_neg e]; exact hq) (by
      intro i j hij hj
      show (if i < 16 then (S 11 (16 * t + i)).toNatClampNeg else q) ≠ (if j < 16 then (S 11 (16 * t + j)).toNatClampNeg else q)
      rw [if_pos (show i < 16 by omega)]
      obtain ⟨z, hz, ez⟩ := hv' i (by omega)
      rw [ez, nI_clamp (by omega)]
      by_cases e : j < 16
      · rw [if_pos e]
        obtain ⟨z2, hz2, ez2⟩ := hv' j e
        rw [ez2, nI_clamp (by omega)]
        intro h9
        exact hd i j hij e (by rw [ez, ez2, h9])
      · rw [if_neg e]
        intro h9
        exact hne i (by omega) (by omega) (by rw [ez, eq, h9]))
    omega
theorem fk_up_up (S : fk_S) (f i : Nat) (v w : Int32) : fk_up (fk_up S f i v) f i w = fk_up S f i w := by
  funext a b
  simp only [fk_up]
  by_cases h1 : a = f
  · subst h1
    simp only [if_true]
    by_cases h2 : b = i
    · simp [h2]
    · simp [h2]
  · simp [h1]
theorem fk_ls_up {S : fk_S} {f i : Nat} {v : Int32} (h1 : 10 ≠ f) (h2 : 11 ≠ f) (h : fk_ls S) : fk_ls (fk_up S f i v) := fk_ls_of (fk_up_f h1) (fk_up_f h2) h
theorem kk_add_ls {S : fk_S} {t : Nat} {a : Int32} (ht : t < 8) (ha : vp_in a 16) (h : fk_ls S) : fk_ls (kk_add S t a) := by
  unfold kk_add
  split
  · next hc =>
    intro u hu
    obtain ⟨k, hk, hs, hv, hd⟩ := h u hu
    by_cases e : u = t
    · subst e
      have h2 := hc.2
      rw [hs] at h2
      have hlt := (nI_ltI (b := 16) (by omega) (by decide)).mp h2
      have hn := hc.1
      unfold fk_place at hn
      rw [hs, nI_clamp (by omega)] at hn
      have hne := fk_find_none k 0 hn
      have r10 : fk_up (fk_up S 11 (16 * u + (S 10 u).toNatClampNeg) a) 10 u (S 10 u + 1) 10 u = nI (k + 1) := by rw [fk_up_s, hs, nI_1]
      have r11 : ∀ j, fk_up (fk_up S 11 (16 * u + (S 10 u).toNatClampNeg) a) 10 u (S 10 u + 1) 11 (16 * u + j) = if j = k then a else S 11 (16 * u + j) := by
        intro j
        rw [fk_up_f (by decide), hs, nI_clamp (by omega)]
        by_cases ej : j = k
        · subst ej
          rw [fk_up_s, if_pos rfl]
        · rw [fk_up_i (by omega), if_neg ej]
      refine ⟨k + 1, by omega, r10, fun j hj => ?_, fun i j hij hj => ?_⟩
      · rw [r11]
        by_cases ej : j = k
        · rw [if_pos ej]; exact ha
        · rw [if_neg ej]; exact hv j (by omega)
      · rw [r11, r11, if_neg (by omega)]
        by_cases ej : j = k
        · rw [if_pos ej]; exact hne i (by omega) (by omega)
        · rw [if_neg ej]; exact hd i j hij (by omega)
    · have r11 : ∀ j, j < k → fk_up (fk_up S 11 (16 * t + (S 10 t).toNatClampNeg) a) 10 t (S 10 t + 1) 11 (16 * u + j) = S 11 (16 * u + j) := by
        intro j hj
        obtain ⟨k2, hk2, hs2, -, -⟩ := h t ht
        have h2 := hc.2
        rw [hs2] at h2
        have hlt := (nI_ltI (b := 16) (by omega) (by decide)).mp h2
        rw [fk_up_f (by decide), hs2, nI_clamp (by omega), fk_up_i (by omega)]
      refine ⟨k, hk, by rw [fk_up_i e, fk_up_f (by decide), hs], fun j hj => by rw [r11 j hj]; exact hv j hj, fun i j hij hj => by rw [r11 i (by omega), r11 j hj]; exact hd i j hij hj⟩
  · exact h
theorem fk_shift_11 (t : Nat) : ∀ (n k : Nat) (S : fk_S) (j : Nat), fk_shift t n k S 11 j = if 16 * t + k ≤ j ∧ j < 16 * t + k + n then S 11 (j + 1) else S 11 j := by
  intro n
  induction n with
  | zero => intro k S j; rw [if_neg (by omega)]; rfl
  | succ n ih =>
    intro k S j
    simp only [fk_shift]
    rw [ih]
    by_cases h1 : 16 * t + (k + 1) ≤ j ∧ j < 16 * t + (k + 1) + n
    · rw [if_pos h1, if_pos (by omega), fk_up_i (by omega)]
    · rw [if_neg h1]
      by_cases h2 : j = 16 * t + k
      · subst h2
        rw [fk_up_s, if_pos (by omega)]
        rfl
      · rw [fk_up_i h2, if_neg (by omega)]
theorem kk_drop_ls {S : fk_S} {t : Nat} {a : Int32} (ht : t < 8) (h : fk_ls S) : fk_ls (kk_drop S t a) := by
  unfold kk_drop
  split
  · exact h
  · next p hp =>
    intro u hu
    obtain ⟨k, hk, hs, hv, hd⟩ := h u hu
    obtain ⟨k2, hk2, hs2, -, -⟩ := h t ht
    have hpl := fk_place_lt hk2 hs2 hp
    have r11 : ∀ j, fk_up (fk_shift t ((S 10 t).toNatClampNeg - (p + 1)) p S) 10 t (S 10 t - 1) 11 j = if 16 * t + p ≤ j ∧ j < 16 * t + p + (k2 - (p + 1)) then S 11 (j + 1) else S 11 j := by
      intro j
      rw [fk_up_f (by decide), hs2, nI_clamp (by omega), fk_shift_11]
    by_cases e : u = t
    · subst e
      have hkk : k2 = k := by
        have := hs2.symm.trans hs
        exact (nI_eq (by omega) (by omega)).mp this
      subst hkk
      obtain ⟨q, rfl⟩ : ∃ q, k2 = q + 1 := ⟨k2 - 1, by omega⟩
      refine ⟨q, by omega, by rw [fk_up_s, hs, nI_pred], fun j hj => ?_, fun i j hij hj => ?_⟩
      · rw [r11]
        by_cases e1 : 16 * u + p ≤ 16 * u + j ∧ 16 * u + j < 16 * u + p + (q + 1 - (p + 1))
        · rw [if_pos e1]; exact hv (j + 1) (by omega)
        · rw [if_neg e1]; exact hv j (by omega)
      · rw [r11, r11]
        by_cases e1 : 16 * u + p ≤ 16 * u + i ∧ 16 * u + i < 16 * u + p + (q + 1 - (p + 1))
        · rw [if_pos e1, if_pos (by omega)]; exact hd (i + 1) (j + 1) (by omega) (by omega)
        · rw [if_neg e1]
          by_cases e2 : 16 * u + p ≤ 16 * u + j ∧ 16 * u + j < 16 * u + p + (q + 1 - (p + 1))
          · rw [if_pos e2]; exact hd i (j + 1) (by omega) (by omega)
          · rw [if_neg e2]; exact hd i j hij (by omega)
    · have r : ∀ j, j < k → fk_up (fk_shift t ((S 10 t).toNatClampNeg - (p + 1)) p S) 10 t (S 10 t - 1) 11 (16 * u + j) = S 11 (16 * u + j) := by
        intro j hj
        rw [r11, if_neg (by omega)]
      refine ⟨k, hk, by rw [fk_up_i e, fk_shift_10, hs], fun j hj => by rw [r j hj]; exact hv j hj, fun i j hij hj => by rw [r i (by omega), r j hj]; exact hd i j hij hj⟩
theorem kk_add_o {S : fk_S} {t u : Nat} {a : Int32} (h : u ≠ t) (hu : u < 8) (ht : t < 8) (hz : fk_sz S) : (kk_add S t a) 10 u = S 10 u ∧ (∀ j, j < 16 → (kk_add S t a) 11 (16 * u + j) = S 11 (16 * u + j)) ∧ (kk_add S t a) 1 = S 1 := by
  unfold kk_add
  split
  · next hc =>
    obtain ⟨k, hk, hs⟩ := hz t ht
    have h2 := hc.2
    rw [hs] at h2
    have hlt := (nI_ltI (b := 16) (by omega) (by decide)).mp h2
    refine ⟨by rw [fk_up_i h, fk_up_f (by decide)], fun j hj => by rw [fk_up_f (by decide), hs, nI_clamp (by omega), fk_up_i (by omega)], by rw [fk_up_f (by decide), fk_up_f (by decide)]⟩
  · exact ⟨rfl, fun _ _ => rfl, rfl⟩
theorem kk_add_f {S : fk_S} {t : Nat} {a : Int32} : ∀ f, f ≠ 10 → f ≠ 11 → (kk_add S t a) f = S f := by
  intro f h1 h2
  unfold kk_add
  split
  · rw [fk_up_f h1, fk_up_f h2]
  · rfl
theorem fk_shift_f (t : Nat) : ∀ (n k : Nat) (S : fk_S) (f : Nat), f ≠ 11 → fk_shift t n k S f = S f := by
  intro n
  induction n with
  | zero => intro k S f h; rfl
  | succ n ih => intro k S f h; simp only [fk_shift]; rw [ih _ _ _ h, fk_up_f h]
theorem kk_drop_f {S : fk_S} {t : Nat} {a : Int32} : ∀ f, f ≠ 10 → f ≠ 11 → (kk_drop S t a) f = S f := by
  intro f h1 h2
  unfold kk_drop
  cases h : fk_place S t a with
  | none => rfl
  | some p => exact (congrFun rfl f).trans (by show fk_up _ 10 t _ f = _; rw [fk_up_f h1, fk_shift_f _ _ _ _ _ h2])
theorem fk_up_same (S : fk_S) {f i : Nat} {v : Int32} (h : S f i = v) : fk_up S f i v = S := by
  funext g j
  by_cases e : g = f
  · subst e
    by_cases e2 : j = i
    · subst e2; rw [fk_up_s, h]
    · rw [fk_up_i e2]
  · rw [fk_up_f e]
theorem fk_up_comm (S : fk_S) {f g i j : Nat} {v w : Int32} (h : f ≠ g) : fk_up (fk_up S f i v) g j w = fk_up (fk_up S g j w) f i v := by
  funext a b
  simp only [fk_up]
  by_cases h1 : a = g
  · subst h1
    simp [Ne.symm h]
  · simp [h1]
theorem fk_vp_isA {x : Int32} (h : vp_in x 16) : fk_isA x = true := by
  obtain ⟨j, hj, rfl⟩ := vp_in_of h (by decide)
  exact fk_isA_nI hj
theorem fk_isT_of {w : Int32} (h : fk_isT w = true) : ∃ u, u < 8 ∧ w = nI u := vp_in_of (fk_isT_in h) (by decide)
