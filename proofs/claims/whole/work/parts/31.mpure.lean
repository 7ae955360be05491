/-! the model, on the numbers of a state -/
def mm_q (S : fk_S) (t : Nat) : Bool := decide (S 1 t = 1) || decide (S 1 t = 2)
def mm_key (S : fk_S) (t : Nat) : Int64 := (9 - S 2 t).toInt64 * 1000000000 + (S 7 t).toInt64
def mm_lt (S : fk_S) (t u : Nat) : Bool := decide (mm_key S t < mm_key S u)
def mm_fits (S : fk_S) (a w bits : Int32) (t : Nat) : Bool := decide (S 1 t = w) && decide (S 3 t = a) && decide (S 4 t &&& bits ≠ 0)
def mm_first (S : fk_S) (a w bits : Int32) : Option Nat := fk_best (mm_fits S a w bits) (mm_lt S)
def mm_lk (S : fk_S) (a : Int32) : Option Nat := mm_first S a 2 255
def mm_leave (S : fk_S) (t : Nat) (w : Int32) : fk_S :=
  if S 1 t = 2 ∧ mm_lk (fk_up S 1 t w) (S 3 t) = none then fk_up (fk_up S 1 t w) 0 (S 3 t).toNatClampNeg (S 0 (S 3 t).toNatClampNeg &&& 2147483647) else fk_up S 1 t w
def mm_end (S : fk_S) (t : Nat) (r : Int32) : fk_S := kk_fin (mm_leave S t 0) t r
def mm_wait (S : fk_S) (t : Nat) (a w bits to : Int32) : fk_S :=
  kk_join (fk_up (fk_up (fk_up (fk_up (fk_up S 1 t w) 4 t bits) 5 t (if to = 0 then 0 else S 12 0 + to)) 12 2 (S 12 2 + 1)) 6 t (S 12 2 + 1)) t a
def mm_code (S : fk_S) (th av : Int32) (rng : Bool) (wh : Int32) : Int32 :=
  if fk_isT th = true ∧ fk_isA av = true then (if rng = true then (if S 1 th.toNatClampNeg = 0 then 0 else wh) else 2) else 1
def mm_set (S : fk_S) (v : Int32) : fk_S := fk_up S 12 4 v
def mm_msk (v : Int32) : Bool := decide (0 < v) && decide (v ≤ 255)
def mm_tmo (v : Int32) : Bool := decide (0 ≤ v) && decide (v ≤ 10000)
def mm_own (w : Int32) : Int32 := (w &&& 255) - 1
def mm_wake (a mk : Int32) : Nat → fk_S → Nat × fk_S
  | 0, S => (0, S)
  | n + 1, S => match mm_first S a 1 mk with
    | none => (0, S)
    | some t => ((mm_wake a mk n (mm_end S t 0)).1 + 1, (mm_wake a mk n (mm_end S t 0)).2)
def mm_move (a b : Int32) : Nat → fk_S → Nat × fk_S
  | 0, S => (0, S)
  | n + 1, S => match mm_first S a 1 255 with
    | none => (0, S)
    | some t => ((mm_move a b n (kk_join S t b)).1 + 1, (mm_move a b n (kk_join S t b)).2)
/-- the last place of an address -/
def mm_pl1 (S : fk_S) (t : Nat) (a : Int32) (k : Nat) (x : Option Nat) : Option Nat := if S 11 (16 * t + k) = a then some k else x
/-- the lists are in order: sizes, entries, no entry twice -/
def fk_ls (S : fk_S) : Prop := ∀ u, u < 8 → ∃ k, k ≤ 16 ∧ S 10 u = nI k ∧ (∀ j, j < k → vp_in (S 11 (16 * u + j)) 16) ∧ ∀ i j, i < j → j < k → S 11 (16 * u + i) ≠ S 11 (16 * u + j)
theorem fk_ls_sz {S : fk_S} (h : fk_ls S) : fk_sz S := fun u hu => by
  obtain ⟨k, h1, h2, -⟩ := h u hu
  exact ⟨k, h1, h2⟩
theorem fk_ls_of {S S' : fk_S} (e : S' 10 = S 10) (e2 : S' 11 = S 11) (h : fk_ls S) : fk_ls S' := fun u hu => by rw [e, e2]; exact h u hu
theorem mm_pl_eq {S : fk_S} {t k : Nat} {a : Int32} (hd : ∀ i j, i < j → j < k → S 11 (16 * t + i) ≠ S 11 (16 * t + j)) : ∀ (n i : Nat) (x : Option Nat), i + n = k → (∀ q, x = some q → q < i ∧ S 11 (16 * t + q) = a) → fk_lp (mm_pl1 S t a) n i x = (match x with | some q => some q | none => fk_find S t a n i) := by
  intro n
  induction n with
  | zero => intro i x _ _; cases x <;> rfl
  | succ n ih =>
    intro i x hi hx
    show fk_lp (mm_pl1 S t a) n (i + 1) (mm_pl1 S t a i x) = _
    cases x with
    | some q =>
      obtain ⟨h1, h2⟩ := hx q rfl
      have : ¬ S 11 (16 * t + i) = a := fun e => hd q i h1 (by omega) (h2.trans e.symm)
      simp only [mm_pl1, if_neg this]
      exact ih (i + 1) (some q) (by omega) (fun w hw => by cases hw; exact ⟨by omega, h2⟩)
    | none =>
      by_cases e : S 11 (16 * t + i) = a
      · simp only [mm_pl1, if_pos e, fk_find]
        exact ih (i + 1) (some i) (by omega) (fun w hw => by cases hw; exact ⟨by omega, e⟩)
      · simp only [mm_pl1, if_neg e, fk_find]
        exact ih (i + 1) none (by omega) (fun w hw => by cases hw)
theorem fk_find_none {S : fk_S} {t : Nat} {a : Int32} : ∀ (n i : Nat), fk_find S t a n i = none → ∀ j, i ≤ j → j < i + n → S 11 (16 * t + j) ≠ a := by
  intro n
  induction n with
  | zero => intro i _ j h1 h2; omega
  | succ n ih =>
    intro i h j h1 h2
    simp only [fk_find] at h
    by_cases e : S 11 (16 * t + i) = a
    · rw [if_pos e] at h
      cases h
    · rw [if_neg e] at h
      by_cases e2 : j = i
      · rw [e2]; exact e
      · exact ih (i + 1) h j (by omega) (by omega)
/-- holes -/
theorem fk_holes : ∀ (m n : Nat) (f : Nat → Nat), (∀ i, i < n → f i < m) → (∀ i j, i < j → j < n → f i ≠ f j) → n ≤ m := by
  intro m
  induction m with
  | zero =>
    intro n f h _
    rcases Nat.eq_zero_or_pos n with e | e
    · omega
    · exact absurd (h 0 e) (Nat.not_lt_zero _)
  | succ m ih =>
    intro n f h hd
    by_cases hm : ∃ i, i < n ∧ f i = m
    · obtain ⟨i0, hi0, e0⟩ := hm
      have : n - 1 ≤ m := by
        refine ih (n - 1) (fun i => if i < i0 then f i else f (i + 1)) ?_ ?_
        · intro i hi
          show (if i < i0 then f i else f (i + 1)) < m
          by_cases e : i < i0
          · rw [if_pos e]
            have h1 := h i (by omega)
            have h2 := hd i i0 e hi0
            omega
          · rw [if_neg e]
            have h1 := h (i + 1) (by omega)
            have h2 := hd i0 (i + 1) (by omega) (by omega)
            omega
        · intro i j hij hj
          show (if i < i0 then f i else f (i + 1)) ≠ (if j < i0 then f j else f (j + 1))
          by_cases e1 : i < i0
          · rw [if_pos e1]
            by_cases e2 : j < i0
            · rw [if_pos e2]; exact hd i j hij (by omega)
            · rw [if_neg e2]; exact hd i (j + 1) (by omega) (by omega)
          · rw [if_neg e1, if_neg (by omega)]
            exact hd (i + 1) (j + 1) (by omega) (by omega)
      omega
    · have : n ≤ m := ih n f (fun i hi => by
        have h1 := h i hi
        have h2 : f i ≠ m := fun e => hm ⟨i, hi, e⟩
        omega) hd
      omega
/-- a list that lacks an address has room for it -/
theorem fk_ls_room {S : fk_S} {t k : Nat} {a : Int32} (hk : k ≤ 16) (hs : S 10 t = nI k) (hv : ∀ j, j < k → vp_in (S 11 (16 * t + j)) 16) (hd : ∀ i j, i < j → j < k → S 11 (16 * t + i) ≠ S 11 (16 * t + j)) (ha : vp_in a 16) (hn : fk_place S t a = none) : k < 16 := by
  rcases Nat.lt_or_ge k 16 with h | h
  · exact h
  · have hk16 : k = 16 := by omega
    subst hk16
    unfold fk_place at hn
    rw [hs, nI_clamp (by decide)] at hn
    have hne := fk_find_none 16 0 hn
    obtain ⟨q, hq, eq⟩ := vp_in_of ha (by decide)
    have hv' : ∀ j, j < 16 → ∃ z, z < 16 ∧ S 11 (16 * t + j) = nI z := fun j hj => vp_in_of (hv j hj) (by decide)
    have := fk_holes 16 17 (fun i => if i < 16 then (S 11 (16 * t + i)).toNatClampNeg else q) (by
      intro i hi
      show (if i < 16 then (S 11 (16 * t + i)).toNatClampNeg else q) < 16
      by_cases e : i < 16
      · rw [if_pos e]
        obtain ⟨z, hz, ez⟩ := hv' i e
        rw [ez, nI_clamp (by omega)]
        exact hz
      · rw [if_neg e]; exact hq) (by
      intro i j hij hj
      show (if i < 16 then (S 11 (16 * t + i)).toNatClampNeg else q) ≠ (if j < 16 then (S 11 (16 * t + j)).toNatClampNeg else q)
      rw [if_pos (show i < 16 by omega)]
      obtain ⟨z, hz, ez⟩ := hv' i (by omega)
      rw [ez, nI_clamp (by omega)]
      by_cases e : j < 16
      · rw [if_pos e]
        obtain ⟨z2, hz2, ez2⟩ := hv' j e
        rw [ez2, nI_clamp (by omega)]
        intro h9
        exact hd i j hij e (by rw [ez, ez2, h9])
      · rw [if_neg e]
        intro h9
        exact hne i (by omega) (by omega) (by rw [ez, eq, h9]))
    omega
def mm_word (S : fk_S) (t : Nat) (a died : Int32) : Int32 := ((nI (t + 1)) ||| died) ||| (if mm_lk S a = none then 0 else -2147483648)
def mm_pass (S : fk_S) (a : Int32) (b : Bool) : fk_S := match mm_lk S a with
  | none => fk_up S 0 a.toNatClampNeg (kk_died b)
  | some t => kk_add (fk_up (mm_end S t (if b then 4 else 3)) 0 a.toNatClampNeg (mm_word (mm_end S t (if b then 4 else 3)) t a (kk_died b))) t a
def mm_dead (S : fk_S) (t : Nat) : Nat → Int32 → Bool → Bool
  | 0, _, b => b
  | n + 1, w, b => if b = true then true else if fk_isT w = true ∧ S 1 w.toNatClampNeg = 2 then mm_dead S t n (mm_own (S 0 (S 3 w.toNatClampNeg).toNatClampNeg)) (decide (mm_own (S 0 (S 3 w.toNatClampNeg).toNatClampNeg) = nI t)) else false
theorem mm_first_lt {S : fk_S} {a w mk : Int32} {t : Nat} (h : mm_first S a w mk = some t) : t < 8 := (fk_best_spec h).1
theorem mm_first_spec {S : fk_S} {a w mk : Int32} {t : Nat} (h : mm_first S a w mk = some t) : S 1 t = w ∧ S 3 t = a := by
  have := (fk_best_spec h).2
  simp only [mm_fits, Bool.and_eq_true, decide_eq_true_eq] at this
  exact this.1
theorem fk_shift_up10 (t u : Nat) (v : Int32) : ∀ (n k : Nat) (S : fk_S), fk_shift t n k (fk_up S 10 u v) = fk_up (fk_shift t n k S) 10 u v := by
  intro n
  induction n with
  | zero => intro k S; rfl
  | succ n ih =>
    intro k S
    simp only [fk_shift]
    rw [← ih, fk_up_f (S := S) (f := 10) (a := 11) (by decide)]
    congr 1
    funext a b
    simp only [fk_up]
    by_cases h1 : a = 11
    · subst h1
      simp
    · by_cases h2 : a = 10
      · subst h2
        simp
      · simp [h1, h2]
def mm_due (S : fk_S) : Option Nat := fk_best (fun t => mm_q S t && decide (S 5 t = S 12 0)) (fun t u => decide (S 6 t < S 6 u))
theorem mm_due_lt {S : fk_S} {t : Nat} (h : mm_due S = some t) : t < 8 := (fk_best_spec h).1
def mm_cnt1 (p : Nat → Bool) (t : Nat) (x : Int32) : Int32 := x + (if p t = true then 1 else 0)
def mm_cntA (S : fk_S) (a : Int32) : Int32 := fk_lp (mm_cnt1 (fun u => mm_q S u && decide (S 3 u = a))) 8 0 0
def mm_in (S : fk_S) (u : Nat) (b a : Int32) : Bool := mm_q S u && decide (fk_bkt (S 3 u) = b) && (decide (a = -1) || decide (S 3 u = a))
def mm_rank (S : fk_S) (b a : Int32) (t : Nat) : Int32 := fk_lp (mm_cnt1 (fun u => mm_in S u b a && mm_lt S u t)) 8 0 0
def mm_th1 (S : fk_S) (b a q : Int32) (t : Nat) (y : Option Nat) : Option Nat := if (mm_in S t b a && decide (mm_rank S b a t = q)) = true then some t else y
def mm_th (S : fk_S) (b a q : Int32) : Option Nat := fk_lp (mm_th1 S b a q) 8 0 none
theorem mm_leave_10 (S : fk_S) (t : Nat) (w : Int32) : mm_leave S t w 10 = S 10 := by
  unfold mm_leave
  split
  · rw [fk_up_f (by decide), fk_up_f (by decide)]
  · rw [fk_up_f (by decide)]
theorem mm_leave_11 (S : fk_S) (t : Nat) (w : Int32) : mm_leave S t w 11 = S 11 := by
  unfold mm_leave
  split
  · rw [fk_up_f (by decide), fk_up_f (by decide)]
  · rw [fk_up_f (by decide)]
theorem mm_end_10 (S : fk_S) (t : Nat) (r : Int32) : mm_end S t r 10 = S 10 := by
  unfold mm_end kk_fin
  rw [fk_up_f (by decide), fk_up_f (by decide), fk_up_f (by decide), mm_leave_10]
theorem mm_end_11 (S : fk_S) (t : Nat) (r : Int32) : mm_end S t r 11 = S 11 := by
  unfold mm_end kk_fin
  rw [fk_up_f (by decide), fk_up_f (by decide), fk_up_f (by decide), mm_leave_11]
