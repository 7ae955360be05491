/-! pure words: what the methods compute, on the numbers of a state -/
def fk_b (b : Bool) : Int32 := if b then 1 else 0
theorem fk_b_n (b : Bool) : narrow .boolean (.int (fk_b b)) = .int (fk_b b) := by cases b <;> rfl
def fk_isA (a : Int32) : Bool := decide (0 ≤ a) && decide (a < 16)
def fk_isT (a : Int32) : Bool := decide (0 ≤ a) && decide (a < 8)
theorem fk_in_of {a : Int32} {n : Nat} (hn : n < 2 ^ 31) (h0 : 0 ≤ a) (h1 : a < nI n) : vp_in a n := by
  obtain ⟨j, hj, rfl⟩ := nI_of (x := a) (Int32.not_lt.mpr h0)
  exact vp_in_nI ((nI_ltI hj hn).mp h1) hn
theorem fk_isA_in {a : Int32} (h : fk_isA a = true) : vp_in a 16 := by
  simp only [fk_isA, Bool.and_eq_true, decide_eq_true_eq] at h
  exact fk_in_of (by decide) h.1 h.2
theorem fk_isT_in {a : Int32} (h : fk_isT a = true) : vp_in a 8 := by
  simp only [fk_isT, Bool.and_eq_true, decide_eq_true_eq] at h
  exact fk_in_of (by decide) h.1 h.2
theorem fk_isA_nI {a : Nat} (h : a < 16) : fk_isA (nI a) = true := by
  have h1 : (0 : Int32) ≤ nI a := nI_pos' (by omega)
  have h2 : nI a < 16 := nI_lt (b := 16) h (by decide)
  simp [fk_isA, h1, h2]
theorem fk_isT_nI {a : Nat} (h : a < 8) : fk_isT (nI a) = true := by
  have h1 : (0 : Int32) ≤ nI a := nI_pos' (by omega)
  have h2 : nI a < 8 := nI_lt (b := 8) h (by decide)
  simp [fk_isT, h1, h2]
def fk_lp {α : Type} (b : Nat → α → α) : Nat → Nat → α → α
  | 0, _, x => x
  | n + 1, i, x => fk_lp b n (i + 1) (b i x)
def fk_bb (P : Nat → Bool) (lt : Nat → Nat → Bool) (t : Nat) (x : Option Nat) : Option Nat := match x with
  | none => if P t then some t else none
  | some u => if P t && lt t u then some t else some u
def fk_best (P : Nat → Bool) (lt : Nat → Nat → Bool) : Option Nat := fk_lp (fk_bb P lt) 8 0 none
theorem fk_lp_inv {α : Type} {b : Nat → α → α} (I : α → Prop) (N : Nat) (hb : ∀ i x, i < N → I x → I (b i x)) : ∀ n i x, i + n = N → I x → I (fk_lp b n i x) := by
  intro n
  induction n with
  | zero => intro i x _ h; exact h
  | succ n ih => intro i x hi h; exact ih (i + 1) _ (by omega) (hb i x (by omega) h)
theorem fk_lp_congr {α : Type} {b b' : Nat → α → α} (I : α → Prop) (N : Nat) (hb : ∀ i x, i < N → I x → I (b i x)) (he : ∀ i x, i < N → I x → b i x = b' i x) : ∀ n i x, i + n = N → I x → fk_lp b n i x = fk_lp b' n i x := by
  intro n
  induction n with
  | zero => intro i x _ h; rfl
  | succ n ih =>
    intro i x hi h
    show fk_lp b n (i + 1) (b i x) = fk_lp b' n (i + 1) (b' i x)
    rw [← he i x (by omega) h]
    exact ih (i + 1) _ (by omega) (hb i x (by omega) h)
theorem fk_best_spec {P : Nat → Bool} {lt : Nat → Nat → Bool} {t : Nat} (h : fk_best P lt = some t) : t < 8 ∧ P t = true := by
  have := fk_lp_inv (b := fk_bb P lt) (fun x => ∀ u, x = some u → u < 8 ∧ P u = true) 8 (by
    intro i x hi hx u hu
    cases x with
    | none =>
      simp only [fk_bb] at hu
      by_cases hp : P i = true
      · rw [if_pos hp] at hu
        cases hu
        exact ⟨hi, hp⟩
      · rw [if_neg hp] at hu
        cases hu
    | some w =>
      simp only [fk_bb] at hu
      by_cases hp : (P i && lt i w) = true
      · rw [if_pos hp] at hu
        cases hu
        simp only [Bool.and_eq_true] at hp
        exact ⟨hi, hp.1⟩
      · rw [if_neg hp] at hu
        exact hx u hu) 8 0 none rfl (by intro u hu; cases hu)
  exact this t h
theorem fk_best_congr {P P' : Nat → Bool} {lt lt' : Nat → Nat → Bool} (hP : ∀ t, t < 8 → P t = P' t) (hl : ∀ t u, t < 8 → u < 8 → P t = true → P u = true → lt t u = lt' t u) : fk_best P lt = fk_best P' lt' := by
  refine fk_lp_congr (fun x => ∀ u, x = some u → u < 8 ∧ P u = true) 8 ?_ ?_ 8 0 none rfl (by intro u hu; cases hu)
  · intro i x hi hx u hu
    cases x with
    | none =>
      simp only [fk_bb] at hu
      by_cases hp : P i = true
      · rw [if_pos hp] at hu
        cases hu
        exact ⟨hi, hp⟩
      · rw [if_neg hp] at hu
        cases hu
    | some w =>
      simp only [fk_bb] at hu
      by_cases hp : (P i && lt i w) = true
      · rw [if_pos hp] at hu
        cases hu
        simp only [Bool.and_eq_true] at hp
        exact ⟨hi, hp.1⟩
      · rw [if_neg hp] at hu
        exact hx u hu
  · intro i x hi hx
    cases x with
    | none => simp only [fk_bb, hP i hi]
    | some w =>
      obtain ⟨h1, h2⟩ := hx w rfl
      simp only [fk_bb, ← hP i hi]
      by_cases hp : P i = true
      · rw [hl i w hi h1 hp h2]
      · simp [hp]
theorem fk_best_none {P : Nat → Bool} {lt : Nat → Nat → Bool} (h : fk_best P lt = none) : ∀ t, t < 8 → P t = false := by
  have key : ∀ n i x, (∃ u, x = some u) → fk_lp (fk_bb P lt) n i x ≠ none := by
    intro n
    induction n with
    | zero => intro i x ⟨u, hu⟩ h; rw [hu] at h; cases h
    | succ n ih =>
      intro i x ⟨u, hu⟩
      subst hu
      refine ih (i + 1) _ ?_
      simp only [fk_bb]
      by_cases hp : (P i && lt i u) = true
      · exact ⟨i, by rw [if_pos hp]⟩
      · exact ⟨u, by rw [if_neg hp]⟩
  have main : ∀ n i, fk_lp (fk_bb P lt) n i none = none → ∀ t, i ≤ t → t < i + n → P t = false := by
    intro n
    induction n with
    | zero => intro i _ t h1 h2; omega
    | succ n ih =>
      intro i hi t h1 h2
      by_cases hp : P i = true
      · exact absurd hi (key n (i + 1) _ ⟨i, by simp only [fk_bb]; rw [if_pos hp]⟩)
      · have hi' : fk_lp (fk_bb P lt) n (i + 1) none = none := by
          have : fk_bb P lt i none = none := by simp only [fk_bb]; rw [if_neg hp]
          have h3 : fk_lp (fk_bb P lt) n (i + 1) (fk_bb P lt i none) = none := hi
          rw [this] at h3
          exact h3
        by_cases ht : t = i
        · subst ht
          simpa using hp
        · exact ih (i + 1) hi' t (by omega) (by omega)
  intro t ht
  exact main 8 0 h t (by omega) (by omega)
/-- a task or null as a value; a thread's number or -1 -/
def fk_vT (ad : Nat → Nat) (o : Option Nat) : Option Value := some (match o with
  | none => .null
  | some t => .ref (ad (3 + t)))
def fk_oI (o : Option Nat) : Int32 := match o with
  | none => -1
  | some t => nI t
/-! the kernel -/
def kk_ahead (S : fk_S) (t u : Nat) : Bool := decide (S 2 u < S 2 t) || (decide (S 2 t = S 2 u) && decide (S 7 t < S 7 u))
def kk_sooner (S : fk_S) (t u : Nat) : Bool := decide (S 5 t < S 5 u) || (decide (S 5 t = S 5 u) && decide (S 6 t < S 6 u))
def kk_q (S : fk_S) (t : Nat) : Bool := decide (S 3 t ≠ -1)
def kk_fits (S : fk_S) (a st mk : Int32) (t : Nat) : Bool := decide (S 3 t = a) && decide (S 1 t = st) && decide (S 4 t &&& mk ≠ 0)
def kk_first (S : fk_S) (a st mk : Int32) : Option Nat := fk_best (kk_fits S a st mk) (kk_ahead S)
def kk_lk (S : fk_S) (a : Int32) : Option Nat := kk_first S a 2 255
def kk_next (S : fk_S) : Option Nat := fk_best (fun t => decide (S 5 t ≠ -1)) (kk_sooner S)
def kk_join (S : fk_S) (t : Nat) (a : Int32) : fk_S := fk_up (fk_up (fk_up S 3 t a) 12 3 (S 12 3 + 1)) 7 t (S 12 3 + 1)
def kk_begin (S : fk_S) (t : Nat) (st a mk to : Int32) : fk_S :=
  kk_join (fk_up (fk_up (fk_up (fk_up (fk_up S 1 t st) 4 t mk) 5 t (if to = 0 then -1 else S 12 0 + to)) 12 2 (S 12 2 + 1)) 6 t (S 12 2 + 1)) t a
def kk_off (S : fk_S) (t : Nat) : fk_S := fk_up (fk_up (fk_up S 1 t 0) 3 t (-1)) 5 t (-1)
def kk_leave (S : fk_S) (t : Nat) : fk_S :=
  if S 1 t = 2 ∧ fk_isA (S 3 t) = true ∧ kk_lk (kk_off S t) (S 3 t) = none then fk_up (kk_off S t) 0 (S 3 t).toNatClampNeg (S 0 (S 3 t).toNatClampNeg &&& 2147483647) else kk_off S t
def kk_fin (S : fk_S) (t : Nat) (r : Int32) : fk_S := fk_up (fk_up (fk_up S 8 t r) 12 1 (S 12 1 + 1)) 9 t (S 12 1 + 1)
def kk_end (S : fk_S) (t : Nat) (r : Int32) : fk_S := kk_fin (kk_leave S t) t r
def kk_wake (a mk : Int32) : Nat → fk_S → Nat × fk_S
  | 0, S => (0, S)
  | n + 1, S => match kk_first S a 1 mk with
    | none => (0, S)
    | some t => ((kk_wake a mk n (kk_end S t 0)).1 + 1, (kk_wake a mk n (kk_end S t 0)).2)
def kk_move (a b : Int32) : Nat → fk_S → Nat × fk_S
  | 0, S => (0, S)
  | n + 1, S => match kk_first S a 1 255 with
    | none => (0, S)
    | some t => ((kk_move a b n (kk_join S t b)).1 + 1, (kk_move a b n (kk_join S t b)).2)
def kk_owner (S : fk_S) (a : Int32) : Option Nat :=
  if fk_isA a = true ∧ 1 ≤ S 0 a.toNatClampNeg &&& 255 ∧ S 0 a.toNatClampNeg &&& 255 ≤ 8 then some ((S 0 a.toNatClampNeg &&& 255) - 1).toNatClampNeg else none
/-- where an address stands in the list of a thread, from the place i on -/
def fk_find (S : fk_S) (t : Nat) (a : Int32) : Nat → Nat → Option Nat
  | 0, _ => none
  | n + 1, i => if S 11 (16 * t + i) = a then some i else fk_find S t a n (i + 1)
def fk_place (S : fk_S) (t : Nat) (a : Int32) : Option Nat := fk_find S t a (S 10 t).toNatClampNeg 0
def kk_addrAt (S : fk_S) (t : Nat) (k : Int32) : Int32 := if 0 ≤ k ∧ k < S 10 t then S 11 (16 * t + k.toNatClampNeg) else -1
def kk_add (S : fk_S) (t : Nat) (a : Int32) : fk_S :=
  if fk_place S t a = none ∧ S 10 t < 16 then fk_up (fk_up S 11 (16 * t + (S 10 t).toNatClampNeg) a) 10 t (S 10 t + 1) else S
/-- the list's tail goes one place down: n places from k on -/
def fk_shift (t : Nat) : Nat → Nat → fk_S → fk_S
  | 0, _, S => S
  | n + 1, k, S => fk_shift t n (k + 1) (fk_up S 11 (16 * t + k) (S 11 (16 * t + (k + 1))))
def kk_drop (S : fk_S) (t : Nat) (a : Int32) : fk_S := match fk_place S t a with
  | none => S
  | some p => fk_up (fk_shift t ((S 10 t).toNatClampNeg - (p + 1)) p S) 10 t (S 10 t - 1)
def kk_word (S : fk_S) (t : Nat) (a died : Int32) : Int32 := ((nI (t + 1)) ||| died) ||| (if kk_lk S a = none then 0 else -2147483648)
def kk_give (S : fk_S) (t : Nat) (a died : Int32) : fk_S :=
  if fk_isA a = true then kk_add (fk_up S 0 a.toNatClampNeg (kk_word S t a died)) t a else S
def kk_died (b : Bool) : Int32 := if b then 1073741824 else 0
def kk_pass (S : fk_S) (a : Int32) (b : Bool) : fk_S := match kk_lk S a with
  | none => if fk_isA a = true then fk_up S 0 a.toNatClampNeg (kk_died b) else S
  | some t => kk_give (kk_end S t (if b then 4 else 3)) t a (kk_died b)
def kk_held (S : fk_S) (u : Nat) : Nat → Option Nat → Bool
  | 0, _ => false
  | _ + 1, none => false
  | n + 1, some w => if S 1 w = 2 then (if kk_owner S (S 3 w) = some u then true else kk_held S u n (kk_owner S (S 3 w))) else false
def kk_bit (t : Nat) : Int32 := 1 <<< (nI t &&& 31)
def kk_blk1 (S : fk_S) (bl : Int32) (t : Nat) (x : Int32) : Int32 :=
  if S 1 t = 2 then (match kk_owner S (S 3 t) with
    | none => x
    | some u => if kk_bit u &&& bl = 0 then x else x ||| kk_bit t) else x
def kk_blk (S : fk_S) (bl : Int32) : Int32 := fk_lp (kk_blk1 S bl) 8 0 0
def kk_cnt1 (p : Nat → Bool) (t : Nat) (x : Int32) : Int32 := if p t then x + 1 else x
def kk_cntA (S : fk_S) (t : Nat) : Int32 := fk_lp (kk_cnt1 (fun u => decide (S 3 u = S 3 t) && kk_ahead S u t)) 8 0 0
def fk_bkt (a : Int32) : Int32 := (a + a / 4) - (a + a / 4) / 4 * 4
def kk_cntB (S : fk_S) (t : Nat) : Int32 := fk_lp (kk_cnt1 (fun u => kk_q S u && decide (fk_bkt (S 3 u) = fk_bkt (S 3 t)) && kk_ahead S u t)) 8 0 0

theorem fk_nI_m1 {u : Nat} (h : u < 2 ^ 31) : ¬ nI u = -1 := fun e => absurd (show nI u < 0 by rw [e]; decide) (nI_pos h)
theorem fk_find_lt {S : fk_S} {t : Nat} {a : Int32} : ∀ (n i : Nat) {q : Nat}, fk_find S t a n i = some q → i ≤ q ∧ q < i + n := by
  intro n
  induction n with
  | zero => intro i q h; cases h
  | succ n ih =>
    intro i q h
    simp only [fk_find] at h
    by_cases e : S 11 (16 * t + i) = a
    · rw [if_pos e] at h
      cases h
      omega
    · rw [if_neg e] at h
      have := ih (i + 1) h
      omega
theorem fk_place_lt {S : fk_S} {t k : Nat} {a : Int32} {q : Nat} (hk : k ≤ 16) (hs : S 10 t = nI k) (h : fk_place S t a = some q) : q < k := by
  unfold fk_place at h
  rw [hs, nI_clamp (by omega)] at h
  have := fk_find_lt k 0 h
  omega
/-- the lists' sizes -/
def fk_sz (S : fk_S) : Prop := ∀ u, u < 8 → ∃ k, k ≤ 16 ∧ S 10 u = nI k
theorem fk_sz_of {S S' : fk_S} (e : S' 10 = S 10) (h : fk_sz S) : fk_sz S' := fun u hu => by rw [e]; exact h u hu
theorem fk_up_10 {S : fk_S} {f i : Nat} {v : Int32} (h : 10 ≠ f) : fk_up S f i v 10 = S 10 := fk_up_f h
theorem kk_join_10 (S : fk_S) (t : Nat) (a : Int32) : kk_join S t a 10 = S 10 := by simp [kk_join, fk_up]
theorem kk_off_10 (S : fk_S) (t : Nat) : kk_off S t 10 = S 10 := by simp [kk_off, fk_up]
theorem kk_leave_10 (S : fk_S) (t : Nat) : kk_leave S t 10 = S 10 := by
  unfold kk_leave
  split
  · rw [fk_up_f (by decide), kk_off_10]
  · rw [kk_off_10]
theorem kk_end_10 (S : fk_S) (t : Nat) (r : Int32) : kk_end S t r 10 = S 10 := by
  unfold kk_end kk_fin
  rw [fk_up_f (by decide), fk_up_f (by decide), fk_up_f (by decide), kk_leave_10]
theorem fk_own_in {o : Int32} (h1 : ¬ o < 1) (h2 : ¬ 8 < o) : vp_in (o - 1) 8 := by
  have h0 : ¬ o < 0 := fun h => h1 (Int32.lt_trans h (by decide))
  obtain ⟨j, hj, rfl⟩ := nI_of h0
  have a1 : ¬ j < 1 := fun h => h1 (nI_lt (b := 1) h (by decide))
  have a2 : ¬ 8 < j := fun h => h2 (nI_lt (a := 8) h hj)
  obtain ⟨q, rfl⟩ : ∃ q, j = q + 1 := ⟨j - 1, by omega⟩
  rw [nI_pred]
  exact vp_in_nI (by omega) (by decide)
theorem fk_adT {ad : Nat → Nat} {cI cT : ClassId} {S : fk_S} {X : va_W} {A : Nat → Prop} (hD : va_D A (fk_kW ad cI cT S ++ X)) {v u : Nat} (hv : v < 8) (hu : u < 8) (h : some (ad (3 + v)) = some (ad (3 + u))) : v = u := by
  have := hD.1 (3 + v) (3 + u) _ _ (fk_atT hv) (fk_atT hu) (Option.some.inj h)
  omega
theorem kk_first_lt {S : fk_S} {a st mk : Int32} {t : Nat} (h : kk_first S a st mk = some t) : t < 8 := (fk_best_spec h).1
theorem kk_lk_lt {S : fk_S} {a : Int32} {t : Nat} (h : kk_lk S a = some t) : t < 8 := kk_first_lt h
theorem kk_next_lt {S : fk_S} {t : Nat} (h : kk_next S = some t) : t < 8 := (fk_best_spec h).1
theorem kk_owner_lt {S : fk_S} {a : Int32} {t : Nat} (h : kk_owner S a = some t) : t < 8 := by
  unfold kk_owner at h
  split at h
  · next hc =>
    cases h
    have h8 := fk_own_in (o := S 0 a.toNatClampNeg &&& 255) (Int32.not_lt.mpr hc.2.1) (Int32.not_lt.mpr hc.2.2)
    exact Nat.not_le.mp fun q => h8 (Or.inr q)
  · cases h
