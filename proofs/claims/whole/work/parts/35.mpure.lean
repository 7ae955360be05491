/-! the model's public methods, on the numbers of a state -/
theorem fk_up_up (S : fk_S) (f i : Nat) (v w : Int32) : fk_up (fk_up S f i v) f i w = fk_up S f i w := by
  funext a b
  simp only [fk_up]
  by_cases h1 : a = f
  · subst h1
    simp only [if_true]
    by_cases h2 : b = i
    · simp [h2]
    · simp [h2]
  · simp [h1]
theorem fk_set_set (S : fk_S) (v w : Int32) : mm_set (mm_set S v) w = mm_set S w := fk_up_up S 12 4 v w
def fk_at (S : fk_S) : Prop := ∀ u, u < 8 → S 1 u = 2 → vp_in (S 3 u) 16
theorem mm_code_ok {S : fk_S} {t a : Nat} {wh : Int32} (ht : t < 8) (ha : a < 16) (h : S 1 t = 0) : mm_code S (nI t) (nI a) true wh = 0 := by
  simp [mm_code, fk_isT_nI ht, fk_isA_nI ha, nI_clamp (n := t) (by omega), h]
theorem fk_ls_up {S : fk_S} {f i : Nat} {v : Int32} (h1 : 10 ≠ f) (h2 : 11 ≠ f) (h : fk_ls S) : fk_ls (fk_up S f i v) := fk_ls_of (fk_up_f h1) (fk_up_f h2) h
theorem kk_add_ls {S : fk_S} {t : Nat} {a : Int32} (ht : t < 8) (ha : vp_in a 16) (h : fk_ls S) : fk_ls (kk_add S t a) := by
  unfold kk_add
  split
  · next hc =>
    intro u hu
    obtain ⟨k, hk, hs, hv, hd⟩ := h u hu
    by_cases e : u = t
    · subst e
      have h2 := hc.2
      rw [hs] at h2
      have hlt := (nI_ltI (b := 16) (by omega) (by decide)).mp h2
      have hn := hc.1
      unfold fk_place at hn
      rw [hs, nI_clamp (by omega)] at hn
      have hne := fk_find_none k 0 hn
      have r10 : fk_up (fk_up S 11 (16 * u + (S 10 u).toNatClampNeg) a) 10 u (S 10 u + 1) 10 u = nI (k + 1) := by rw [fk_up_s, hs, nI_1]
      have r11 : ∀ j, fk_up (fk_up S 11 (16 * u + (S 10 u).toNatClampNeg) a) 10 u (S 10 u + 1) 11 (16 * u + j) = if j = k then a else S 11 (16 * u + j) := by
        intro j
        rw [fk_up_f (by decide), hs, nI_clamp (by omega)]
        by_cases ej : j = k
        · subst ej
          rw [fk_up_s, if_pos rfl]
        · rw [fk_up_i (by omega), if_neg ej]
      refine ⟨k + 1, by omega, r10, fun j hj => ?_, fun i j hij hj => ?_⟩
      · rw [r11]
        by_cases ej : j = k
        · rw [if_pos ej]; exact ha
        · rw [if_neg ej]; exact hv j (by omega)
      · rw [r11, r11, if_neg (by omega)]
        by_cases ej : j = k
        · rw [if_pos ej]; exact hne i (by omega) (by omega)
        · rw [if_neg ej]; exact hd i j hij (by omega)
    · have r11 : ∀ j, j < k → fk_up (fk_up S 11 (16 * t + (S 10 t).toNatClampNeg) a) 10 t (S 10 t + 1) 11 (16 * u + j) = S 11 (16 * u + j) := by
        intro j hj
        obtain ⟨k2, hk2, hs2, -, -⟩ := h t ht
        have h2 := hc.2
        rw [hs2] at h2
        have hlt := (nI_ltI (b := 16) (by omega) (by decide)).mp h2
        rw [fk_up_f (by decide), hs2, nI_clamp (by omega), fk_up_i (by omega)]
      refine ⟨k, hk, by rw [fk_up_i e, fk_up_f (by decide), hs], fun j hj => by rw [r11 j hj]; exact hv j hj, fun i j hij hj => by rw [r11 i (by omega), r11 j hj]; exact hd i j hij hj⟩
  · exact h
theorem fk_shift_11 (t : Nat) : ∀ (n k : Nat) (S : fk_S) (j : Nat), fk_shift t n k S 11 j = if 16 * t + k ≤ j ∧ j < 16 * t + k + n then S 11 (j + 1) else S 11 j := by
  intro n
  induction n with
  | zero => intro k S j; rw [if_neg (by omega)]; rfl
  | succ n ih =>
    intro k S j
    simp only [fk_shift]
    rw [ih]
    by_cases h1 : 16 * t + (k + 1) ≤ j ∧ j < 16 * t + (k + 1) + n
    · rw [if_pos h1, if_pos (by omega), fk_up_i (by omega)]
    · rw [if_neg h1]
      by_cases h2 : j = 16 * t + k
      · subst h2
        rw [fk_up_s, if_pos (by omega)]
        rfl
      · rw [fk_up_i h2, if_neg (by omega)]
theorem kk_drop_ls {S : fk_S} {t : Nat} {a : Int32} (ht : t < 8) (h : fk_ls S) : fk_ls (kk_drop S t a) := by
  unfold kk_drop
  split
  · exact h
  · next p hp =>
    intro u hu
    obtain ⟨k, hk, hs, hv, hd⟩ := h u hu
    obtain ⟨k2, hk2, hs2, -, -⟩ := h t ht
    have hpl := fk_place_lt hk2 hs2 hp
    have r11 : ∀ j, fk_up (fk_shift t ((S 10 t).toNatClampNeg - (p + 1)) p S) 10 t (S 10 t - 1) 11 j = if 16 * t + p ≤ j ∧ j < 16 * t + p + (k2 - (p + 1)) then S 11 (j + 1) else S 11 j := by
      intro j
      rw [fk_up_f (by decide), hs2, nI_clamp (by omega), fk_shift_11]
    by_cases e : u = t
    · subst e
      have hkk : k2 = k := by
        have := hs2.symm.trans hs
        exact (nI_eq (by omega) (by omega)).mp this
      subst hkk
      obtain ⟨q, rfl⟩ : ∃ q, k2 = q + 1 := ⟨k2 - 1, by omega⟩
      refine ⟨q, by omega, by rw [fk_up_s, hs, nI_pred], fun j hj => ?_, fun i j hij hj => ?_⟩
      · rw [r11]
        by_cases e1 : 16 * u + p ≤ 16 * u + j ∧ 16 * u + j < 16 * u + p + (q + 1 - (p + 1))
        · rw [if_pos e1]; exact hv (j + 1) (by omega)
        · rw [if_neg e1]; exact hv j (by omega)
      · rw [r11, r11]
        by_cases e1 : 16 * u + p ≤ 16 * u + i ∧ 16 * u + i < 16 * u + p + (q + 1 - (p + 1))
        · rw [if_pos e1, if_pos (by omega)]; exact hd (i + 1) (j + 1) (by omega) (by omega)
        · rw [if_neg e1]
          by_cases e2 : 16 * u + p ≤ 16 * u + j ∧ 16 * u + j < 16 * u + p + (q + 1 - (p + 1))
          · rw [if_pos e2]; exact hd i (j + 1) (by omega) (by omega)
          · rw [if_neg e2]; exact hd i j hij (by omega)
    · have r : ∀ j, j < k → fk_up (fk_shift t ((S 10 t).toNatClampNeg - (p + 1)) p S) 10 t (S 10 t - 1) 11 (16 * u + j) = S 11 (16 * u + j) := by
        intro j hj
        rw [r11, if_neg (by omega)]
      refine ⟨k, hk, by rw [fk_up_i e, fk_shift_10, hs], fun j hj => by rw [r j hj]; exact hv j hj, fun i j hij hj => by rw [r i (by omega), r j hj]; exact hd i j hij hj⟩
theorem mm_pass_ls {S : fk_S} {a : Int32} {b : Bool} (ha : vp_in a 16) (h : fk_ls S) : fk_ls (mm_pass S a b) := by
  unfold mm_pass
  split
  · exact fk_ls_up (by decide) (by decide) h
  · next t ht => exact kk_add_ls (mm_first_lt ht) ha (fk_ls_of (by rw [fk_up_f (by decide), mm_end_10]) (by rw [fk_up_f (by decide), mm_end_11]) h)
def mm_lockR (S : fk_S) (t a : Nat) : Int32 :=
  if mm_own (S 0 a) = -1 then (if S 0 a &&& 1073741824 = 0 then 0 else 1) else if mm_own (S 0 a) = nI t then 3
  else if fk_isT (mm_own (S 0 a)) = true then (if S 1 (mm_own (S 0 a)).toNatClampNeg = 3 then 4 else if mm_dead S t 8 (mm_own (S 0 a)) false = true then 3 else 2) else 4
def mm_lock (S : fk_S) (t a : Nat) (to : Int32) : fk_S :=
  if mm_own (S 0 a) = -1 then kk_add (fk_up S 0 a (mm_word S t (nI a) (S 0 a &&& 1073741824))) t (nI a) else if mm_own (S 0 a) = nI t then S
  else if fk_isT (mm_own (S 0 a)) = true then (if S 1 (mm_own (S 0 a)).toNatClampNeg = 3 then S else if mm_dead S t 8 (mm_own (S 0 a)) false = true then S else mm_wait (fk_up S 0 a (S 0 a ||| (-2147483648))) t (nI a) 2 255 to) else S
def mm_exl (t : Nat) : Nat → Nat → fk_S → Nat × fk_S
  | 0, _, S => (0, S)
  | n + 1, i, S => if mm_own (S 0 (S 11 (16 * t + i)).toNatClampNeg) = nI t then ((mm_exl t n (i + 1) (mm_pass S (S 11 (16 * t + i)) true)).1 + 1, (mm_exl t n (i + 1) (mm_pass S (S 11 (16 * t + i)) true)).2) else mm_exl t n (i + 1) S
theorem kk_add_o {S : fk_S} {t u : Nat} {a : Int32} (h : u ≠ t) (hu : u < 8) (ht : t < 8) (hz : fk_sz S) : (kk_add S t a) 10 u = S 10 u ∧ (∀ j, j < 16 → (kk_add S t a) 11 (16 * u + j) = S 11 (16 * u + j)) ∧ (kk_add S t a) 1 = S 1 := by
  unfold kk_add
  split
  · next hc =>
    obtain ⟨k, hk, hs⟩ := hz t ht
    have h2 := hc.2
    rw [hs] at h2
    have hlt := (nI_ltI (b := 16) (by omega) (by decide)).mp h2
    refine ⟨by rw [fk_up_i h, fk_up_f (by decide)], fun j hj => by rw [fk_up_f (by decide), hs, nI_clamp (by omega), fk_up_i (by omega)], by rw [fk_up_f (by decide), fk_up_f (by decide)]⟩
  · exact ⟨rfl, fun _ _ => rfl, rfl⟩
theorem mm_leave_1 {S : fk_S} {t u : Nat} {w : Int32} (h : u ≠ t) : mm_leave S t w 1 u = S 1 u := by
  unfold mm_leave
  split
  · rw [fk_up_f (by decide), fk_up_i h]
  · rw [fk_up_i h]
theorem mm_end_1 {S : fk_S} {t u : Nat} {r : Int32} (h : u ≠ t) : mm_end S t r 1 u = S 1 u := by
  unfold mm_end kk_fin
  rw [fk_up_f (by decide), fk_up_f (by decide), fk_up_f (by decide), mm_leave_1 h]
theorem mm_pass_none {S : fk_S} {a : Int32} {b : Bool} (h : mm_lk S a = none) : mm_pass S a b = fk_up S 0 a.toNatClampNeg (kk_died b) := by
  unfold mm_pass
  rw [h]
theorem mm_pass_some {S : fk_S} {a : Int32} {b : Bool} {t : Nat} (h : mm_lk S a = some t) : mm_pass S a b = kk_add (fk_up (mm_end S t (if b then 4 else 3)) 0 a.toNatClampNeg (mm_word (mm_end S t (if b then 4 else 3)) t a (kk_died b))) t a := by
  unfold mm_pass
  rw [h]
theorem mm_pass_o {S : fk_S} {a : Int32} {b : Bool} {u : Nat} (hu : u < 8) (h : S 1 u = 3) (hz : fk_ls S) : (mm_pass S a b) 10 u = S 10 u ∧ (∀ j, j < 16 → (mm_pass S a b) 11 (16 * u + j) = S 11 (16 * u + j)) ∧ (mm_pass S a b) 1 u = 3 := by
  cases ht : mm_lk S a with
  | none =>
    rw [mm_pass_none ht]
    refine ⟨by rw [fk_up_f (by decide)], fun j hj => by rw [fk_up_f (by decide)], by rw [fk_up_f (by decide), h]⟩
  | some t =>
    rw [mm_pass_some ht]
    have hs := (mm_first_spec ht).1
    have hne : u ≠ t := fun e => by rw [← e, h] at hs; exact absurd hs (by decide)
    obtain ⟨a1, a2, a3⟩ := kk_add_o (S := fk_up (mm_end S t (if b then 4 else 3)) 0 a.toNatClampNeg (mm_word (mm_end S t (if b then 4 else 3)) t a (kk_died b))) (a := a) hne hu (mm_first_lt ht) (fk_sz_of (by rw [fk_up_f (by decide), mm_end_10]) (fk_ls_sz hz))
    refine ⟨by rw [a1, fk_up_f (by decide), mm_end_10], fun j hj => by rw [a2 j hj, fk_up_f (by decide), mm_end_11], by rw [a3, fk_up_f (by decide), mm_end_1 hne, h]⟩
def mm_exit (S : fk_S) (t : Nat) : fk_S := fk_up (mm_exl t (S 10 t).toNatClampNeg 0 (mm_leave S t 3)).2 10 t 0
def mm_exitR (S : fk_S) (t : Nat) : Int32 := nI (mm_exl t (S 10 t).toNatClampNeg 0 (mm_leave S t 3)).1
def mm_prio (S : fk_S) (t : Nat) (v : Int32) : fk_S := if S 2 t = v then fk_up S 2 t v else if mm_q (fk_up S 2 t v) t = true then kk_join (fk_up S 2 t v) t (S 3 t) else fk_up S 2 t v
/-- the waits that end in this tick, at most n; and that these are all -/
def mm_dueL : Nat → fk_S → Nat × fk_S
  | 0, S => (0, S)
  | n + 1, S => match mm_due S with
    | none => (0, S)
    | some t => ((mm_dueL n (mm_end S t 1)).1 + 1, (mm_dueL n (mm_end S t 1)).2)
def mm_dueT : Nat → fk_S → Prop
  | 0, S => mm_due S = none
  | n + 1, S => match mm_due S with
    | none => True
    | some t => mm_dueT n (mm_end S t 1)
def mm_tk (S : fk_S) : fk_S := fk_up S 12 0 (S 12 0 + 1)
def mm_tickL : Nat → fk_S → Nat × fk_S
  | 0, S => (0, S)
  | n + 1, S => ((mm_dueL 8 (mm_tk S)).1 + (mm_tickL n (mm_dueL 8 (mm_tk S)).2).1, (mm_tickL n (mm_dueL 8 (mm_tk S)).2).2)
def mm_tickT : Nat → fk_S → Prop
  | 0, _ => True
  | n + 1, S => mm_dueT 8 (mm_tk S) ∧ mm_tickT n (mm_dueL 8 (mm_tk S)).2
theorem mm_leave_3 (S : fk_S) (t : Nat) (w : Int32) : mm_leave S t w 3 = S 3 := by
  unfold mm_leave
  split
  · rw [fk_up_f (by decide), fk_up_f (by decide)]
  · rw [fk_up_f (by decide)]
theorem mm_end_3 (S : fk_S) (t : Nat) (r : Int32) : mm_end S t r 3 = S 3 := by
  unfold mm_end kk_fin
  rw [fk_up_f (by decide), fk_up_f (by decide), fk_up_f (by decide), mm_leave_3]
theorem mm_end_1s (S : fk_S) (t : Nat) (r : Int32) : mm_end S t r 1 t = 0 := by
  unfold mm_end kk_fin mm_leave
  rw [fk_up_f (by decide), fk_up_f (by decide), fk_up_f (by decide)]
  split
  · rw [fk_up_f (by decide), fk_up_s]
  · rw [fk_up_s]
theorem mm_end_at {S : fk_S} {t : Nat} {r : Int32} (h : fk_at S) : fk_at (mm_end S t r) := by
  intro u hu h2
  rw [mm_end_3]
  by_cases e : u = t
  · subst e
    rw [mm_end_1s] at h2
    exact absurd h2 (by decide)
  · rw [mm_end_1 e] at h2
    exact h u hu h2
theorem mm_dueL_at : ∀ (n : Nat) (S : fk_S), fk_at S → fk_at (mm_dueL n S).2 := by
  intro n
  induction n with
  | zero => intro S h; exact h
  | succ n ih =>
    intro S h
    simp only [mm_dueL]
    split
    · exact h
    · exact ih _ (mm_end_at h)
def mm_nt1 (S : fk_S) (t : Nat) (x : Int32) : Int32 :=
  if mm_q S t = true then (if 0 < S 5 t then (if S 5 t - S 12 0 = -1 then x else if x = -1 then S 5 t - S 12 0 else if S 5 t - S 12 0 < x then S 5 t - S 12 0 else x) else x) else x
def mm_nextR (S : fk_S) : Int32 := fk_lp (mm_nt1 S) 8 0 (-1)
def mm_bow (S : fk_S) (t : Nat) : Int32 := if S 1 t = 2 then mm_own (S 0 (S 3 t).toNatClampNeg) else -1
def mm_bl1 (S : fk_S) (t : Nat) (x : Int32) : Int32 := x ||| (if fk_isT (mm_bow S t) = true ∧ (x >>> (mm_bow S t &&& 31)) &&& 1 = 1 then 1 <<< (nI t &&& 31) else 0)
def mm_blp (S : fk_S) (x : Int32) : Int32 := fk_lp (mm_bl1 S) 8 0 x
def mm_blo (S : fk_S) : Nat → Int32 → Int32 → Int32
  | 0, x, _ => x
  | n + 1, x, y => if x = y then x else mm_blo S n (mm_blp S x) x
def mm_blt (S : fk_S) : Nat → Int32 → Int32 → Prop
  | 0, x, y => x = y
  | n + 1, x, y => x = y ∨ mm_blt S n (mm_blp S x) x
def mm_bc1 (z : Int32) (t : Nat) (x : Int32) : Int32 := x + ((z >>> (nI t &&& 31)) &&& 1)
def mm_bcn (z : Int32) : Int32 := fk_lp (mm_bc1 z) 8 0 (-1)
