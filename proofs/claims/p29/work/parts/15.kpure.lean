/-! the kernel's public methods, on the numbers of a state -/
def fk_btw (v lo hi : Int32) : Bool := decide (lo ≤ v) && decide (v ≤ hi)
def kk_await (S : fk_S) (t a : Nat) (x mk to : Int32) : fk_S := if S 0 a = x then kk_begin S t 1 (nI a) mk to else S
def kk_requeueR (S : fk_S) (a b : Nat) (x : Int32) (k j : Nat) : Int32 := if S 0 a = x then nI ((kk_wake (nI a) 255 k S).1 + (kk_move (nI a) (nI b) j (kk_wake (nI a) 255 k S).2).1) else -1
def kk_requeue (S : fk_S) (a b : Nat) (x : Int32) (k j : Nat) : fk_S := if S 0 a = x then (kk_move (nI a) (nI b) j (kk_wake (nI a) 255 k S).2).2 else S
def kk_lockR (S : fk_S) (t a : Nat) : Int32 :=
  if S 0 a &&& 255 = 0 then (if S 0 a &&& 1073741824 = 0 then 0 else 1) else match kk_owner S (nI a) with
    | none => 4
    | some o => if S 1 o = 3 then 4 else if o = t then 3 else if kk_held S t 8 (some o) = true then 3 else 2
def kk_lock (S : fk_S) (t a : Nat) (to : Int32) : fk_S :=
  if S 0 a &&& 255 = 0 then kk_give S t (nI a) (S 0 a &&& 1073741824) else match kk_owner S (nI a) with
    | none => S
    | some o => if S 1 o = 3 then S else if o = t then S else if kk_held S t 8 (some o) = true then S else kk_begin (fk_up S 0 a (S 0 a ||| (-2147483648))) t 2 (nI a) 255 to
def kk_unlock (S : fk_S) (t a : Nat) : fk_S := kk_pass (kk_drop S t (nI a)) (nI a) false
def kk_unlockR (S : fk_S) (t a : Nat) : Int32 := fk_oI (kk_lk (kk_drop S t (nI a)) (nI a))
/-- n rounds -/
def kk_bcl (S : fk_S) : Nat → Int32 → Int32
  | 0, x => x
  | n + 1, x => kk_bcl S n (x ||| kk_blk S x)
def kk_exl (t : Nat) : Nat → Nat → fk_S → Nat × fk_S
  | 0, _, S => (0, S)
  | n + 1, i, S => if kk_owner S (kk_addrAt S t (nI i)) = some t then ((kk_exl t n (i + 1) (kk_pass S (kk_addrAt S t (nI i)) true)).1 + 1, (kk_exl t n (i + 1) (kk_pass S (kk_addrAt S t (nI i)) true)).2) else kk_exl t n (i + 1) S
def kk_ex0 (S : fk_S) (t : Nat) : fk_S := fk_up (if kk_q S t = true then kk_leave S t else S) 1 t 3
def kk_exit (S : fk_S) (t : Nat) : fk_S := fk_up (kk_exl t (S 10 t).toNatClampNeg 0 (kk_ex0 S t)).2 10 t 0
def kk_exitR (S : fk_S) (t : Nat) : Int32 := nI (kk_exl t (S 10 t).toNatClampNeg 0 (kk_ex0 S t)).1
def kk_start (S : fk_S) (t : Nat) : fk_S := fk_up (fk_up (fk_up (fk_up S 1 t 0) 2 t 0) 8 t (-1)) 9 t 0
def kk_prio (S : fk_S) (t : Nat) (v : Int32) : fk_S := if v = S 2 t then S else if kk_q (fk_up S 2 t v) t = true then kk_join (fk_up S 2 t v) t (S 3 t) else fk_up S 2 t v
def kk_tickL (e : Int32) : Nat → fk_S → Nat × fk_S
  | 0, S => (0, S)
  | n + 1, S => match kk_next S with
    | none => (0, S)
    | some t => if S 5 t ≤ e then ((kk_tickL e n (kk_end S t 1)).1 + 1, (kk_tickL e n (kk_end S t 1)).2) else (0, S)
def kk_tick (S : fk_S) (v : Int32) : fk_S := fk_up (kk_tickL (S 12 0 + v) 8 S).2 12 0 (S 12 0 + v)
def kk_tickR (S : fk_S) (v : Int32) : Int32 := nI (kk_tickL (S 12 0 + v) 8 S).1
def kk_nextR (S : fk_S) : Int32 := match kk_next S with
  | none => -1
  | some t => S 5 t - S 12 0
def kk_waiters (S : fk_S) (a : Int32) : Int32 := fk_lp (kk_cnt1 (fun u => decide (S 3 u = a))) 8 0 0
/-- the first that has the property -/
def fk_seek (p : Nat → Bool) : Nat → Nat → Option Nat
  | 0, _ => none
  | n + 1, i => if p i = true then some i else fk_seek p n (i + 1)
def kk_wAt (S : fk_S) (a q : Int32) : Option Nat := fk_seek (fun u => decide (S 3 u = a) && decide (kk_cntA S u = q)) 8 0
def kk_qAt (S : fk_S) (b q : Int32) : Option Nat := fk_seek (fun u => kk_q S u && decide (fk_bkt (S 3 u) = b) && decide (kk_cntB S u = q)) 8 0
theorem fk_seek_spec {p : Nat → Bool} : ∀ (n i : Nat) {u : Nat}, fk_seek p n i = some u → i ≤ u ∧ u < i + n ∧ p u = true := by
  intro n
  induction n with
  | zero => intro i u h; cases h
  | succ n ih =>
    intro i u h
    simp only [fk_seek] at h
    by_cases e : p i = true
    · rw [if_pos e] at h
      cases h
      exact ⟨Nat.le_refl _, by omega, e⟩
    · rw [if_neg e] at h
      have := ih (i + 1) h
      exact ⟨by omega, by omega, this.2.2⟩
theorem kk_add_sz {S : fk_S} {t : Nat} {a : Int32} (h : fk_sz S) : fk_sz (kk_add S t a) := by
  unfold kk_add
  split
  · next hc =>
    intro u hu
    obtain ⟨k, hk, e⟩ := h u hu
    by_cases ht : u = t
    · subst ht
      refine ⟨k + 1, ?_, ?_⟩
      · have h2 := hc.2
        rw [e] at h2
        have := (nI_ltI (b := 16) (by omega) (by decide)).mp h2
        omega
      · rw [fk_up_s, e, nI_1]
    · refine ⟨k, hk, ?_⟩
      rw [fk_up_i ht, fk_up_f (by decide), e]
  · exact h
theorem kk_give_sz {S : fk_S} {t : Nat} {a d : Int32} (h : fk_sz S) : fk_sz (kk_give S t a d) := by
  unfold kk_give
  split
  · exact kk_add_sz (fk_sz_of (fk_up_10 (by decide)) h)
  · exact h
theorem kk_pass_sz {S : fk_S} {a : Int32} {b : Bool} (h : fk_sz S) : fk_sz (kk_pass S a b) := by
  unfold kk_pass
  split
  · split
    · exact fk_sz_of (fk_up_10 (by decide)) h
    · exact h
  · exact kk_give_sz (fk_sz_of (kk_end_10 _ _ _) h)
theorem fk_shift_10 (t : Nat) : ∀ (n k : Nat) (S : fk_S), fk_shift t n k S 10 = S 10 := by
  intro n
  induction n with
  | zero => intro k S; rfl
  | succ n ih => intro k S; simp only [fk_shift]; rw [ih, fk_up_f (by decide)]
theorem kk_drop_sz {S : fk_S} {t : Nat} {a : Int32} (ht : t < 8) (h : fk_sz S) : fk_sz (kk_drop S t a) := by
  unfold kk_drop
  split
  · exact h
  · next p hp =>
    intro u hu
    obtain ⟨k, hk, e⟩ := h u hu
    by_cases e9 : u = t
    · subst e9
      have hl := fk_place_lt hk e hp
      refine ⟨k - 1, by omega, ?_⟩
      rw [fk_up_s, e]
      obtain ⟨q, rfl⟩ : ∃ q, k = q + 1 := ⟨k - 1, by omega⟩
      rw [nI_pred]
      rfl
    · exact ⟨k, hk, by rw [fk_up_i e9, fk_shift_10, e]⟩
theorem kk_ex0_sz {S : fk_S} {t : Nat} (h : fk_sz S) : fk_sz (kk_ex0 S t) := by
  unfold kk_ex0
  refine fk_sz_of (fk_up_10 (by decide)) ?_
  split
  · exact fk_sz_of (kk_leave_10 _ _) h
  · exact h
theorem kk_exl_sz {t : Nat} : ∀ (n i : Nat) (S : fk_S), fk_sz S → fk_sz (kk_exl t n i S).2 := by
  intro n
  induction n with
  | zero => intro i S h; exact h
  | succ n ih =>
    intro i S h
    simp only [kk_exl]
    split
    · exact ih _ _ (kk_pass_sz h)
    · exact ih _ _ h
