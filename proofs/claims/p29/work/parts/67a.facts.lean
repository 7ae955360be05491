/-! lock -/
theorem pl_bit30 (w : Int32) : (w &&& 1073741824 = 0 ∧ (w >>> (30 &&& 31)) &&& 1 = 0) ∨ (w &&& 1073741824 = 1073741824 ∧ (w >>> (30 &&& 31)) &&& 1 = 1) := by
  have e1 : (w &&& 1073741824).toBitVec = w.toBitVec &&& BitVec.twoPow 32 30 := rfl
  have e2 : ((w >>> (30 &&& 31)) &&& 1).toBitVec = (w.toBitVec.sshiftRight 30) &&& 1#32 := rfl
  rw [BitVec.and_twoPow] at e1
  rw [BitVec.and_one_eq_setWidth_ofBool_getLsbD, BitVec.getLsbD_sshiftRight] at e2
  cases hb : w.toBitVec.getLsbD 30 with
  | false =>
    refine Or.inl ⟨Int32.toBitVec_inj.mp ?_, Int32.toBitVec_inj.mp ?_⟩
    · rw [e1, hb]; rfl
    · rw [e2, if_pos (show 30 + 0 < 32 by decide), Nat.add_zero, hb]; rfl
  | true =>
    refine Or.inr ⟨Int32.toBitVec_inj.mp ?_, Int32.toBitVec_inj.mp ?_⟩
    · rw [e1, hb]; rfl
    · rw [e2, if_pos (show 30 + 0 < 32 by decide), Nat.add_zero, hb]; rfl
theorem pl_wd {t : Nat} (ht : t < 8) : (nI (t + 1)) + ((0 : Int32) <<< (30 &&& 31)) = nI (t + 1) ||| 0 ∧ (nI (t + 1)) + ((1 : Int32) <<< (30 &&& 31)) = nI (t + 1) ||| 1073741824 := by
  have : ∀ t, t < 8 → (nI (t + 1)) + ((0 : Int32) <<< (30 &&& 31)) = nI (t + 1) ||| 0 ∧ (nI (t + 1)) + ((1 : Int32) <<< (30 &&& 31)) = nI (t + 1) ||| 1073741824 := by decide +kernel
  exact this t ht
theorem pl_own_cases (w : Int32) : (pl_own w = -1 ∧ w &&& 255 = 0) ∨ (∃ o, o < 8 ∧ pl_own w = nI o ∧ ¬ w &&& 255 = 0) ∨ (∃ o, 8 ≤ o ∧ o < 256 ∧ pl_own w = nI o ∧ ¬ w &&& 255 = 0) := by
  obtain ⟨j, hj, e⟩ := pk_andE w (m := 255) 8 rfl
  unfold pl_own
  rw [e]
  rcases Nat.eq_zero_or_pos j with e0 | e0
  · subst e0
    exact Or.inl ⟨rfl, rfl⟩
  · obtain ⟨q, rfl⟩ : ∃ q, j = q + 1 := ⟨j - 1, by omega⟩
    rw [nI_pred]
    by_cases c : q < 8
    · exact Or.inr (Or.inl ⟨q, c, rfl, nI_ne0 (by omega) (by omega)⟩)
    · exact Or.inr (Or.inr ⟨q, by omega, by omega, rfl, nI_ne0 (by omega) (by omega)⟩)
section
variable {n : Nat} {S S' : fk_S} {P P' : Nat → Int32} {u t a v o : Nat}
theorem kk_lock_give (h : S 0 a &&& 255 = 0) (to : Int32) : kk_lockR S t a = (if S 0 a &&& 1073741824 = 0 then 0 else 1) ∧ kk_lock S t a to = kk_give S t (nI a) (S 0 a &&& 1073741824) := by
  unfold kk_lockR kk_lock
  rw [if_pos h, if_pos h]
  exact ⟨rfl, rfl⟩
theorem kk_lock_none (ha : a < 16) (h : ¬ S 0 a &&& 255 = 0) (ho : 8 ≤ o) (ho2 : o < 256) (e : pl_own (S 0 a) = nI o) (to : Int32) : kk_lockR S t a = 4 ∧ kk_lock S t a to = S := by
  have hn : kk_owner S (nI a) = none := by
    rw [kk_owner_eq S ha, if_neg]
    intro c
    obtain ⟨u, hu, eu⟩ := fk_isT_of c
    rw [e] at eu
    have := (nI_eq (by omega) (by omega)).mp eu
    omega
  unfold kk_lockR kk_lock
  rw [if_neg h, if_neg h, hn]
  exact ⟨rfl, rfl⟩
theorem kk_lock_own (ha : a < 16) (h : ¬ S 0 a &&& 255 = 0) (ho : o < 8) (e : pl_own (S 0 a) = nI o) (to : Int32) : kk_lockR S t a = (if S 1 o = 3 then 4 else if o = t then 3 else if kk_held S t 8 (some o) = true then 3 else 2) ∧
    kk_lock S t a to = (if S 1 o = 3 then S else if o = t then S else if kk_held S t 8 (some o) = true then S else kk_begin (fk_up S 0 a (S 0 a ||| (-2147483648))) t 2 (nI a) 255 to) := by
  have hn : kk_owner S (nI a) = some o := (kk_owner_own S ha ho).mpr e
  unfold kk_lockR kk_lock
  rw [if_neg h, if_neg h, hn]
  exact ⟨rfl, rfl⟩
/-- a free lock is taken -/
theorem kq_give (hG : kq_G n S P) (ht : t < 8) (ha : a < 16) (d : Int32) (hs0 : S 1 t = 0) : kq_G n (kk_give S t (nI a) d) P ∧ pl_thr (kk_give S t (nI a) d) (nI t) = pl_thr S (nI t) ∧ kk_give S t (nI a) d 1 t = 0 ∧
    kk_give S t (nI a) d 0 a = (nI (t + 1) ||| d) ||| (if (kq_lk S a) = [] then 0 else -2147483648) ∧
    ∃ k k1 j, S 10 t = nI k ∧ k ≤ 16 ∧ kk_give S t (nI a) d 10 t = nI k1 ∧ k1 ≤ 16 ∧ j < k1 ∧ kk_addrAt (kk_give S t (nI a) d) t (nI j) = nI a ∧ (k1 = k ∨ (k1 = k + 1 ∧ kk_addrAt (kk_give S t (nI a) d) t (nI k) = nI a)) := by
  obtain ⟨hI, hDd⟩ := id hG
  have hX : vp_in (nI a) 16 := vp_in_nI ha (by decide)
  have hI1 := hI.give ht hX d
  have hD1 : kq_D (kk_give S t (nI a) d) := by
    intro w hw e
    rw [kk_give_g (by decide) (by decide) (by decide)] at e
    have hne : w ≠ t := fun z => by rw [z, hs0] at e; exact absurd e (by decide)
    rw [(kk_give_o (x := nI a) (d := d) hne hw ht hI.sz).1 10 (by decide) (by decide)]
    exact hDd w hw e
  have hO : kq_Off S (kk_give S t (nI a) d) (nI t) := by
    refine ⟨congrFun (kk_give_g (by decide) (by decide) (by decide)) 0, fun w hw hn => ?_⟩
    obtain ⟨g1, g2⟩ := kk_give_o (x := nI a) (d := d) (show w ≠ t from fun z => hn (by rw [z])) hw ht hI.sz
    exact ⟨fun f hf => g1 f (by omega) (by omega), g2⟩
  refine ⟨⟨hI1, hD1⟩, hI.thr hI1 hO, by rw [kk_give_g (by decide) (by decide) (by decide)]; exact hs0, ?_, ?_⟩
  · unfold kk_give
    rw [if_pos (fk_isA_nI ha), kk_add_f 0 (by decide) (by decide), nI_clamp (by omega), fk_up_s]
    unfold kk_word
    rw [kk_lk_eq hI ha]
    cases hl : kq_lk S a with
    | nil => rw [if_pos (show ([] : List Nat).head? = none from rfl), if_pos rfl]
    | cons w l => rw [if_neg (by simp), if_neg (by simp)]
  · obtain ⟨k, hk, hs, hv, hd⟩ := hI.1 t ht
    have e1 : kk_give S t (nI a) d = kk_add (fk_up S 0 a (kk_word S t (nI a) d)) t (nI a) := by
      unfold kk_give
      rw [if_pos (fk_isA_nI ha), nI_clamp (by omega)]
    rw [e1]
    have hS10 : fk_up S 0 a (kk_word S t (nI a) d) 10 t = nI k := by rw [fk_up_f (by decide)]; exact hs
    have hS11 : fk_up S 0 a (kk_word S t (nI a) d) 11 = S 11 := fk_up_f (by decide)
    generalize fk_up S 0 a (kk_word S t (nI a) d) = Z at hS10 hS11 ⊢
    cases hp : fk_place Z t (nI a) with
    | none =>
      have hlt := fk_ls_room hk hS10 (by rw [hS11]; exact hv) (by rw [hS11]; exact hd) hX hp
      have e2 : kk_add Z t (nI a) = fk_up (fk_up Z 11 (16 * t + (Z 10 t).toNatClampNeg) (nI a)) 10 t (Z 10 t + 1) := by
        unfold kk_add
        rw [if_pos ⟨hp, by rw [hS10]; exact nI_lt (b := 16) hlt (by decide)⟩]
      rw [e2]
      have r10 : fk_up (fk_up Z 11 (16 * t + (Z 10 t).toNatClampNeg) (nI a)) 10 t (Z 10 t + 1) 10 t = nI (k + 1) := by rw [fk_up_s, hS10, nI_1]
      have r11 : kk_addrAt (fk_up (fk_up Z 11 (16 * t + (Z 10 t).toNatClampNeg) (nI a)) 10 t (Z 10 t + 1)) t (nI k) = nI a := by
        rw [kk_addrAt_N r10 (by omega) (by omega), fk_up_f (by decide), hS10, nI_clamp (by omega), fk_up_s]
      exact ⟨k, k + 1, k, hs, hk, r10, by omega, by omega, r11, Or.inr ⟨rfl, r11⟩⟩
    | some p =>
      have hpl := fk_place_lt hk hS10 hp
      have e2 : kk_add Z t (nI a) = Z := by
        unfold kk_add
        rw [if_neg (fun z => by rw [hp] at z; cases z.1)]
      rw [e2]
      exact ⟨k, k, p, hs, hk, hS10, hk, hpl, by rw [kk_addrAt_N hS10 hk hpl]; exact fk_find_spec _ _ hp, Or.inl rfl⟩
/-- a lock is waited for -/
theorem kq_G.wait (h : kq_G n S P) (ht : t < 8) (hn : n < 2 ^ 17) (hr : S 1 t = 0) (ha : a < 16) (w : Int32) {to : Int32} (hto : fk_btw to 0 10000 = true) : kq_G (n + 1) (kk_begin (fk_up S 0 a w) t 2 (nI a) 255 to) (upd P (8 + t) 255) :=
  (h.word a w).begin ht hn (by rw [fk_up_f (by decide)]; exact hr) ha (Or.inr ⟨rfl, rfl⟩) hto
/-! who is held up blocks somebody -/
theorem kk_held_blocks : ∀ (m : Nat) (x : Option Nat), (∀ w, x = some w → w < 8) → kk_held S t m x = true → ∃ w, w < 8 ∧ S 1 w = 2 ∧ kk_owner S (S 3 w) = some t := by
  intro m
  induction m with
  | zero => intro x _ h; cases x <;> cases h
  | succ m ih =>
    intro x hx h
    cases x with
    | none => cases h
    | some w =>
      simp only [kk_held] at h
      by_cases c : S 1 w = 2
      · rw [if_pos c] at h
        by_cases c2 : kk_owner S (S 3 w) = some t
        · exact ⟨w, hx w rfl, c, c2⟩
        · rw [if_neg c2] at h
          exact ih _ (fun z hz => kk_owner_lt hz) h
      · rw [if_neg c] at h
        cases h
theorem fk_or8 {k m : Nat} (hk : k < 256) (hm : m < 256) : nI k ||| nI m = nI (k ||| m) := by
  have h9 : k ||| m < 2 ^ 8 := Nat.or_lt_two_pow hk hm
  apply Int32.toBitVec_inj.mp
  apply BitVec.eq_of_toNat_eq
  rw [Int32.toBitVec_or, BitVec.toNat_or, pk_tn (by omega), pk_tn (by omega), pk_tn (by omega)]
theorem fk_bitN {t : Nat} (h : t < 8) : kk_bit t = nI (2 ^ t) := by
  have : ∀ t, t < 8 → kk_bit t = nI (2 ^ t) := by decide +kernel
  exact this t h
theorem fk_pow8 {t : Nat} (h : t < 8) : 2 ^ t < 256 := Nat.pow_lt_pow_right (by decide) h
/-- a step of the search keeps a set of threads, and what is in it -/
theorem kk_blk1_keep {bl : Int32} {i w k : Nat} (hi : i < 8) (hk : k < 256) (hw : k.testBit w = true) : ∃ k', k' < 256 ∧ kk_blk1 S bl i (nI k) = nI k' ∧ k'.testBit w = true := by
  have same : ∃ k', k' < 256 ∧ nI k = nI k' ∧ k'.testBit w = true := ⟨k, hk, rfl, hw⟩
  unfold kk_blk1
  by_cases c : S 1 i = 2
  · rw [if_pos c]
    cases kk_owner S (S 3 i) with
    | none => exact same
    | some u =>
      show ∃ k', k' < 256 ∧ (if kk_bit u &&& bl = 0 then nI k else nI k ||| kk_bit i) = nI k' ∧ k'.testBit w = true
      by_cases c2 : kk_bit u &&& bl = 0
      · rw [if_pos c2]; exact same
      · rw [if_neg c2, fk_bitN hi, fk_or8 hk (fk_pow8 hi)]
        exact ⟨_, Nat.or_lt_two_pow (n := 8) hk (fk_pow8 hi), rfl, by rw [Nat.testBit_or, hw]; rfl⟩
  · rw [if_neg c]; exact same
theorem kk_blk1_ok {bl : Int32} {i k : Nat} (hi : i < 8) (hk : k < 256) : ∃ k', k' < 256 ∧ kk_blk1 S bl i (nI k) = nI k' := by
  unfold kk_blk1
  by_cases c : S 1 i = 2
  · rw [if_pos c]
    cases kk_owner S (S 3 i) with
    | none => exact ⟨k, hk, rfl⟩
    | some u =>
      show ∃ k', k' < 256 ∧ (if kk_bit u &&& bl = 0 then nI k else nI k ||| kk_bit i) = nI k'
      by_cases c2 : kk_bit u &&& bl = 0
      · rw [if_pos c2]; exact ⟨k, hk, rfl⟩
      · rw [if_neg c2, fk_bitN hi, fk_or8 hk (fk_pow8 hi)]
        exact ⟨_, Nat.or_lt_two_pow (n := 8) hk (fk_pow8 hi), rfl⟩
  · rw [if_neg c]; exact ⟨k, hk, rfl⟩
theorem kk_blk_ok (bl : Int32) : ∃ k, k < 256 ∧ kk_blk S bl = nI k :=
  fk_lp_inv (b := kk_blk1 S bl) (fun x => ∃ k, k < 256 ∧ x = nI k) 8 (fun i x hi ⟨k, hk, e⟩ => by rw [e]; exact kk_blk1_ok hi hk) 8 0 0 rfl ⟨0, by decide, rfl⟩
theorem kk_blk_has {bl : Int32} {w u : Nat} (hw : w < 8) (c : S 1 w = 2) (e : kk_owner S (S 3 w) = some u) (hu : ¬ kk_bit u &&& bl = 0) : ∃ k, k < 256 ∧ kk_blk S bl = nI k ∧ k.testBit w = true := by
  have key : ∀ n i x, i + n = 8 → (∃ k, k < 256 ∧ x = nI k ∧ (w < i → k.testBit w = true)) → ∃ k, k < 256 ∧ fk_lp (kk_blk1 S bl) n i x = nI k ∧ (w < i + n → k.testBit w = true) := by
    intro n
    induction n with
    | zero => intro i x _ h; exact h
    | succ n ih =>
      intro i x hi ⟨k, hk, ex, hb⟩
      show ∃ k, k < 256 ∧ fk_lp (kk_blk1 S bl) n (i + 1) (kk_blk1 S bl i x) = nI k ∧ _
      rw [show i + (n + 1) = i + 1 + n by omega]
      refine ih (i + 1) _ (by omega) ?_
      rw [ex]
      rcases Nat.lt_trichotomy w i with h9 | h9 | h9
      · obtain ⟨k', a1, a2, a3⟩ := kk_blk1_keep (S := S) (bl := bl) (i := i) (by omega) hk (hb h9)
        exact ⟨k', a1, a2, fun _ => a3⟩
      · refine ⟨k ||| 2 ^ i, Nat.or_lt_two_pow (n := 8) hk (fk_pow8 (by omega)), ?_, fun _ => ?_⟩
        · unfold kk_blk1
          rw [← h9, if_pos c, e]
          show (if kk_bit u &&& bl = 0 then nI k else nI k ||| kk_bit w) = _
          rw [if_neg hu, fk_bitN hw, fk_or8 hk (fk_pow8 hw)]
        · rw [Nat.testBit_or, h9, Nat.testBit_two_pow_self, Bool.or_true]
      · obtain ⟨k', a1, a2⟩ := kk_blk1_ok (S := S) (bl := bl) (i := i) (by omega) hk
        exact ⟨k', a1, a2, fun z => absurd z (by omega)⟩
  obtain ⟨k, a1, a2, a3⟩ := key 8 0 0 rfl ⟨0, by decide, rfl, fun z => absurd z (by omega)⟩
  exact ⟨k, a1, a2, a3 (by omega)⟩
theorem kk_bcl_has {w v : Nat} : ∀ (m k : Nat), k < 256 → k.testBit w = true → k.testBit v = true → ∃ k', k' < 256 ∧ kk_bcl S m (nI k) = nI k' ∧ k'.testBit w = true ∧ k'.testBit v = true := by
  intro m
  induction m with
  | zero => intro k hk h1 h2; exact ⟨k, hk, rfl, h1, h2⟩
  | succ m ih =>
    intro k hk h1 h2
    obtain ⟨b, hb, eb⟩ := kk_blk_ok (S := S) (nI k)
    simp only [kk_bcl]
    rw [eb, fk_or8 hk hb]
    exact ih _ (Nat.or_lt_two_pow (n := 8) hk hb) (by rw [Nat.testBit_or, h1]; rfl) (by rw [Nat.testBit_or, h2]; rfl)
theorem fk_bc_pos {k : Nat} (hk : k < 256) : 0 < fk_bc (nI k) - 1 ∨ k = 0 ∨ ∃ t, t < 8 ∧ k = 2 ^ t := by
  have : ∀ k, k < 256 → (0 < fk_bc (nI k) - 1 ∨ k = 0 ∨ k = 2 ^ 0 ∨ k = 2 ^ 1 ∨ k = 2 ^ 2 ∨ k = 2 ^ 3 ∨ k = 2 ^ 4 ∨ k = 2 ^ 5 ∨ k = 2 ^ 6 ∨ k = 2 ^ 7) := by decide +kernel
  rcases this k hk with h | h | h | h | h | h | h | h | h | h
  · exact Or.inl h
  · exact Or.inr (Or.inl h)
  · exact Or.inr (Or.inr ⟨0, by decide, h⟩)
  · exact Or.inr (Or.inr ⟨1, by decide, h⟩)
  · exact Or.inr (Or.inr ⟨2, by decide, h⟩)
  · exact Or.inr (Or.inr ⟨3, by decide, h⟩)
  · exact Or.inr (Or.inr ⟨4, by decide, h⟩)
  · exact Or.inr (Or.inr ⟨5, by decide, h⟩)
  · exact Or.inr (Or.inr ⟨6, by decide, h⟩)
  · exact Or.inr (Or.inr ⟨7, by decide, h⟩)
theorem kk_blocked_pos (ht : t < 8) (h1 : ¬ S 1 t = 2) (ho : o < 8) (h : kk_held S t 8 (some o) = true) : 0 < fk_bc (kk_bcl S 8 (kk_bit t)) - 1 := by
  obtain ⟨w, hw, c, e⟩ := kk_held_blocks 8 (some o) (fun z hz => by cases hz; exact ho) h
  have hne : w ≠ t := fun z => h1 (by rw [← z]; exact c)
  have hbit : ¬ kk_bit t &&& kk_bit t = 0 := by
    have : ∀ t, t < 8 → ¬ kk_bit t &&& kk_bit t = 0 := by decide +kernel
    exact this t ht
  obtain ⟨b, b1, b2, b3⟩ := kk_blk_has hw c e hbit
  have e1 : kk_bcl S 8 (kk_bit t) = kk_bcl S 7 (nI (2 ^ t ||| b)) := by
    show kk_bcl S 7 (kk_bit t ||| kk_blk S (kk_bit t)) = _
    rw [b2, fk_bitN ht, fk_or8 (fk_pow8 ht) b1]
  obtain ⟨k, k1, k2, k3, k4⟩ := kk_bcl_has (S := S) (w := w) (v := t) 7 (2 ^ t ||| b) (Nat.or_lt_two_pow (n := 8) (fk_pow8 ht) b1) (by rw [Nat.testBit_or, b3, Bool.or_true]) (by rw [Nat.testBit_or, Nat.testBit_two_pow_self]; rfl)
  rw [e1, k2]
  rcases fk_bc_pos k1 with g | g | ⟨z, hz, g⟩
  · exact g
  · rw [g] at k3
    simp at k3
  · rw [g, Nat.testBit_two_pow, decide_eq_true_eq] at k3 k4
    exact absurd (k3.symm.trans k4) hne
end
