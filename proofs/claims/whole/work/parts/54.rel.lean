/-! who is blocked: sets of threads as numbers below 256 -/
theorem fk_or {k m : Nat} (hk : k < 256) (hm : m < 256) : nI k ||| nI m = nI (k ||| m) := by
  have h9 : k ||| m < 2 ^ 8 := Nat.or_lt_two_pow hk hm
  apply Int32.toBitVec_inj.mp
  apply BitVec.eq_of_toNat_eq
  rw [Int32.toBitVec_or, BitVec.toNat_or, pk_tn (by omega), pk_tn (by omega), pk_tn (by omega)]
theorem fk_bitN {t : Nat} (h : t < 8) : kk_bit t = nI (2 ^ t) := by
  have : ∀ t, t < 8 → kk_bit t = nI (2 ^ t) := by decide +kernel
  exact this t h
theorem fk_bitM {t : Nat} (h : t < 8) : (1 : Int32) <<< (nI t &&& 31) = nI (2 ^ t) := fk_bitN h
theorem fk_pow8 {t : Nat} (h : t < 8) : 2 ^ t < 256 := Nat.pow_lt_pow_right (by decide) h
theorem fk_has1 {u k : Nat} (hu : u < 8) (hk : k < 256) : (kk_bit u &&& nI k = 0) ↔ k.testBit u = false := by
  have : ∀ u, u < 8 → ∀ k, k < 256 → decide (kk_bit u &&& nI k = 0) = !k.testBit u := by decide +kernel
  have := this u hu k hk
  cases hb : k.testBit u
  · rw [hb] at this; exact ⟨fun _ => rfl, fun _ => by simpa using this⟩
  · rw [hb] at this; exact ⟨fun z => absurd z (by simpa using this), fun z => by cases z⟩
theorem fk_has2 {u k : Nat} (hu : u < 8) (hk : k < 256) : ((nI k >>> (nI u &&& 31)) &&& 1 = 1) ↔ k.testBit u = true := by
  have : ∀ u, u < 8 → ∀ k, k < 256 → decide ((nI k >>> (nI u &&& 31)) &&& 1 = 1) = k.testBit u := by decide +kernel
  have := this u hu k hk
  cases hb : k.testBit u
  · rw [hb] at this; exact ⟨fun z => absurd z (by simpa using this), fun z => by cases z⟩
  · rw [hb] at this; exact ⟨fun _ => rfl, fun _ => by simpa using this⟩
theorem fk_bcE {k : Nat} (hk : k < 256) : fk_bc (nI k) - 1 = mm_bcn (nI k) := by
  have : ∀ k, k < 256 → fk_bc (nI k) - 1 = mm_bcn (nI k) := by decide +kernel
  exact this k hk
def fk_jac1 (o : Nat → Option Nat) (k : Nat) (t : Nat) (x : Nat) : Nat := match o t with
  | none => x
  | some u => if k.testBit u = true then x ||| 2 ^ t else x
def fk_jac (o : Nat → Option Nat) (k : Nat) : Nat := fk_lp (fk_jac1 o k) 8 0 0
def fk_gs1 (o : Nat → Option Nat) (t : Nat) (x : Nat) : Nat := match o t with
  | none => x
  | some u => if x.testBit u = true then x ||| 2 ^ t else x
def fk_gs (o : Nat → Option Nat) (k : Nat) : Nat := fk_lp (fk_gs1 o) 8 0 k
/-- whom a thread waits for -/
def mm_wf (M : fk_S) (t : Nat) : Option Nat := if M 1 t = 2 ∧ fk_isT (mm_own (M 0 (M 3 t).toNatClampNeg)) = true then some (mm_own (M 0 (M 3 t).toNatClampNeg)).toNatClampNeg else none
theorem mm_wf_lt {M : fk_S} {t u : Nat} (h : mm_wf M t = some u) : u < 8 := by
  unfold mm_wf at h
  split at h
  · next c =>
    cases h
    obtain ⟨u, hu, e⟩ := fk_isT_of c.2
    rw [e, nI_clamp (by omega)]
    exact hu
  · cases h
theorem fk_jac1_lt {o : Nat → Option Nat} {k t x : Nat} (ht : t < 8) (hx : x < 256) : fk_jac1 o k t x < 256 := by
  unfold fk_jac1
  split
  · exact hx
  · split
    · exact Nat.or_lt_two_pow (n := 8) hx (fk_pow8 ht)
    · exact hx
theorem fk_gs1_lt {o : Nat → Option Nat} {t x : Nat} (ht : t < 8) (hx : x < 256) : fk_gs1 o t x < 256 := by
  unfold fk_gs1
  split
  · exact hx
  · split
    · exact Nat.or_lt_two_pow (n := 8) hx (fk_pow8 ht)
    · exact hx
theorem fk_jac_lt {o : Nat → Option Nat} {k : Nat} : fk_jac o k < 256 := fk_lp_inv (fun x => x < 256) 8 (fun _ _ hi hx => fk_jac1_lt hi hx) 8 0 0 rfl (by decide)
theorem fk_gs_lt {o : Nat → Option Nat} {k : Nat} (hk : k < 256) : fk_gs o k < 256 := fk_lp_inv (fun x => x < 256) 8 (fun _ _ hi hx => fk_gs1_lt hi hx) 8 0 k rfl hk
theorem kk_blk_k {a b : Nat} {M : fk_S} (h : fk_I a b M) {k : Nat} (hk : k < 256) : kk_blk (fk_kOf M) (nI k) = nI (fk_jac (mm_wf M) k) := by
  have rel := fk_lp_rel (f := kk_blk1 (fk_kOf M) (nI k)) (g := fk_jac1 (mm_wf M) k) (fun _ x y => y < 256 ∧ x = nI y) 8 (by
    intro i x y hi hr
    obtain ⟨hy, rfl⟩ := hr
    refine ⟨fk_jac1_lt hi hy, ?_⟩
    unfold kk_blk1 fk_jac1 mm_wf
    rw [fk_kf (f := 1) (i := i) (by decide) (by decide) (by omega)]
    by_cases c : M 1 i = 2
    · have hq : mm_q M i = true := by unfold mm_q; rw [c]; rfl
      have hx := h.2.1 i hi hq
      rw [if_pos c, fk_k3 hq, kk_owner_k M hx]
      by_cases c2 : fk_isT (mm_own (M 0 (M 3 i).toNatClampNeg)) = true
      · rw [if_pos c2, if_pos ⟨c, c2⟩]
        obtain ⟨u, hu, e⟩ := fk_isT_of c2
        rw [e, nI_clamp (by omega)]
        simp only
        by_cases c3 : k.testBit u = true
        · rw [if_pos c3, if_neg (fun z => by rw [(fk_has1 hu hk).mp z] at c3; cases c3), fk_bitN hi, fk_or hy (fk_pow8 hi)]
        · rw [if_neg c3, if_pos ((fk_has1 hu hk).mpr (eq_false_of_ne_true c3))]
      · rw [if_neg c2, if_neg (fun z => c2 z.2)]
    · rw [if_neg c, if_neg (fun z => c z.1)]) 8 0 0 0 rfl ⟨by decide, rfl⟩
  exact rel.2
theorem mm_blp_k {M : fk_S} {k : Nat} (hk : k < 256) : mm_blp M (nI k) = nI (fk_gs (mm_wf M) k) := by
  have rel := fk_lp_rel (f := mm_bl1 M) (g := fk_gs1 (mm_wf M)) (fun _ x y => y < 256 ∧ x = nI y) 8 (by
    intro i x y hi hr
    obtain ⟨hy, rfl⟩ := hr
    refine ⟨fk_gs1_lt hi hy, ?_⟩
    have or0 : nI y ||| 0 = nI y := by rw [show (0 : Int32) = nI 0 from rfl, fk_or hy (by decide), Nat.or_zero]
    unfold mm_bl1 fk_gs1 mm_wf mm_bow
    by_cases c : M 1 i = 2
    · rw [if_pos c]
      by_cases c2 : fk_isT (mm_own (M 0 (M 3 i).toNatClampNeg)) = true
      · rw [if_pos (show M 1 i = 2 ∧ fk_isT (mm_own (M 0 (M 3 i).toNatClampNeg)) = true from ⟨c, c2⟩)]
        obtain ⟨u, hu, e⟩ := fk_isT_of c2
        rw [e, nI_clamp (by omega)]
        try simp only
        by_cases c3 : y.testBit u = true
        · rw [if_pos c3, if_pos ⟨fk_isT_nI hu, (fk_has2 hu hy).mpr c3⟩, fk_bitM hi, fk_or hy (fk_pow8 hi)]
        · rw [if_neg c3, if_neg (fun z => c3 ((fk_has2 hu hy).mp z.2)), or0]
      · rw [if_neg (fun z => c2 z.1), if_neg (fun z => c2 z.2), or0]
    · rw [if_neg c, if_neg (fun z => absurd z.1 (by decide)), if_neg (fun z => c z.1), or0]) 8 0 _ k rfl ⟨hk, rfl⟩
  exact rel.2
def fk_sub (x y : Nat) : Prop := ∀ u, u < 8 → x.testBit u = true → y.testBit u = true
def fk_clo (o : Nat → Option Nat) (c : Nat) : Prop := ∀ t u, t < 8 → o t = some u → c.testBit u = true → c.testBit t = true
theorem fk_sub_ext {x y : Nat} (hx : x < 256) (hy : y < 256) (h1 : fk_sub x y) (h2 : fk_sub y x) : x = y := by
  apply Nat.eq_of_testBit_eq
  intro i
  rcases Nat.lt_or_ge i 8 with hi | hi
  · cases h : x.testBit i
    · cases h' : y.testBit i
      · rfl
      · rw [h2 i hi h'] at h; cases h
    · rw [h1 i hi h]
  · rw [Nat.testBit_lt_two_pow (Nat.lt_of_lt_of_le hx (Nat.pow_le_pow_right (by decide) hi : 2 ^ 8 ≤ 2 ^ i)), Nat.testBit_lt_two_pow (Nat.lt_of_lt_of_le hy (Nat.pow_le_pow_right (by decide) hi : 2 ^ 8 ≤ 2 ^ i))]
theorem fk_sub_or {x y c : Nat} (h1 : fk_sub x c) (h2 : fk_sub y c) : fk_sub (x ||| y) c := by
  intro u hu h
  rw [Nat.testBit_or, Bool.or_eq_true] at h
  rcases h with h | h
  · exact h1 u hu h
  · exact h2 u hu h
theorem fk_sub_l (x y : Nat) : fk_sub x (x ||| y) := by
  intro u hu h
  rw [Nat.testBit_or, h]
  rfl
theorem fk_tb (t : Nat) : (x : Nat) → (x ||| 2 ^ t).testBit t = true := by
  intro x
  rw [Nat.testBit_or, Nat.testBit_two_pow_self, Bool.or_true]
theorem fk_sub_bit {t c : Nat} (h : c.testBit t = true) : fk_sub (2 ^ t) c := by
  intro u hu h2
  rw [Nat.testBit_two_pow, decide_eq_true_eq] at h2
  rw [← h2]
  exact h
theorem fk_gs1_ge {o : Nat → Option Nat} {t x : Nat} : fk_sub x (fk_gs1 o t x) := by
  unfold fk_gs1
  split
  · exact fun u _ h => h
  · split
    · exact fk_sub_l _ _
    · exact fun u _ h => h
theorem fk_gs_ge {o : Nat → Option Nat} {k : Nat} : fk_sub k (fk_gs o k) :=
  fk_lp_inv (fun x => fk_sub k x) 8 (fun i x _ hx u hu h => fk_gs1_ge u hu (hx u hu h)) 8 0 k rfl (fun u _ h => h)
/-- a pass that changes nothing: the set is closed -/
theorem fk_gs_clo {o : Nat → Option Nat} {k : Nat} (ho : ∀ t u, o t = some u → u < 8) (h : fk_sub (fk_gs o k) k) : fk_clo o k := by
  have key : ∀ n i x, i + n = 8 → fk_sub k x → fk_sub (fk_lp (fk_gs1 o) n i x) k → ∀ t u, i ≤ t → t < 8 → o t = some u → k.testBit u = true → k.testBit t = true := by
    intro n
    induction n with
    | zero => intro i x hi _ _ t u h1 h2; omega
    | succ n ih =>
      intro i x hi hx hs t u h1 h2 e hk
      by_cases hti : t = i
      · subst hti
        have e1 : fk_gs1 o t x = x ||| 2 ^ t := by
          unfold fk_gs1
          rw [e]
          simp only
          rw [if_pos (hx u (ho t u e) hk)]
        have ge : fk_sub (fk_gs1 o t x) (fk_lp (fk_gs1 o) n (t + 1) (fk_gs1 o t x)) := fk_lp_inv (fun y => fk_sub (fk_gs1 o t x) y) 8 (fun i y _ hy u hu h => fk_gs1_ge u hu (hy u hu h)) n (t + 1) _ (by omega) (fun u _ h => h)
        exact hs t h2 (ge t h2 (by rw [e1]; exact fk_tb t x))
      · exact ih (i + 1) _ (by omega) (fun u hu h => fk_gs1_ge u hu (hx u hu h)) hs t u (by omega) h2 e hk
  intro t u ht e hk
  exact key 8 0 k rfl (fun u _ h => h) h t u (by omega) ht e hk
theorem fk_gs_in {o : Nat → Option Nat} {k c : Nat} (ho : ∀ t u, o t = some u → u < 8) (hc : fk_clo o c) (h : fk_sub k c) : fk_sub (fk_gs o k) c := by
  refine fk_lp_inv (fun x => fk_sub x c) 8 (fun i x hi hx => ?_) 8 0 k rfl h
  show fk_sub (fk_gs1 o i x) c
  unfold fk_gs1
  split
  · exact hx
  · next u e =>
    split
    · next hb => exact fk_sub_or hx (fk_sub_bit (hc i u hi e (hx u (ho i u e) hb)))
    · exact hx
theorem fk_jac_in {o : Nat → Option Nat} {k c : Nat} (ho : ∀ t u, o t = some u → u < 8) (hc : fk_clo o c) (h : fk_sub k c) : fk_sub (fk_jac o k) c := by
  refine fk_lp_inv (fun x => fk_sub x c) 8 (fun i x hi hx => ?_) 8 0 0 rfl (fun u _ h => by simp at h)
  show fk_sub (fk_jac1 o k i x) c
  unfold fk_jac1
  split
  · exact hx
  · next u e =>
    split
    · next hb => exact fk_sub_or hx (fk_sub_bit (hc i u hi e (h u (ho i u e) hb)))
    · exact hx
theorem fk_jac_clo {o : Nat → Option Nat} {k : Nat} (h : fk_sub (fk_jac o k) k) : fk_clo o k := by
  have ge1 : ∀ i x, fk_sub x (fk_jac1 o k i x) := by
    intro i x
    unfold fk_jac1
    split
    · exact fun u _ h => h
    · split
      · exact fk_sub_l _ _
      · exact fun u _ h => h
  have key : ∀ n i x, i + n = 8 → fk_sub (fk_lp (fk_jac1 o k) n i x) k → ∀ t u, i ≤ t → t < 8 → o t = some u → k.testBit u = true → k.testBit t = true := by
    intro n
    induction n with
    | zero => intro i x hi _ t u h1 h2; omega
    | succ n ih =>
      intro i x hi hs t u h1 h2 e hk
      by_cases hti : t = i
      · subst hti
        have e1 : fk_jac1 o k t x = x ||| 2 ^ t := by
          unfold fk_jac1
          rw [e]
          simp only
          rw [if_pos hk]
        have ge : fk_sub (fk_jac1 o k t x) (fk_lp (fk_jac1 o k) n (t + 1) (fk_jac1 o k t x)) := fk_lp_inv (fun y => fk_sub (fk_jac1 o k t x) y) 8 (fun i y _ hy u hu h => ge1 _ _ u hu (hy u hu h)) n (t + 1) _ (by omega) (fun u _ h => h)
        exact hs t h2 (ge t h2 (by rw [e1]; exact fk_tb t x))
      · exact ih (i + 1) _ (by omega) hs t u (by omega) h2 e hk
  intro t u ht e hk
  exact key 8 0 0 rfl h t u (by omega) ht e hk
def fk_sz8 (x : Nat) : Nat := fk_cn (fun u => x.testBit u) 8
theorem fk_cn_mono {p q : Nat → Bool} : ∀ n, (∀ u, u < n → p u = true → q u = true) → fk_cn p n ≤ fk_cn q n ∧ (fk_cn q n ≤ fk_cn p n → ∀ u, u < n → q u = true → p u = true) := by
  intro n
  induction n with
  | zero => intro _; exact ⟨Nat.le_refl _, fun _ u hu => absurd hu (Nat.not_lt_zero _)⟩
  | succ n ih =>
    intro h
    obtain ⟨i1, i2⟩ := ih (fun u hu => h u (by omega))
    show fk_cn p n + (if p n = true then 1 else 0) ≤ fk_cn q n + (if q n = true then 1 else 0) ∧ (fk_cn q n + (if q n = true then 1 else 0) ≤ fk_cn p n + (if p n = true then 1 else 0) → _)
    have hn := h n (by omega)
    by_cases c1 : p n = true
    · rw [if_pos c1, if_pos (hn c1)]
      refine ⟨by omega, fun z u hu hq => ?_⟩
      by_cases e : u = n
      · subst e; exact c1
      · exact i2 (by omega) u (by omega) hq
    · rw [if_neg c1]
      by_cases c2 : q n = true
      · rw [if_pos c2]
        exact ⟨by omega, fun z => by omega⟩
      · rw [if_neg c2]
        refine ⟨by omega, fun z u hu hq => ?_⟩
        by_cases e : u = n
        · subst e; exact absurd hq c2
        · exact i2 (by omega) u (by omega) hq
theorem fk_grow {x y : Nat} (h : fk_sub x y) : fk_sub y x ∨ fk_sz8 x + 1 ≤ fk_sz8 y := by
  obtain ⟨h1, h2⟩ := fk_cn_mono (p := fun u => x.testBit u) (q := fun u => y.testBit u) 8 h
  rcases Nat.lt_or_ge (fk_sz8 x) (fk_sz8 y) with h3 | h3
  · exact Or.inr h3
  · exact Or.inl (h2 h3)
def fk_jr (o : Nat → Option Nat) : Nat → Nat → Nat
  | 0, x => x
  | n + 1, x => fk_jr o n (x ||| fk_jac o x)
theorem kk_bcl_k {a b : Nat} {M : fk_S} (h : fk_I a b M) : ∀ n k, k < 256 → kk_bcl (fk_kOf M) n (nI k) = nI (fk_jr (mm_wf M) n k) ∧ fk_jr (mm_wf M) n k < 256 := by
  intro n
  induction n with
  | zero => intro k hk; exact ⟨rfl, hk⟩
  | succ n ih =>
    intro k hk
    simp only [kk_bcl, fk_jr]
    rw [kk_blk_k h hk, fk_or hk fk_jac_lt]
    exact ih _ (Nat.or_lt_two_pow (n := 8) hk fk_jac_lt)
theorem fk_jr_clo {o : Nat → Option Nat} : ∀ n x, x < 256 → 9 ≤ fk_sz8 x + n → fk_clo o (fk_jr o n x) ∧ fk_sub x (fk_jr o n x) := by
  intro n
  induction n with
  | zero =>
    intro x _ h
    have : fk_sz8 x ≤ 8 := fk_cn_le _ 8
    omega
  | succ n ih =>
    intro x hx h
    have hx2 : x ||| fk_jac o x < 256 := Nat.or_lt_two_pow (n := 8) hx fk_jac_lt
    rcases fk_grow (fk_sub_l x (fk_jac o x)) with g | g
    · have e : x ||| fk_jac o x = x := fk_sub_ext hx2 hx g (fk_sub_l _ _)
      have hc : fk_clo o x := fk_jac_clo (fun u hu hb => g u hu (by rw [Nat.testBit_or, hb, Bool.or_true]))
      have fix : ∀ n, fk_jr o n x = x := by
        intro n
        induction n with
        | zero => rfl
        | succ n ih => simp only [fk_jr]; rw [e]; exact ih
      rw [fix]
      exact ⟨hc, fun u _ h => h⟩
    · obtain ⟨i1, i2⟩ := ih (x ||| fk_jac o x) hx2 (by omega)
      exact ⟨i1, fun u hu hb => i2 u hu (fk_sub_l _ _ u hu hb)⟩
theorem fk_jr_in {o : Nat → Option Nat} {c : Nat} (ho : ∀ t u, o t = some u → u < 8) (hc : fk_clo o c) : ∀ n x, fk_sub x c → fk_sub (fk_jr o n x) c := by
  intro n
  induction n with
  | zero => intro x h; exact h
  | succ n ih => intro x h; exact ih _ (fk_sub_or h (fk_jac_in ho hc h))
theorem mm_blo_k {M : fk_S} : ∀ n x y, x < 256 → y < 256 → (x = y → fk_gs (mm_wf M) x = x) → 9 ≤ fk_sz8 x + n → mm_blt M n (nI x) (nI y) ∧ ∃ z, mm_blo M n (nI x) (nI y) = nI z ∧ z < 256 ∧ fk_gs (mm_wf M) z = z ∧ fk_sub x z ∧ ∀ c, fk_clo (mm_wf M) c → fk_sub x c → fk_sub z c := by
  intro n
  induction n with
  | zero =>
    intro x y _ _ _ h
    have : fk_sz8 x ≤ 8 := fk_cn_le _ 8
    omega
  | succ n ih =>
    intro x y hx hy hxy h
    simp only [mm_blt, mm_blo]
    by_cases e : x = y
    · subst e
      rw [if_pos rfl]
      exact ⟨Or.inl rfl, x, rfl, hx, hxy rfl, fun u _ h => h, fun c _ h => h⟩
    · rw [if_neg (fun z => e ((nI_eq (by omega) (by omega)).mp z)), mm_blp_k hx]
      rcases fk_grow (fk_gs_ge (o := mm_wf M) (k := x)) with g | g
      · have e2 : fk_gs (mm_wf M) x = x := fk_sub_ext (fk_gs_lt hx) hx g fk_gs_ge
        rw [e2]
        cases n with
        | zero => exact ⟨Or.inr rfl, x, rfl, hx, e2, fun u _ h => h, fun c _ h => h⟩
        | succ n => exact ⟨Or.inr (Or.inl rfl), x, by simp [mm_blo], hx, e2, fun u _ h => h, fun c _ h => h⟩
      · obtain ⟨i1, z, i2, i3, i4, i5, i6⟩ := ih (fk_gs (mm_wf M) x) x (fk_gs_lt hx) hx (fun e3 => by rw [e3, e3]) (by omega)
        exact ⟨Or.inr i1, z, i2, i3, i4, fun u hu hb => i5 u hu (fk_gs_ge u hu hb), fun c hc hs => i6 c hc (fk_gs_in (fun _ _ => mm_wf_lt) hc hs)⟩
theorem kk_blocked_k {a b : Nat} {M : fk_S} (h : fk_I a b M) {t : Nat} (ht : t < 8) : mm_blt M 9 (kk_bit t) 0 ∧ fk_bc (kk_bcl (fk_kOf M) 8 (kk_bit t)) - 1 = mm_bcn (mm_blo M 9 (kk_bit t) 0) := by
  have ho : ∀ t u, mm_wf M t = some u → u < 8 := fun _ _ => mm_wf_lt
  have hp := fk_pow8 ht
  have h1 : 1 ≤ fk_sz8 (2 ^ t) := by
    have : ∀ t, t < 8 → 1 ≤ fk_sz8 (2 ^ t) := by decide
    exact this t ht
  have hne : ¬ 2 ^ t = 0 := Nat.ne_of_gt (Nat.two_pow_pos t)
  obtain ⟨b1, z, b2, b3, b4, b5, b6⟩ := mm_blo_k (M := M) 9 (2 ^ t) 0 hp (by decide) (fun z => absurd z hne) (by omega)
  obtain ⟨c1, c2⟩ := kk_bcl_k h 8 (2 ^ t) hp
  obtain ⟨d1, d2⟩ := fk_jr_clo (o := mm_wf M) 8 (2 ^ t) hp (by omega)
  have zc : fk_clo (mm_wf M) z := fk_gs_clo ho (by rw [b4]; exact fun u _ h => h)
  have e : z = fk_jr (mm_wf M) 8 (2 ^ t) := fk_sub_ext b3 c2 (b6 _ d1 d2) (fk_jr_in ho zc 8 _ b5)
  rw [fk_bitN ht]
  refine ⟨b1, ?_⟩
  have b2' : mm_blo M 9 (nI (2 ^ t)) 0 = nI z := b2
  rw [c1, b2', ← e, fk_bcE b3]
