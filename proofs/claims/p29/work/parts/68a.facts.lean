/-! bits of longs (from the kit's rows to paste) -/
theorem wb_tb (n : Nat) : (lN n).toBitVec = BitVec.ofNat 64 n := rfl
theorem wb_inj {a b : Int64} (h : a.toBitVec = b.toBitVec) : a = b := Int64.toBitVec_inj.mp h
theorem wb_c : ∀ k, k < 64 → ((nI k).toInt64 &&& 63) = lN k := by decide +kernel
theorem wb_sm : ∀ k, k < 64 → (BitVec.ofNat 64 k).smod 64 = BitVec.ofNat 64 k := by decide +kernel
theorem wb_lt2 {a b : Nat} (h : a < b) : 2 ^ a < 2 ^ b := Nat.pow_lt_pow_right (by decide) h
theorem wb_shl (n : Nat) {k : Nat} (hk : k < 64) : lN n <<< ((nI k).toInt64 &&& 63) = lN (n * 2 ^ k) := by
  rw [wb_c k hk]
  apply wb_inj
  rw [Int64.toBitVec_shiftLeft, wb_tb, wb_tb, wb_tb, wb_sm k hk]
  apply BitVec.eq_of_toNat_eq
  rw [BitVec.shiftLeft_eq', BitVec.toNat_shiftLeft, BitVec.toNat_ofNat, BitVec.toNat_ofNat, BitVec.toNat_ofNat, Nat.mod_eq_of_lt (show k < 2 ^ 64 by omega), Nat.shiftLeft_eq, Nat.mul_mod, Nat.mod_mod, ← Nat.mul_mod]
theorem wb_and {a b : Nat} (ha : a < 2 ^ 64) (hb : b < 2 ^ 64) : lN a &&& lN b = lN (a &&& b) := by
  apply wb_inj
  rw [Int64.toBitVec_and, wb_tb, wb_tb, wb_tb]
  apply BitVec.eq_of_toNat_eq
  rw [BitVec.toNat_and, BitVec.toNat_ofNat, BitVec.toNat_ofNat, BitVec.toNat_ofNat, Nat.mod_eq_of_lt ha, Nat.mod_eq_of_lt hb, Nat.mod_eq_of_lt (Nat.and_lt_two_pow _ hb)]
theorem wb_or {a b : Nat} (ha : a < 2 ^ 64) (hb : b < 2 ^ 64) : lN a ||| lN b = lN (a ||| b) := by
  apply wb_inj
  rw [Int64.toBitVec_or, wb_tb, wb_tb, wb_tb]
  apply BitVec.eq_of_toNat_eq
  rw [BitVec.toNat_or, BitVec.toNat_ofNat, BitVec.toNat_ofNat, BitVec.toNat_ofNat, Nat.mod_eq_of_lt ha, Nat.mod_eq_of_lt hb, Nat.mod_eq_of_lt (Nat.or_lt_two_pow ha hb)]
theorem wb_mask {n k : Nat} (hn : n < 2 ^ 64) (hk : k < 64) : lN n &&& lN (2 ^ k - 1) = lN (n % 2 ^ k) := by
  rw [wb_and hn (by have := wb_lt2 hk; omega), Nat.and_two_pow_sub_one_eq_mod]
theorem pf_lI {a : Nat} (h : a < 2 ^ 63) : (lN a).toInt = (a : Int) := lg_ofNat_toInt h
theorem pf_shr {a d : Nat} {D : Int64} (hD : (D.toBitVec.smod 64).toNat = d) (h : a < 2 ^ 62) : lN a >>> D = lN (a / 2 ^ d) := by
  have hd : a / 2 ^ d ≤ a := Nat.div_le_self _ _
  apply Int64.toInt_inj.mp
  have e : (lN a >>> D).toInt = (lN a).toInt >>> d := by
    rw [← hD]
    exact BitVec.toInt_sshiftRight ..
  rw [e, Int.shiftRight_eq_div_pow, pf_lI (by omega), pf_lI (by omega)]
  rfl
/-! threads packed into a long, four bits each -/
def pl_pk : List Nat → Nat
  | [] => 0
  | u :: l => u + 16 * pl_pk l
theorem pl_pk_app : ∀ (F : List Nat) (u : Nat), pl_pk (F ++ [u]) = pl_pk F + 2 ^ (4 * F.length) * u := by
  intro F
  induction F with
  | nil => intro u; simp [pl_pk]
  | cons w F ih =>
    intro u
    rw [List.cons_append]
    simp only [pl_pk]
    rw [ih, List.length_cons, show 4 * (F.length + 1) = 4 + 4 * F.length by omega, Nat.pow_add, Nat.mul_add, ← Nat.add_assoc, Nat.mul_assoc]
theorem pl_pk_lt : ∀ (F : List Nat), (∀ u ∈ F, u < 8) → pl_pk F < 2 ^ (4 * F.length) := by
  intro F
  induction F with
  | nil => intro _; simp [pl_pk]
  | cons w F ih =>
    intro h
    have h1 := ih (fun u hu => h u (List.mem_cons_of_mem _ hu))
    have h2 := h w List.mem_cons_self
    simp only [pl_pk]
    rw [List.length_cons, show 4 * (F.length + 1) = 4 * F.length + 4 by omega, Nat.pow_add]
    omega
theorem pl_pk_at : ∀ (F : List Nat) (i u : Nat), (∀ u ∈ F, u < 8) → F[i]? = some u → pl_pk F / 2 ^ (4 * i) % 16 = u := by
  intro F
  induction F with
  | nil => intro i u _ h; simp at h
  | cons w F ih =>
    intro i u hF h
    have h2 := hF w List.mem_cons_self
    cases i with
    | zero =>
      simp at h
      subst h
      simp only [pl_pk]
      rw [Nat.mul_zero, Nat.pow_zero, Nat.div_one]
      omega
    | succ i =>
      simp at h
      have h3 := ih i u (fun z hz => hF z (List.mem_cons_of_mem _ hz)) h
      simp only [pl_pk]
      rw [show 4 * (i + 1) = 4 + 4 * i by omega, Nat.pow_add, ← Nat.div_div_eq_div_mul]
      have : (w + 16 * pl_pk F) / 2 ^ 4 = pl_pk F := by omega
      rw [this]
      exact h3
theorem pl_pk_8 {F : List Nat} (h : ∀ u ∈ F, u < 8) (hl : F.length ≤ 8) : pl_pk F < 2 ^ 32 := Nat.lt_of_lt_of_le (pl_pk_lt F h) (Nat.pow_le_pow_right (by decide) (by omega))
theorem pl_put {F : List Nat} {u : Nat} (h : ∀ u ∈ F, u < 8) (hl : F.length < 8) (hu : u < 8) : lN (pl_pk F) ||| ((nI u).toInt64 <<< ((nI (4 * F.length)).toInt64 &&& 63)) = lN (pl_pk (F ++ [u])) := by
  have h1 := pl_pk_lt F h
  have h2 := pl_pk_8 h (by omega)
  have hp : 2 ^ (4 * F.length) ≤ 2 ^ 28 := Nat.pow_le_pow_right (by decide) (by omega)
  have hm : u * 2 ^ (4 * F.length) < 2 ^ 32 := by
    have := Nat.mul_le_mul (show u ≤ 8 by omega) hp
    omega
  rw [nI_l (by omega), wb_shl u (by omega), wb_or (by omega) (by omega), pl_pk_app]
  congr 1
  rw [Nat.or_comm, Nat.mul_comm u, ← Nat.two_pow_add_eq_or_of_lt h1, Nat.add_comm]
theorem pl_get {F : List Nat} {i u : Nat} (h : ∀ u ∈ F, u < 8) (hl : F.length ≤ 8) (hi : F[i]? = some u) : ((lN (pl_pk F) >>> ((nI (4 * i)).toInt64 &&& 63)) &&& 15).toInt32 = nI u := by
  have h2 := pl_pk_8 h hl
  have hil := (List.getElem?_eq_some_iff.mp hi).1
  have hs : (((nI (4 * i)).toInt64 &&& 63).toBitVec.smod 64).toNat = 4 * i := by
    rw [wb_c (4 * i) (by omega), wb_tb, wb_sm (4 * i) (by omega), BitVec.toNat_ofNat, Nat.mod_eq_of_lt (by omega)]
  have hd : pl_pk F / 2 ^ (4 * i) ≤ pl_pk F := Nat.div_le_self _ _
  rw [pf_shr hs (by omega), show (15 : Int64) = lN (2 ^ 4 - 1) from rfl, wb_mask (by omega) (by decide), show (2 : Nat) ^ 4 = 16 from rfl, pl_pk_at F i u h hi, lN_i]
/-! who waits at an address and fits a mask -/
def kq_wt (S : fk_S) (a : Nat) (mk : Int32) : List Nat := (kq_A S a).filter (fun t => decide (S 1 t = 1) && decide (S 4 t &&& mk ≠ 0))
section
variable {n : Nat} {S S' : fk_S} {P P' : Nat → Int32} {u t a b v : Nat} {mk : Int32}
theorem kq_wt_mem (h : u ∈ kq_wt S a mk) : u < 8 ∧ S 3 u = nI a ∧ S 1 u = 1 := by
  unfold kq_wt at h
  rw [List.mem_filter] at h
  simp only [Bool.and_eq_true, decide_eq_true_eq] at h
  have h1 := kq_mem.mp h.1
  unfold kq_PA at h1
  exact ⟨h1.1, by simpa using h1.2, h.2.1⟩
theorem kq_wt_nd (S : fk_S) (a : Nat) (mk : Int32) : (kq_wt S a mk).Nodup := (kq_nd _ _).filter _
theorem kq_wt8 (S : fk_S) (a : Nat) (mk : Int32) : (kq_wt S a mk).length ≤ 8 := Nat.le_trans (List.length_filter_le _ _) (kq_A8 S a)
theorem kk_wt_first (h : kq_I n S P) (ha : a < 16) (mk : Int32) : kk_first S (nI a) 1 mk = (kq_wt S a mk).head? := kq_first h.J (by omega) 1 mk
theorem kk_end_0 (h1 : S 1 t = 1) (r : Int32) : kk_end S t r 0 = S 0 := by
  unfold kk_end kk_fin
  rw [fk_up_f (by decide), fk_up_f (by decide), fk_up_f (by decide)]
  unfold kk_leave
  rw [if_neg (fun z => by rw [h1] at z; exact absurd z.1 (by decide))]
  unfold kk_off
  rw [fk_up_f (by decide), fk_up_f (by decide), fk_up_f (by decide)]
theorem kq_wt_end (h : kq_I n S P) (ha : a < 16) {l : List Nat} (hl : kq_wt S a mk = v :: l) (r : Int32) : kq_wt (kk_end S v r) a mk = l := by
  unfold kq_wt at hl ⊢
  rw [kq_A_end h.J ha]
  exact kq_tail (kq_nd _ _) hl (fun w hw => by rw [kk_end_o hw (by decide) (by decide), kk_end_o hw (by decide) (by decide)])
theorem kq_min (k m : Nat) : min k m + 1 = min (k + 1) (m + 1) := by omega
theorem kq_wakeS (ha : a < 16) (mk : Int32) : ∀ (k n : Nat) (S : fk_S) (W : List Nat) (E : Nat), kq_G n S P → n + k < 2 ^ 17 → kq_wt S a mk = W → S 12 1 = nI E → E ≤ n →
    (kk_wake (nI a) mk k S).1 = min k W.length ∧ kq_G (n + k) (kk_wake (nI a) mk k S).2 P ∧ (kk_wake (nI a) mk k S).2 0 = S 0 ∧ (kk_wake (nI a) mk k S).2 12 0 = S 12 0 ∧
    (∀ f u, f ≠ 0 → f ≠ 12 → u ∉ W.take k → (kk_wake (nI a) mk k S).2 f u = S f u) ∧
    (∀ i u, W[i]? = some u → i < k → (kk_wake (nI a) mk k S).2 1 u = 0 ∧ (kk_wake (nI a) mk k S).2 8 u = 0 ∧ (kk_wake (nI a) mk k S).2 9 u = nI (E + i + 1)) ∧
    kq_wt (kk_wake (nI a) mk k S).2 a mk = W.drop k := by
  intro k
  induction k with
  | zero =>
    intro n S W E hG _ hW _ _
    refine ⟨by show 0 = _; rw [Nat.zero_min], hG, rfl, rfl, fun _ _ _ _ _ => rfl, fun i u _ h => absurd h (by omega), hW⟩
  | succ k ih =>
    intro n S W E hG hn hW hE hEn
    have hf := kk_wt_first hG.1 ha mk
    rw [hW] at hf
    cases W with
    | nil =>
      simp only [kk_wake, hf, List.head?_nil]
      exact ⟨by simp, hG.wk (by omega), trivial, trivial, fun _ _ _ _ _ => trivial, fun i u h => by simp at h, by rw [hW]; rfl⟩
    | cons w l =>
      have hw := kq_wt_mem (show w ∈ kq_wt S a mk by rw [hW]; exact List.mem_cons_self)
      have hnd : (w :: l).Nodup := by rw [← hW]; exact kq_wt_nd S a mk
      have hwl : w ∉ l := (List.nodup_cons.mp hnd).1
      simp only [kk_wake, hf, List.head?_cons]
      obtain ⟨i1, i2, i3, i4, i5, i6, i7⟩ := ih (n + 1) (kk_end S w 0) l (E + 1) (hG.end hw.1 (by omega) (by decide) (Or.inl hw.2.2)) (by omega) (kq_wt_end hG.1 ha hW 0) (by rw [kq_end_121, hE, nI_1]) (by omega)
      refine ⟨by rw [i1, List.length_cons]; exact kq_min k l.length, i2.wk (by omega), i3.trans (kk_end_0 hw.2.2 0), i4.trans (kq_end_12 0 (by decide)), fun f u h0 h12 hu => ?_, fun i u hi hik => ?_, by rw [List.drop_succ_cons]; exact i7⟩
      · rw [List.take_succ_cons, List.mem_cons, not_or] at hu
        rw [i5 f u h0 h12 hu.2, kk_end_o hu.1 h0 h12]
      · cases i with
        | zero =>
          simp at hi
          subst hi
          have hnt : w ∉ l.take k := fun z => hwl (List.mem_of_mem_take z)
          rw [i5 1 w (by decide) (by decide) hnt, i5 8 w (by decide) (by decide) hnt, i5 9 w (by decide) (by decide) hnt, kk_end_1, kk_end_8, kk_end_9, hE, nI_1]
          exact ⟨rfl, rfl, rfl⟩
        | succ i =>
          simp at hi
          have := i6 i u hi (by omega)
          rw [show E + (i + 1) + 1 = E + 1 + i + 1 by omega]
          exact this
theorem kk_join_o {x : Int32} {f : Nat} (hu : u ≠ t) (hf : ¬ f = 12) : kk_join S t x f u = S f u := by
  unfold kk_join
  rw [fk_up_o hu, fk_up_f hf, fk_up_o hu]
theorem kk_join_g {x : Int32} {f : Nat} (h3 : ¬ f = 3) (h7 : ¬ f = 7) (h12 : ¬ f = 12) : kk_join S t x f = S f := by
  unfold kk_join
  rw [fk_up_f h7, fk_up_f h12, fk_up_f h3]
theorem kk_join_3 {x : Int32} : kk_join S t x 3 t = x := by simp [kk_join, fk_up]
theorem kk_join_7 {x : Int32} : kk_join S t x 7 t = S 12 3 + 1 := by simp [kk_join, fk_up]
theorem kk_join_120 {x : Int32} : kk_join S t x 12 0 = S 12 0 := by simp [kk_join, fk_up]
theorem kq_wt_join (h : kq_I n S P) (ha : a < 16) (hb : b < 16) (hab : ¬ a = b) {l : List Nat} (hl : kq_wt S a mk = v :: l) : kq_wt (kk_join S v (nI b)) a mk = l := by
  unfold kq_wt at hl ⊢
  rw [kq_A_out (v := v) h.J ha (fun w hw => ⟨kk_join_o hw (by decide), kk_join_o hw (by decide), kk_join_o hw (by decide)⟩) (by rw [kk_join_3]; exact fun e => hab ((nI_eq (by omega) (by omega)).mp e).symm)]
  exact kq_tail (kq_nd _ _) hl (fun w hw => by rw [kk_join_o hw (by decide), kk_join_o hw (by decide)])
theorem kq_G.join (h : kq_G n S P) (ht : t < 8) (hn : n < 2 ^ 20) (ha : a < 16) (hq : S 1 t = 1 ∨ S 1 t = 2) : kq_G (n + 1) (kk_join S t (nI a)) P :=
  ⟨h.1.join ht hn ha hq, h.2.of (fun u _ e => by rw [kk_join_g (by decide) (by decide) (by decide)] at e; exact e) (fun u _ _ => congrFun (kk_join_g (by decide) (by decide) (by decide)) u)⟩
theorem kk_join_Jd (h : kq_I n S P) (hn : n < 2 ^ 20) (ht : t < 8) (ha : a < 16) : kq_Jd (kk_join S t (nI a)) t a :=
  ⟨ht, ha, kk_join_3, fun u hu hne _ => by
    rw [kk_join_7, kk_join_o hne (by decide)]
    exact h.last7 hn hu⟩
theorem kq_moveS (ha : a < 16) (hb : b < 16) (hab : ¬ a = b) : ∀ (k n : Nat) (S : fk_S) (M : List Nat), kq_G n S P → n + k < 2 ^ 17 → kq_wt S a 255 = M →
    (kk_move (nI a) (nI b) k S).1 = min k M.length ∧ kq_G (n + k) (kk_move (nI a) (nI b) k S).2 P ∧ (∀ f, ¬ f = 3 → ¬ f = 7 → ¬ f = 12 → (kk_move (nI a) (nI b) k S).2 f = S f) ∧ (kk_move (nI a) (nI b) k S).2 12 0 = S 12 0 ∧
    (∀ i u, M[i]? = some u → i < k → (kk_move (nI a) (nI b) k S).2 3 u = nI b) ∧ (∀ u, u ∉ M.take k → (kk_move (nI a) (nI b) k S).2 3 u = S 3 u) ∧
    ∀ i u, M[i]? = some u → i + 1 = min k M.length → kq_Jd (kk_move (nI a) (nI b) k S).2 u b := by
  intro k
  induction k with
  | zero =>
    intro n S M hG _ hM
    exact ⟨by show 0 = _; rw [Nat.zero_min], hG, fun _ _ _ _ => rfl, rfl, fun i u _ h => absurd h (by omega), fun _ _ => rfl, fun i u _ h => absurd h (by omega)⟩
  | succ k ih =>
    intro n S M hG hn hM
    have hf := kk_wt_first hG.1 ha 255
    rw [hM] at hf
    cases M with
    | nil =>
      simp only [kk_move, hf, List.head?_nil]
      exact ⟨by simp, hG.wk (by omega), fun _ _ _ _ => trivial, trivial, fun i u h => by simp at h, fun _ _ => trivial, fun i u h => by simp at h⟩
    | cons w l =>
      have hw := kq_wt_mem (show w ∈ kq_wt S a 255 by rw [hM]; exact List.mem_cons_self)
      have hnd : (w :: l).Nodup := by rw [← hM]; exact kq_wt_nd S a 255
      have hwl : w ∉ l := (List.nodup_cons.mp hnd).1
      simp only [kk_move, hf, List.head?_cons]
      have hG1 := hG.join hw.1 (by omega) hb (Or.inl hw.2.2)
      obtain ⟨i1, i2, i3, i4, i5, i6, i7⟩ := ih (n + 1) (kk_join S w (nI b)) l hG1 (by omega) (kq_wt_join hG.1 ha hb hab hM)
      refine ⟨by rw [i1, List.length_cons]; exact kq_min k l.length, i2.wk (by omega), fun f h3 h7 h12 => (i3 f h3 h7 h12).trans (kk_join_g h3 h7 h12), i4.trans kk_join_120, fun i u hi hik => ?_, fun u hu => ?_, fun i u hi hil => ?_⟩
      · cases i with
        | zero =>
          simp at hi
          subst hi
          rw [i6 w (fun z => hwl (List.mem_of_mem_take z)), kk_join_3]
        | succ i =>
          simp at hi
          exact i5 i u hi (by omega)
      · rw [List.take_succ_cons, List.mem_cons, not_or] at hu
        rw [i6 u hu.2, kk_join_o hu.1 (by decide)]
      · cases i with
        | zero =>
          simp at hi
          subst hi
          rw [List.length_cons] at hil
          have h0 : (kk_move (nI a) (nI b) k (kk_join S w (nI b))).2 = kk_join S w (nI b) := by
            have hk0 : k = 0 ∨ l = [] := by
              cases l with
              | nil => exact Or.inr rfl
              | cons z l => rw [List.length_cons] at hil; exact Or.inl (by omega)
            rcases hk0 with z | z
            · rw [z]; rfl
            · have hf1 := kk_wt_first hG1.1 ha 255
              rw [kq_wt_join hG.1 ha hb hab hM, z] at hf1
              cases k with
              | zero => rfl
              | succ k => simp only [kk_move, hf1, List.head?_nil]
          rw [h0]
          exact kk_join_Jd hG.1 (by omega) hw.1 hb
        | succ i =>
          simp at hi
          rw [List.length_cons] at hil
          exact i7 i u hi (by omega)
end
