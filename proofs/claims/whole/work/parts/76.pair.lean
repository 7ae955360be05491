/-! what the model keeps of 'thrown' -/
theorem fk_t4 {S : fk_S} {f i : Nat} {v : Int32} (h : ¬ (f = 12 ∧ i = 4)) : fk_up S f i v 12 4 = S 12 4 := by
  by_cases e : f = 12
  · subst e
    exact fk_up_i (fun z => h ⟨rfl, z.symm⟩)
  · rw [fk_up_f (Ne.symm e)]
theorem kk_join_4 (S : fk_S) (t : Nat) (a : Int32) : kk_join S t a 12 4 = S 12 4 := by
  unfold kk_join
  rw [fk_t4 (by omega), fk_t4 (by omega), fk_t4 (by omega)]
theorem mm_leave_4 (S : fk_S) (t : Nat) (w : Int32) : mm_leave S t w 12 4 = S 12 4 := by
  unfold mm_leave
  split
  · rw [fk_t4 (by omega), fk_t4 (by omega)]
  · rw [fk_t4 (by omega)]
theorem mm_end_4 (S : fk_S) (t : Nat) (r : Int32) : mm_end S t r 12 4 = S 12 4 := by
  unfold mm_end kk_fin
  rw [fk_t4 (by omega), fk_t4 (by omega), fk_t4 (by omega), mm_leave_4]
theorem mm_wait_4 (S : fk_S) (t : Nat) (a w mk to : Int32) : mm_wait S t a w mk to 12 4 = S 12 4 := by
  unfold mm_wait
  rw [kk_join_4, fk_t4 (by omega), fk_t4 (by omega), fk_t4 (by omega), fk_t4 (by omega), fk_t4 (by omega)]
theorem mm_wake_4 (a mk : Int32) : ∀ (n : Nat) (S : fk_S), (mm_wake a mk n S).2 12 4 = S 12 4 := by
  intro n
  induction n with
  | zero => intro S; rfl
  | succ n ih =>
    intro S
    simp only [mm_wake]
    split
    · rfl
    · exact (ih _).trans (mm_end_4 _ _ _)
theorem mm_move_4 (a b : Int32) : ∀ (n : Nat) (S : fk_S), (mm_move a b n S).2 12 4 = S 12 4 := by
  intro n
  induction n with
  | zero => intro S; rfl
  | succ n ih =>
    intro S
    simp only [mm_move]
    split
    · rfl
    · exact (ih _).trans (kk_join_4 _ _ _)
theorem kk_add_4 (S : fk_S) (t : Nat) (a : Int32) : kk_add S t a 12 4 = S 12 4 := by rw [kk_add_f 12 (by decide) (by decide)]
theorem kk_drop_4 (S : fk_S) (t : Nat) (a : Int32) : kk_drop S t a 12 4 = S 12 4 := by rw [kk_drop_f 12 (by decide) (by decide)]
theorem mm_pass_4 (S : fk_S) (a : Int32) (b : Bool) : mm_pass S a b 12 4 = S 12 4 := by
  cases h : mm_lk S a with
  | none => rw [mm_pass_none h, fk_t4 (by omega)]
  | some t => rw [mm_pass_some h, kk_add_4, fk_t4 (by omega), mm_end_4]
theorem mm_exl_4 (t : Nat) : ∀ (n i : Nat) (S : fk_S), (mm_exl t n i S).2 12 4 = S 12 4 := by
  intro n
  induction n with
  | zero => intro i S; rfl
  | succ n ih =>
    intro i S
    simp only [mm_exl]
    split
    · exact (ih _ _).trans (mm_pass_4 _ _ _)
    · exact ih _ _
theorem mm_exit_4 (S : fk_S) (t : Nat) : mm_exit S t 12 4 = S 12 4 := by
  unfold mm_exit
  rw [fk_t4 (by omega), mm_exl_4, mm_leave_4]
theorem kk_start_4 (S : fk_S) (t : Nat) : kk_start S t 12 4 = S 12 4 := by
  unfold kk_start
  rw [fk_t4 (by omega), fk_t4 (by omega), fk_t4 (by omega), fk_t4 (by omega)]
theorem mm_prio_4 (S : fk_S) (t : Nat) (v : Int32) : mm_prio S t v 12 4 = S 12 4 := by
  unfold mm_prio
  split
  · rw [fk_t4 (by omega)]
  · split
    · rw [kk_join_4, fk_t4 (by omega)]
    · rw [fk_t4 (by omega)]
theorem mm_dueL_4 : ∀ (n : Nat) (S : fk_S), (mm_dueL n S).2 12 4 = S 12 4 := by
  intro n
  induction n with
  | zero => intro S; rfl
  | succ n ih =>
    intro S
    simp only [mm_dueL]
    split
    · rfl
    · exact (ih _).trans (mm_end_4 _ _ _)
theorem mm_tickL_4 : ∀ (n : Nat) (S : fk_S), (mm_tickL n S).2 12 4 = S 12 4 := by
  intro n
  induction n with
  | zero => intro S; rfl
  | succ n ih =>
    intro S
    simp only [mm_tickL]
    rw [ih, mm_dueL_4]
    unfold mm_tk
    rw [fk_t4 (by omega)]
theorem mm_lock_4 (S : fk_S) (t a : Nat) (to : Int32) : mm_lock S t a to 12 4 = S 12 4 := by
  unfold mm_lock
  split
  · rw [kk_add_4, fk_t4 (by omega)]
  · split
    · rfl
    · split
      · split
        · rfl
        · split
          · rfl
          · rw [mm_wait_4, fk_t4 (by omega)]
      · rfl
theorem mm_requeue_4 (S : fk_S) (a b : Nat) (x : Int32) (k j : Nat) : mm_requeue S a b x k j 12 4 = 0 := by
  unfold mm_requeue
  split
  · rw [mm_move_4, mm_wake_4, fk_up_s]
  · rw [fk_up_s]
/-! the arguments -/
theorem fk_isA_of {w : Int32} (h : fk_isA w = true) : ∃ u, u < 16 ∧ w = nI u := vp_in_of (fk_isA_in h) (by decide)
theorem fk_btw_of {v : Int32} {n : Nat} (hn : n < 2 ^ 31) (h : fk_btw v 0 (nI n) = true) : ∃ d, v = nI d ∧ d ≤ n := by
  unfold fk_btw at h
  simp only [Bool.and_eq_true, decide_eq_true_eq] at h
  obtain ⟨j, hj, rfl⟩ := nI_of (x := v) (Int32.not_lt.mpr h.1)
  exact ⟨j, rfl, (nI_leI hj hn).mp h.2⟩
theorem fk_btw1 (v hi : Int32) : fk_btw v 1 hi = (decide (0 < v) && decide (v ≤ hi)) := by
  unfold fk_btw
  have : decide ((1 : Int32) ≤ v) = decide (0 < v) := decide_eq_decide.mpr ⟨fun h => Int32.lt_of_lt_of_le (by decide) h, fk_lt1⟩
  rw [this]
theorem fk_btw_msk (v : Int32) : fk_btw v 1 255 = mm_msk v := fk_btw1 v 255
theorem fk_btw1_of {v : Int32} {n : Nat} (hn : n < 2 ^ 31) (h : fk_btw v 1 (nI n) = true) : ∃ d, v = nI d ∧ 1 ≤ d ∧ d ≤ n := by
  rw [fk_btw1] at h
  simp only [Bool.and_eq_true, decide_eq_true_eq] at h
  obtain ⟨j, hj, rfl⟩ := nI_of (x := v) (Int32.not_lt.mpr (Int32.le_of_lt h.1))
  exact ⟨j, rfl, (nI_ltI (a := 0) (by decide) hj).mp h.1, (nI_leI hj hn).mp h.2⟩
theorem mm_code_t {S : fk_S} {th av : Int32} {b : Bool} {wh : Int32} (h : fk_isT th = false) : mm_code S th av b wh = 1 := by simp [mm_code, h]
theorem mm_code_a {S : fk_S} {th av : Int32} {b : Bool} {wh : Int32} (h : fk_isA av = false) : mm_code S th av b wh = 1 := by simp [mm_code, h]
theorem mm_code_r {S : fk_S} {t a : Nat} {b : Bool} {wh : Int32} (ht : t < 8) (ha : a < 16) (h : b = false) : mm_code S (nI t) (nI a) b wh = 2 := by simp [mm_code, fk_isT_nI ht, fk_isA_nI ha, h]
theorem mm_code_s {S : fk_S} {t a : Nat} {b : Bool} {wh : Int32} (ht : t < 8) (ha : a < 16) (hb : b = true) (h : ¬ S 1 t = 0) : mm_code S (nI t) (nI a) b wh = wh := by simp [mm_code, fk_isT_nI ht, fk_isA_nI ha, nI_clamp (n := t) (by omega), h, hb]
theorem fk_k1 (M : fk_S) (t : Nat) : fk_kOf M 1 t = M 1 t := fk_kf (by decide) (by decide) (by omega)
theorem fk_k0 (M : fk_S) (t : Nat) : fk_kOf M 0 t = M 0 t := fk_kf (by decide) (by decide) (by omega)
theorem fk_k10 (M : fk_S) (t : Nat) : fk_kOf M 10 t = M 10 t := fk_kf (by decide) (by decide) (by omega)
theorem fk_ksz {a b : Nat} {M : fk_S} (h : fk_I a b M) : fk_sz (fk_kOf M) := fk_sz_of (fk_kff (by decide) (by decide) (by decide)) (fk_ls_sz h.1)
theorem fk_I0 {a b : Nat} {M : fk_S} (h : fk_I a b M) (v : Int32) : fk_I a b (fk_up M 12 4 v) := fk_I_up h (by omega)
/-! one call of the law: the kernel's side, the model's side, and that they agree -/
def fk_Op (l : Launch) (D : va_G) (ad bd : Nat → Nat) (cI cT cJ : ClassId) (a b : Nat) (M : fk_S) (o : Nat) (f : Nat → Int64) (yk : MethodName) (wk : List Cond) (avk : List Value) (ym : MethodName) (wm : List Cond) (rm : Room) (avm : List Value) : Prop :=
  ∃ (k : Nat) (M' : fk_S) (f' : Nat → Int64) (r : Int32), k ≤ 3 ∧ M' 12 4 = nI k ∧ fk_I (a + 8) (b + 1000) M' ∧ (k = 0 → f' 0 = r.toInt64) ∧
    (∀ X, fk_L l D (fk_ty cI cT cJ) yk wk rm_L avk (fk_kW ad cI cT (fk_kOf M) ++ (o, fk_ou cJ f) :: X) (some (.int (nI k))) (fk_kW ad cI cT (fk_kOf M') ++ (o, fk_ou cJ f') :: X)) ∧
    (∀ X, fk_C l D (fk_ty cI cT cJ) ym wm rm avm (fk_mW bd cI M ++ X) (some (.int r)) (fk_mW bd cI M' ++ X))
def fk_OpB (l : Launch) (D : va_G) (ad bd : Nat → Nat) (cI cT cJ : ClassId) (a b : Nat) (M : fk_S) (o : Nat) (f : Nat → Int64) (yk : MethodName) (wk : List Cond) (avk : List Value) (ym : MethodName) (wm : List Cond) (rm : Room) (avm : List Value) : Prop :=
  ∃ (k : Nat) (M' : fk_S) (f' : Nat → Int64) (r : Bool), k ≤ 3 ∧ M' 12 4 = nI k ∧ fk_I (a + 8) (b + 1000) M' ∧ (k = 0 → f' 0 = fk_lb r) ∧
    (∀ X, fk_L l D (fk_ty cI cT cJ) yk wk rm_L avk (fk_kW ad cI cT (fk_kOf M) ++ (o, fk_ou cJ f) :: X) (some (.int (nI k))) (fk_kW ad cI cT (fk_kOf M') ++ (o, fk_ou cJ f') :: X)) ∧
    (∀ X, fk_C l D (fk_ty cI cT cJ) ym wm rm avm (fk_mW bd cI M ++ X) (some (.int (fk_b r))) (fk_mW bd cI M' ++ X))
def fk_OpV (l : Launch) (D : va_G) (ad bd : Nat → Nat) (cI cT cJ : ClassId) (a b : Nat) (M : fk_S) (yk : MethodName) (wk : List Cond) (avk : List Value) (ym : MethodName) (wm : List Cond) (rm : Room) (avm : List Value) : Prop :=
  ∃ (k : Nat) (M' : fk_S), k ≤ 3 ∧ M' 12 4 = nI k ∧ fk_I (a + 8) (b + 1000) M' ∧
    (∀ X, fk_L l D (fk_ty cI cT cJ) yk wk rm_L avk (fk_kW ad cI cT (fk_kOf M) ++ X) (some (.int (nI k))) (fk_kW ad cI cT (fk_kOf M') ++ X)) ∧
    (∀ X, fk_C l D (fk_ty cI cT cJ) ym wm rm avm (fk_mW bd cI M ++ X) none (fk_mW bd cI M' ++ X))
section
variable {l : Launch} {D : va_G} {ad bd : Nat → Nat} {cI cT cJ : ClassId} {a b : Nat} {M : fk_S} {o : Nat} {f : Nat → Int64} {yk : MethodName} {wk : List Cond} {avk : List Value} {ym : MethodName} {wm : List Cond} {rm : Room} {avm : List Value}
theorem fk_Op_no (h : fk_I a b M) (k : Nat) (hk : k ≤ 3) (hk0 : k ≠ 0) {u w : Int32} (hu : u = nI k) (hw : w = nI k)
    (hL : ∀ X, fk_L l D (fk_ty cI cT cJ) yk wk rm_L avk (fk_kW ad cI cT (fk_kOf M) ++ (o, fk_ou cJ f) :: X) (some (.int u)) (fk_kW ad cI cT (fk_kOf M) ++ (o, fk_ou cJ f) :: X))
    (hM : ∀ X, fk_C l D (fk_ty cI cT cJ) ym wm rm avm (fk_mW bd cI M ++ X) (some (.int 0)) (fk_mW bd cI (fk_up M 12 4 w) ++ X)) : fk_Op l D ad bd cI cT cJ a b M o f yk wk avk ym wm rm avm := by
  subst hu
  subst hw
  exact ⟨k, fk_up M 12 4 (nI k), f, 0, hk, fk_up_s .., (fk_I0 h _).wk (by omega) (by omega), fun z => absurd z hk0, fun X => by rw [fk_k_set]; exact hL X, hM⟩
theorem fk_Op_ok {M' S1 : fk_S} {v r : Int32} (e1 : S1 = fk_kOf M') (e2 : v = r) (h4 : M' 12 4 = 0) (hI : fk_I (a + 8) (b + 1000) M')
    (hL : ∀ X, fk_L l D (fk_ty cI cT cJ) yk wk rm_L avk (fk_kW ad cI cT (fk_kOf M) ++ (o, fk_ou cJ f) :: X) (some (.int 0)) (fk_kW ad cI cT S1 ++ (o, fk_ou cJ (vp_updL f 0 v.toInt64)) :: X))
    (hM : ∀ X, fk_C l D (fk_ty cI cT cJ) ym wm rm avm (fk_mW bd cI M ++ X) (some (.int r)) (fk_mW bd cI M' ++ X)) : fk_Op l D ad bd cI cT cJ a b M o f yk wk avk ym wm rm avm := by
  subst e1
  subst e2
  exact ⟨0, M', _, v, by omega, h4, hI, fun _ => by simp [vp_updL], hL, hM⟩
theorem fk_OpB_no (h : fk_I a b M) (k : Nat) (hk : k ≤ 3) (hk0 : k ≠ 0) {u w : Int32} (hu : u = nI k) (hw : w = nI k)
    (hL : ∀ X, fk_L l D (fk_ty cI cT cJ) yk wk rm_L avk (fk_kW ad cI cT (fk_kOf M) ++ (o, fk_ou cJ f) :: X) (some (.int u)) (fk_kW ad cI cT (fk_kOf M) ++ (o, fk_ou cJ f) :: X))
    (hM : ∀ X, fk_C l D (fk_ty cI cT cJ) ym wm rm avm (fk_mW bd cI M ++ X) (some (.int 0)) (fk_mW bd cI (fk_up M 12 4 w) ++ X)) : fk_OpB l D ad bd cI cT cJ a b M o f yk wk avk ym wm rm avm := by
  subst hu
  subst hw
  exact ⟨k, fk_up M 12 4 (nI k), f, false, hk, fk_up_s .., (fk_I0 h _).wk (by omega) (by omega), fun z => absurd z hk0, fun X => by rw [fk_k_set]; exact hL X, hM⟩
theorem fk_OpB_ok {M' S1 : fk_S} {v r : Bool} (e1 : S1 = fk_kOf M') (e2 : v = r) (h4 : M' 12 4 = 0) (hI : fk_I (a + 8) (b + 1000) M')
    (hL : ∀ X, fk_L l D (fk_ty cI cT cJ) yk wk rm_L avk (fk_kW ad cI cT (fk_kOf M) ++ (o, fk_ou cJ f) :: X) (some (.int 0)) (fk_kW ad cI cT S1 ++ (o, fk_ou cJ (vp_updL f 0 (fk_lb v))) :: X))
    (hM : ∀ X, fk_C l D (fk_ty cI cT cJ) ym wm rm avm (fk_mW bd cI M ++ X) (some (.int (fk_b r))) (fk_mW bd cI M' ++ X)) : fk_OpB l D ad bd cI cT cJ a b M o f yk wk avk ym wm rm avm := by
  subst e1
  subst e2
  exact ⟨0, M', _, v, by omega, h4, hI, fun _ => by simp [vp_updL], hL, hM⟩
theorem fk_OpV_no (h : fk_I a b M) (k : Nat) (hk : k ≤ 3) {u w : Int32} (hu : u = nI k) (hw : w = nI k)
    (hL : ∀ X, fk_L l D (fk_ty cI cT cJ) yk wk rm_L avk (fk_kW ad cI cT (fk_kOf M) ++ X) (some (.int u)) (fk_kW ad cI cT (fk_kOf M) ++ X))
    (hM : ∀ X, fk_C l D (fk_ty cI cT cJ) ym wm rm avm (fk_mW bd cI M ++ X) none (fk_mW bd cI (fk_up M 12 4 w) ++ X)) : fk_OpV l D ad bd cI cT cJ a b M yk wk avk ym wm rm avm := by
  subst hu
  subst hw
  exact ⟨k, fk_up M 12 4 (nI k), hk, fk_up_s .., (fk_I0 h _).wk (by omega) (by omega), fun X => by rw [fk_k_set]; exact hL X, hM⟩
theorem fk_OpV_ok {M' S1 : fk_S} (e1 : S1 = fk_kOf M') (h4 : M' 12 4 = 0) (hI : fk_I (a + 8) (b + 1000) M')
    (hL : ∀ X, fk_L l D (fk_ty cI cT cJ) yk wk rm_L avk (fk_kW ad cI cT (fk_kOf M) ++ X) (some (.int 0)) (fk_kW ad cI cT S1 ++ X))
    (hM : ∀ X, fk_C l D (fk_ty cI cT cJ) ym wm rm avm (fk_mW bd cI M ++ X) none (fk_mW bd cI M' ++ X)) : fk_OpV l D ad bd cI cT cJ a b M yk wk avk ym wm rm avm := by
  subst e1
  exact ⟨0, M', by omega, h4, hI, hL, hM⟩
end
