abbrev rm_E : Room := { frames := 10, cells := 2, slots := 12, locals := 330 }
def kq_Phi (ad : Nat → Nat) (cI cT : ClassId) (q : Nat) (X : va_W) (m : Nat) : va_W → Option Value → Prop := fun W1 v => v = some (.int 1) ∧ ∃ S1 P1, W1 = fk_kW ad cI cT S1 ++ (q, fk_pr cI P1) :: X ∧ kq_G m S1 P1
/-! which arguments name nothing -/
theorem fk_oA {th av : Int32} (h : th < 0) : (1 : Int32) = fk_b (!(fk_isT th && fk_isA av)) := by
  have : fk_isT th = false := by
    unfold fk_isT
    rw [decide_eq_false (Int32.not_le.mpr h)]
    rfl
  rw [this]
  rfl
theorem fk_oB {th av : Int32} (h : 7 < th) : (1 : Int32) = fk_b (!(fk_isT th && fk_isA av)) := by
  have : fk_isT th = false := by
    unfold fk_isT
    rw [decide_eq_false (p := th < 8) (fun h9 => by
      rw [Int32.lt_iff_toInt_lt] at h h9
      have e1 : (7 : Int32).toInt = 7 := rfl
      have e2 : (8 : Int32).toInt = 8 := rfl
      omega)]
    exact Bool.and_false _
  rw [this]
  rfl
theorem fk_oC {th av : Int32} (h : av < 0) : (1 : Int32) = fk_b (!(fk_isT th && fk_isA av)) := by
  have : fk_isA av = false := by
    unfold fk_isA
    rw [decide_eq_false (Int32.not_le.mpr h)]
    rfl
  rw [this, Bool.and_false]
  rfl
theorem fk_oD {th av : Int32} (h : ¬ av ≤ 15) : (1 : Int32) = fk_b (!(fk_isT th && fk_isA av)) := by
  have : fk_isA av = false := by
    unfold fk_isA
    rw [decide_eq_false (p := av < 16) (fun h9 => h (by
      rw [Int32.lt_iff_toInt_lt] at h9
      rw [Int32.le_iff_toInt_le]
      have e1 : (15 : Int32).toInt = 15 := rfl
      have e2 : (16 : Int32).toInt = 16 := rfl
      omega))]
    exact Bool.and_false _
  rw [this, Bool.and_false]
  rfl
theorem fk_isT_iff {th : Int32} (h1 : ¬ th < 0) (h2 : ¬ 7 < th) : fk_isT th = true := by
  unfold fk_isT
  rw [decide_eq_true (Int32.not_lt.mp h1), decide_eq_true (p := th < 8)]
  · rfl
  · rw [Int32.lt_iff_toInt_lt] at h2 ⊢
    have e1 : (7 : Int32).toInt = 7 := rfl
    have e2 : (8 : Int32).toInt = 8 := rfl
    omega
theorem fk_isA_iff {av : Int32} (h1 : ¬ av < 0) (h2 : av ≤ 15) : fk_isA av = true := by
  unfold fk_isA
  rw [decide_eq_true (Int32.not_lt.mp h1), decide_eq_true (p := av < 16)]
  · rfl
  · rw [Int32.le_iff_toInt_le] at h2
    rw [Int32.lt_iff_toInt_lt]
    have e1 : (15 : Int32).toInt = 15 := rfl
    have e2 : (16 : Int32).toInt = 16 := rfl
    omega
theorem fk_oE {th av : Int32} (h1 : ¬ th < 0) (h2 : ¬ 7 < th) (h3 : ¬ av < 0) (h4 : av ≤ 15) : (0 : Int32) = fk_b (!(fk_isT th && fk_isA av)) := by
  rw [fk_isT_iff h1 h2, fk_isA_iff h3 h4]
  rfl
theorem fk_isA_of {w : Int32} (h : fk_isA w = true) : ∃ u, u < 16 ∧ w = nI u := vp_in_of (fk_isA_in h) (by decide)
/-! refusals -/
section
variable (l : Launch) (D : va_G) (ad : Nat → Nat) (cI cT cJ : ClassId) (S : fk_S)
theorem xo_compareAndSet (th av x v : Int32) (hst : l.stackTraces = false) (h : (fk_isT th && fk_isA av) = false) : ∀ X, fk_X l D (fk_ty cI cT cJ) yX2_compareAndSet wsX2_compareAndSet rx_pub [.ref (ad 0), .int th, .int av, .int x, .int v] (fk_kW ad cI cT S ++ X) "java/lang/IndexOutOfBoundsException" := by
  intro X
  cases h1 : fk_isT th with
  | false => exact kx_compareAndSet_1 l D ad cI cT cJ X S hst th av x v h1
  | true =>
    rw [h1, Bool.true_and] at h
    obtain ⟨t, ht, rfl⟩ := fk_isT_of h1
    exact kx_compareAndSet_2 l D ad cI cT cJ X S hst t ht av x v h
theorem xo_await (th av x mk to : Int32) (hst : l.stackTraces = false) (h : (fk_isT th && fk_isA av) = false) : ∀ X, fk_X l D (fk_ty cI cT cJ) yX2_await wsX2_await rx_pub [.ref (ad 0), .int th, .int av, .int x, .int mk, .int to] (fk_kW ad cI cT S ++ X) "java/lang/IndexOutOfBoundsException" := by
  intro X
  cases h1 : fk_isT th with
  | false => exact kx_await_1 l D ad cI cT cJ X S hst th av x mk to h1
  | true =>
    rw [h1, Bool.true_and] at h
    obtain ⟨t, ht, rfl⟩ := fk_isT_of h1
    exact kx_await_2 l D ad cI cT cJ X S hst t ht av x mk to h
theorem xo_wake (th av mo mk : Int32) (hst : l.stackTraces = false) (h : (fk_isT th && fk_isA av) = false) : ∀ X, fk_X l D (fk_ty cI cT cJ) yX2_wake wsX2_wake rx_pub [.ref (ad 0), .int th, .int av, .int mo, .int mk] (fk_kW ad cI cT S ++ X) "java/lang/IndexOutOfBoundsException" := by
  intro X
  cases h1 : fk_isT th with
  | false => exact kx_wake_1 l D ad cI cT cJ X S hst th av mo mk h1
  | true =>
    rw [h1, Bool.true_and] at h
    obtain ⟨t, ht, rfl⟩ := fk_isT_of h1
    exact kx_wake_2 l D ad cI cT cJ X S hst t ht av mo mk h
theorem xo_lock (th av to : Int32) (hst : l.stackTraces = false) (h : (fk_isT th && fk_isA av) = false) : ∀ X, fk_X l D (fk_ty cI cT cJ) yX2_lock wsX2_lock rx_pub [.ref (ad 0), .int th, .int av, .int to] (fk_kW ad cI cT S ++ X) "java/lang/IndexOutOfBoundsException" := by
  intro X
  cases h1 : fk_isT th with
  | false => exact kx_lock_1 l D ad cI cT cJ X S hst th av to h1
  | true =>
    rw [h1, Bool.true_and] at h
    obtain ⟨t, ht, rfl⟩ := fk_isT_of h1
    exact kx_lock_2 l D ad cI cT cJ X S hst t ht av to h
theorem xo_awaitA (t a : Nat) (ht : t < 8) (ha : a < 16) (x mk to : Int32) (hst : l.stackTraces = false) (h : (fk_btw mk 1 255 && fk_btw to 0 10000) = false) : ∀ X, fk_X l D (fk_ty cI cT cJ) yX2_await wsX2_await rx_pub [.ref (ad 0), .int (nI t), .int (nI a), .int x, .int mk, .int to] (fk_kW ad cI cT S ++ X) "java/lang/IllegalArgumentException" := by
  intro X
  cases h1 : fk_btw mk 1 255 with
  | false => exact kx_await_3 l D ad cI cT cJ X S hst t ht a ha x mk to h1
  | true =>
    rw [h1, Bool.true_and] at h
    exact kx_await_4 l D ad cI cT cJ X S hst t ht a ha x mk to h1 h
theorem xo_wakeA (t a : Nat) (ht : t < 8) (ha : a < 16) (mo mk : Int32) (hst : l.stackTraces = false) (h : (fk_btw mo 1 8 && fk_btw mk 1 255) = false) : ∀ X, fk_X l D (fk_ty cI cT cJ) yX2_wake wsX2_wake rx_pub [.ref (ad 0), .int (nI t), .int (nI a), .int mo, .int mk] (fk_kW ad cI cT S ++ X) "java/lang/IllegalArgumentException" := by
  intro X
  cases h1 : fk_btw mo 1 8 with
  | false => exact kx_wake_3 l D ad cI cT cJ X S hst t ht a ha mo mk h1
  | true =>
    rw [h1, Bool.true_and] at h
    exact kx_wake_4 l D ad cI cT cJ X S hst t ht a ha mo mk h1 h
theorem xo_requeue (th av x wk bv mv : Int32) (hst : l.stackTraces = false) (h : (fk_isT th && fk_isA av && fk_isA bv) = false) : ∀ X, fk_X l D (fk_ty cI cT cJ) yX2_requeue wsX2_requeue rx_pub [.ref (ad 0), .int th, .int av, .int x, .int wk, .int bv, .int mv] (fk_kW ad cI cT S ++ X) "java/lang/IndexOutOfBoundsException" := by
  intro X
  cases h1 : fk_isT th with
  | false => exact kx_requeue_1 l D ad cI cT cJ X S hst th av x wk bv mv h1
  | true =>
    rw [h1, Bool.true_and] at h
    obtain ⟨t, ht, rfl⟩ := fk_isT_of h1
    cases h2 : fk_isA av with
    | false => exact kx_requeue_2 l D ad cI cT cJ X S hst t ht av x wk bv mv h2
    | true =>
      rw [h2, Bool.true_and] at h
      obtain ⟨a, ha, rfl⟩ := fk_isA_of h2
      exact kx_requeue_3 l D ad cI cT cJ X S hst t ht a ha x wk bv mv h
theorem xo_requeueA (t a b : Nat) (ht : t < 8) (ha : a < 16) (hb9 : b < 16) (x wk mv : Int32) (hst : l.stackTraces = false) (h : (!decide (nI a = nI b) && (fk_btw wk 0 8 && fk_btw mv 0 8)) = false) : ∀ X, fk_X l D (fk_ty cI cT cJ) yX2_requeue wsX2_requeue rx_pub [.ref (ad 0), .int (nI t), .int (nI a), .int x, .int wk, .int (nI b), .int mv] (fk_kW ad cI cT S ++ X) "java/lang/IllegalArgumentException" := by
  intro X
  by_cases e : a = b
  · subst e
    exact kx_requeue_4 l D ad cI cT cJ X S hst t ht a ha x wk mv
  · have e9 : ¬ nI a = nI b := fun h9 => e ((nI_eq (by omega) (by omega)).mp h9)
    rw [decide_eq_false e9, Bool.not_false, Bool.true_and] at h
    cases h1 : fk_btw wk 0 8 with
    | false => exact kx_requeue_5 l D ad cI cT cJ X S hst t ht a ha b hb9 e x wk mv h1
    | true =>
      rw [h1, Bool.true_and] at h
      exact kx_requeue_6 l D ad cI cT cJ X S hst t ht a ha b hb9 e x wk mv h1 h
/-! words -/
theorem kl_casT (X : va_W) (t : Nat) (ht : t < 8) (a : Nat) (ha : a < 16) (v : Int32) (hr0 : S 1 t = 0) : fk_C l D (fk_ty cI cT cJ) yX2_compareAndSet wsX2_compareAndSet rmX2_compareAndSet [.ref (ad 0), .int (nI t), .int (nI a), .int (S 0 a), .int v] (fk_kW ad cI cT S ++ X) (some (.int 1)) (fk_kW ad cI cT (fk_up S 0 a v) ++ X) := by
  have h := kc_compareAndSet l D ad cI cT cJ X S t ht a ha (S 0 a) v hr0
  rw [if_pos rfl, decide_eq_true rfl] at h
  exact h
theorem kl_casF (X : va_W) (t : Nat) (ht : t < 8) (a : Nat) (ha : a < 16) (x v : Int32) (hr0 : S 1 t = 0) (hne : ¬ S 0 a = x) : fk_C l D (fk_ty cI cT cJ) yX2_compareAndSet wsX2_compareAndSet rmX2_compareAndSet [.ref (ad 0), .int (nI t), .int (nI a), .int x, .int v] (fk_kW ad cI cT S ++ X) (some (.int 0)) (fk_kW ad cI cT S ++ X) := by
  have h := kc_compareAndSet l D ad cI cT cJ X S t ht a ha x v hr0
  rw [if_neg hne, decide_eq_false hne] at h
  exact h
end
