/-! the numbers of a state: field f, place i. 0 words, 1 state, 2 priority, 3 address, 4 mask, 5 deadline, 6 begun, 7 joined, 8 result, 9 serial, 10 how many locks, 11 the lists of locks (16 a thread), 12 time, ends, begins, joins, thrown -/
abbrev fk_S : Type := Nat → Nat → Int32
def fk_up (S : fk_S) (f i : Nat) (v : Int32) : fk_S := fun a => if a = f then fun b => if b = i then v else S a b else S a
theorem fk_up_s (S : fk_S) (f i : Nat) (v : Int32) : fk_up S f i v f i = v := by simp [fk_up]
theorem fk_up_f {S : fk_S} {f i : Nat} {v : Int32} {a : Nat} (h : a ≠ f) : fk_up S f i v a = S a := by simp [fk_up, h]
theorem fk_up_i {S : fk_S} {f i : Nat} {v : Int32} {b : Nat} (h : b ≠ i) : fk_up S f i v f b = S f b := by simp [fk_up, h]
theorem fk_up_fun (S : fk_S) (f i : Nat) (v : Int32) : fk_up S f i v f = upd (S f) i v := by funext b; simp [fk_up, upd]
/-! the kernel's cells: itself, the words, the tasks' row, 8 tasks, 8 lists, 8 rows of the lists -/
def fk_fK (ad : Nat → Nat) (S : fk_S) : List Value := [.ref (ad 1), .ref (ad 2), .int (S 12 0), .int (S 12 1), .int (S 12 2), .int (S 12 3)]
def fk_fT (ad : Nat → Nat) (S : fk_S) (t : Nat) : List Value := [.int (nI t), .ref (ad (11 + t)), .int (S 1 t), .int (S 2 t), .int (S 3 t), .int (S 4 t), .int (S 5 t), .int (S 6 t), .int (S 7 t), .int (S 8 t), .int (S 9 t)]
def fk_fL (ad : Nat → Nat) (S : fk_S) (t : Nat) : List Value := [.ref (ad (19 + t)), .int (S 10 t)]
def fk_row (S : fk_S) (t : Nat) : Nat → Int32 := fun j => if j < 16 then S 11 (16 * t + j) else 0
def fk_kE (ad : Nat → Nat) (cI cT : ClassId) (S : fk_S) (k : Nat) : va_E :=
  if k = 0 then .inr (2, fk_fK ad S) else if k = 1 then .inl (cI, 16, .inl (S 0)) else if k = 2 then .inl (cT, 8, .inr (.inr (.inr (.inr (fun t => some (ad (3 + t))))))) else
  if k < 11 then .inr (1, fk_fT ad S (k - 3)) else if k < 19 then .inr (0, fk_fL ad S (k - 11)) else .inl (cI, 16, .inl (fk_row S (k - 19)))
def fk_kW (ad : Nat → Nat) (cI cT : ClassId) (S : fk_S) : va_W := (List.range 27).map (fun k => (ad k, fk_kE ad cI cT S k))
section
variable {ad : Nat → Nat} {cI cT : ClassId} {S : fk_S} {X : va_W} {t : Nat}
theorem fk_kAt {k : Nat} (h : k < 27) : (fk_kW ad cI cT S ++ X)[k]? = some (ad k, fk_kE ad cI cT S k) := by
  rw [List.getElem?_append_left (by simp [fk_kW, h])]
  simp [fk_kW, h]
theorem fk_atK : (fk_kW ad cI cT S ++ X)[0]? = some (ad 0, .inr (2, fk_fK ad S)) := fk_kAt (by decide)
theorem fk_atW : (fk_kW ad cI cT S ++ X)[1]? = some (ad 1, .inl (cI, 16, .inl (S 0))) := fk_kAt (by decide)
theorem fk_atA : (fk_kW ad cI cT S ++ X)[2]? = some (ad 2, .inl (cT, 8, .inr (.inr (.inr (.inr (fun t => some (ad (3 + t)))))))) := fk_kAt (by decide)
theorem fk_eT (h : t < 8) : fk_kE ad cI cT S (3 + t) = .inr (1, fk_fT ad S t) := by
  unfold fk_kE
  rw [if_neg (by omega), if_neg (by omega), if_neg (by omega), if_pos (by omega), Nat.add_sub_cancel_left]
theorem fk_eL (h : t < 8) : fk_kE ad cI cT S (11 + t) = .inr (0, fk_fL ad S t) := by
  unfold fk_kE
  rw [if_neg (by omega), if_neg (by omega), if_neg (by omega), if_neg (by omega), if_pos (by omega), Nat.add_sub_cancel_left]
theorem fk_eR (h : t < 8) : fk_kE ad cI cT S (19 + t) = .inl (cI, 16, .inl (fk_row S t)) := by
  unfold fk_kE
  rw [if_neg (by omega), if_neg (by omega), if_neg (by omega), if_neg (by omega), if_neg (by omega), Nat.add_sub_cancel_left]
theorem fk_atT (h : t < 8) : (fk_kW ad cI cT S ++ X)[3 + t]? = some (ad (3 + t), .inr (1, fk_fT ad S t)) := by rw [fk_kAt (by omega), fk_eT h]
theorem fk_atL (h : t < 8) : (fk_kW ad cI cT S ++ X)[11 + t]? = some (ad (11 + t), .inr (0, fk_fL ad S t)) := by rw [fk_kAt (by omega), fk_eL h]
theorem fk_atR (h : t < 8) : (fk_kW ad cI cT S ++ X)[19 + t]? = some (ad (19 + t), .inl (cI, 16, .inl (fk_row S t))) := by rw [fk_kAt (by omega), fk_eR h]
theorem fk_kSet {S' : fk_S} {k : Nat} {e : va_E} (h : k < 27) (he : e = fk_kE ad cI cT S' k) (ho : ∀ j, j < 27 → j ≠ k → fk_kE ad cI cT S' j = fk_kE ad cI cT S j) : (fk_kW ad cI cT S ++ X).set k (ad k, e) = fk_kW ad cI cT S' ++ X := by
  subst he
  apply List.ext_getElem?
  intro i
  by_cases hi : i = k
  · subst hi
    rw [List.getElem?_set_self (by simp [fk_kW]; omega), fk_kAt h]
  · rw [List.getElem?_set_ne (Ne.symm hi)]
    by_cases h27 : i < 27
    · rw [fk_kAt h27, fk_kAt h27, ho i h27 hi]
    · rw [List.getElem?_append_right (by simp [fk_kW]; omega), List.getElem?_append_right (by simp [fk_kW]; omega)]
      simp [fk_kW]
/-- what a write of one number changes of the cells -/
theorem fk_kOther {f i : Nat} {v : Int32} {k : Nat} (hk : (f = 0 ∧ k = 1) ∨ (1 ≤ f ∧ f ≤ 9 ∧ k = 3 + i) ∨ (f = 10 ∧ k = 11 + i) ∨ (f = 11 ∧ k = 19 + i / 16) ∨ (f = 12 ∧ k = 0)) {j : Nat} (hj : j < 27) (hne : j ≠ k) : fk_kE ad cI cT (fk_up S f i v) j = fk_kE ad cI cT S j := by
  unfold fk_kE
  by_cases h0 : j = 0
  · rw [if_pos h0, if_pos h0]
    unfold fk_fK
    rw [fk_up_f (a := 12) (by omega)]
  · rw [if_neg h0, if_neg h0]
    by_cases h1 : j = 1
    · rw [if_pos h1, if_pos h1, fk_up_f (a := 0) (by omega)]
    · rw [if_neg h1, if_neg h1]
      by_cases h2 : j = 2
      · rw [if_pos h2, if_pos h2]
      · rw [if_neg h2, if_neg h2]
        have key : ∀ a, (1 ≤ a ∧ a ≤ 9 ∧ j < 11) → fk_up S f i v a (j - 3) = S a (j - 3) := by
          intro a ha
          by_cases hf : a = f
          · subst hf
            exact fk_up_i (by omega)
          · rw [fk_up_f hf]
        by_cases h3 : j < 11
        · rw [if_pos h3, if_pos h3]
          unfold fk_fT
          rw [key 1 (by omega), key 2 (by omega), key 3 (by omega), key 4 (by omega), key 5 (by omega), key 6 (by omega), key 7 (by omega), key 8 (by omega), key 9 (by omega)]
        · rw [if_neg h3, if_neg h3]
          by_cases h4 : j < 19
          · rw [if_pos h4, if_pos h4]
            unfold fk_fL
            have : fk_up S f i v 10 (j - 11) = S 10 (j - 11) := by
              by_cases hf : 10 = f
              · subst hf
                exact fk_up_i (by omega)
              · rw [fk_up_f hf]
            rw [this]
          · rw [if_neg h4, if_neg h4]
            have : fk_row (fk_up S f i v) (j - 19) = fk_row S (j - 19) := by
              funext q
              unfold fk_row
              by_cases hq : q < 16
              · rw [if_pos hq, if_pos hq]
                by_cases hf : 11 = f
                · subst hf
                  exact fk_up_i (by omega)
                · rw [fk_up_f hf]
              · rw [if_neg hq, if_neg hq]
            rw [this]
theorem fk_setK {f : Nat} {v : Int32} {fs : List Value} (h : fs = fk_fK ad (fk_up S 12 f v)) : (fk_kW ad cI cT S ++ X).set 0 (ad 0, .inr (2, fs)) = fk_kW ad cI cT (fk_up S 12 f v) ++ X := by
  subst h
  exact fk_kSet (by decide) rfl (fun j hj hne => fk_kOther (by omega) hj hne)
theorem fk_setW {i : Nat} {v : Int32} : (fk_kW ad cI cT S ++ X).set 1 (ad 1, .inl (cI, 16, .inl (upd (S 0) i v))) = fk_kW ad cI cT (fk_up S 0 i v) ++ X :=
  fk_kSet (by decide) (by rw [← fk_up_fun]; rfl) (fun j hj hne => fk_kOther (by omega) hj hne)
theorem fk_setT {f : Nat} {v : Int32} {fs : List Value} (ht : t < 8) (hf : 1 ≤ f ∧ f ≤ 9) (h : fs = fk_fT ad (fk_up S f t v) t) : (fk_kW ad cI cT S ++ X).set (3 + t) (ad (3 + t), .inr (1, fs)) = fk_kW ad cI cT (fk_up S f t v) ++ X := by
  subst h
  exact fk_kSet (by omega) (fk_eT ht).symm (fun j hj hne => fk_kOther (by omega) hj hne)
theorem fk_setL {v : Int32} {fs : List Value} (ht : t < 8) (h : fs = fk_fL ad (fk_up S 10 t v) t) : (fk_kW ad cI cT S ++ X).set (11 + t) (ad (11 + t), .inr (0, fs)) = fk_kW ad cI cT (fk_up S 10 t v) ++ X := by
  subst h
  exact fk_kSet (by omega) (fk_eL ht).symm (fun j hj hne => fk_kOther (by omega) hj hne)
theorem fk_rowUp {i : Nat} {v : Int32} (hi : i < 16) : upd (fk_row S t) i v = fk_row (fk_up S 11 (16 * t + i) v) t := by
  funext q
  unfold upd fk_row
  by_cases hq : q = i
  · subst hq
    rw [if_pos rfl, if_pos hi, fk_up_s]
  · rw [if_neg hq]
    by_cases h16 : q < 16
    · rw [if_pos h16, if_pos h16, fk_up_i (by omega)]
    · rw [if_neg h16, if_neg h16]
theorem fk_setR {i : Nat} {v : Int32} (ht : t < 8) (hi : i < 16) : (fk_kW ad cI cT S ++ X).set (19 + t) (ad (19 + t), .inl (cI, 16, .inl (upd (fk_row S t) i v))) = fk_kW ad cI cT (fk_up S 11 (16 * t + i) v) ++ X :=
  fk_kSet (by omega) (by rw [fk_rowUp hi, fk_eR ht]) (fun j hj hne => fk_kOther (by omega) hj hne)
end
