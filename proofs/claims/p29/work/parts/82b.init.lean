/-! the kernel's own: eight tasks, one after the other -/
def fk_TL (cI : ClassId) : Nat → List (Nat × Nat × Nat) → va_W
  | _, [] => []
  | i, x :: L => fk_ti (nI i) x.1 x.2.1 x.2.2 cI ++ fk_TL cI (i + 1) L
theorem fk_TL_snoc (cI : ClassId) (x : Nat × Nat × Nat) : ∀ (L : List (Nat × Nat × Nat)) (i : Nat), fk_TL cI i (L ++ [x]) = fk_TL cI i L ++ fk_ti (nI (i + L.length)) x.1 x.2.1 x.2.2 cI := by
  intro L
  induction L with
  | nil => intro i; simp [fk_TL]
  | cons y L ih =>
    intro i
    show fk_ti (nI i) y.1 y.2.1 y.2.2 cI ++ fk_TL cI (i + 1) (L ++ [x]) = (fk_ti (nI i) y.1 y.2.1 y.2.2 cI ++ fk_TL cI (i + 1) L) ++ _
    rw [ih (i + 1), List.append_assoc, show i + 1 + L.length = i + (y :: L).length by simp; omega]
def fk_tf8 (L : List (Nat × Nat × Nat)) : Nat → Option Nat := fun i => (L[i]?).map (fun x => x.1)
theorem fk_tf8_up (L : List (Nat × Nat × Nat)) (x : Nat × Nat × Nat) : va_up (fk_tf8 L) L.length (some x.1) = fk_tf8 (L ++ [x]) := by
  funext i
  unfold va_up fk_tf8
  by_cases h : i = L.length
  · subst h
    rw [if_pos rfl]
    simp
  · rw [if_neg h]
    rcases Nat.lt_or_ge i L.length with h1 | h1
    · rw [List.getElem?_append_left h1]
    · rw [List.getElem?_eq_none h1, List.getElem?_eq_none (by simp; omega)]
theorem fk_len8 {L : List (Nat × Nat × Nat)} (h : L.length = 8) : ∃ a b c d e f g i, L = [a, b, c, d, e, f, g, i] := by
  match L, h with
  | [a, b, c, d, e, f, g, i], _ => exact ⟨a, b, c, d, e, f, g, i, rfl⟩
/-- behind a call whose world is the last cell -/
theorem fk_joinL {A0 : Nat → Prop} {D : va_G} {cl : List vw_C} {R w1 : va_W} {x : Nat × va_E} {H H1 : Heap} (hP : va_P D cl (R ++ [x]) H) (hD : va_D A0 (R ++ [x]))
    (hk : ∀ q : Nat, q < H.size → ¬ va_A [x] H.size q → H1[q]? = H[q]?) (hF : ∀ q, va_A [x] H.size q → A0 q) (hP1 : va_P D cl w1 H1) (hD1 : va_D (va_A [x] H.size) w1) : va_P D cl (R ++ w1) H1 ∧ va_D A0 (R ++ w1) := by
  have at' : ∀ (k : Nat) (q : Nat × va_E), R[k]? = some q → (R ++ [x])[k]? = some q := fun k q h => by
    rw [List.getElem?_append_left (List.getElem?_eq_some_iff.mp h).1]
    exact h
  have hx : (R ++ [x])[R.length]? = some x := by simp
  have apart : ∀ (k : Nat) (q : Nat × va_E), R[k]? = some q → q.1 < H.size ∧ ¬ va_A [x] H.size q.1 := by
    intro k q h
    have hl := (hP k q (at' k q h)).lt
    refine ⟨hl, fun z => ?_⟩
    rcases z with ⟨k2, e, z⟩ | z
    · have hk2 : k2 < 1 := (List.getElem?_eq_some_iff.mp z).1
      rw [show k2 = 0 by omega] at z
      have hz : x = (q.1, e) := Option.some.inj z
      have := hD.1 k R.length q x (at' k q h) hx (by rw [hz])
      have := (List.getElem?_eq_some_iff.mp h).1
      omega
    · omega
  refine ⟨va_P.app (fun k q h => ?_) hP1, va_D.app ⟨fun i j p q hi hj e => hD.1 i j p q (at' i p hi) (at' j q hj) e, fun k q h => hD.2 k q (at' k q h)⟩ (hD1.weaken (fun k q _ h => hF q.1 h)) (fun i j p q hi hj e => ?_)⟩
  · obtain ⟨g1, g2⟩ := apart k q h
    exact (hP k q (at' k q h)).kept (hk q.1 g1 g2)
  · exact (apart i p hi).2 (by rw [e]; exact hD1.2 j q hj)
theorem fk_recell {D : va_G} {cl : List vw_C} {ws : va_W} {H : Heap} {q0 a n : Nat} {cA : ClassId} {f g : Nat → Option Nat} (hP : va_P D cl ws H) (he : ws[q0]? = some (a, .inl (cA, n, .inr (.inr (.inr (.inr f)))))) (hfg : ∀ i, i < n → f i = g i) : va_P D cl (ws.set q0 (a, .inl (cA, n, .inr (.inr (.inr (.inr g)))))) H := by
  have hl := (List.getElem?_eq_some_iff.mp he).1
  intro k q hk
  by_cases hkp : k = q0
  · subst hkp
    rw [List.getElem?_set_self hl] at hk
    cases hk
    have h9 : H[a]? = some (vp_cell cA (n, .inr (.inr (.inr (.inr f))))) := hP k _ he
    show H[a]? = some (vp_cell cA (n, .inr (.inr (.inr (.inr g)))))
    rw [h9, vp_cell_q, vp_cell_q]
    unfold arrV
    refine congrArg some (congrArg (fun z => ({ cls := cA, slots := z, vm := .none } : Cell)) ?_)
    refine congrArg Array.ofFn (funext fun j => ?_)
    show va_rf (f j.val) = va_rf (g j.val)
    rw [hfg j.val j.isLt]
  · rw [List.getElem?_set_ne (Ne.symm hkp)] at hk
    exact hP k q hk
abbrev fk_kz (h0 : Nat) : va_W := [(h0, .inr (2, [.null, .null, .int 0, .int 0, .int 0, .int 0]))]
abbrev fk_kr3 (h0 q1 q2 : Nat) (cI cT : ClassId) (f : Nat → Option Nat) : va_W := [(h0, .inr (2, [.ref q1, .ref q2, .int 0, .int 0, .int 0, .int 0])), (q1, .inl (cI, 16, .inl (fk_Mt 0 0))), (q2, .inl (cT, 8, .inr (.inr (.inr (.inr f)))))]
abbrev fk_at2 (D : va_G) (A : Nat → Prop) (u : (Nat → Nat) × ClassId × ClassId) (t : State) : Prop := va_P D vwCl (fk_kW u.1 u.2.1 u.2.2 fk_S0) t.heap ∧ va_K D vwCl [(u.2.1, .int), (u.2.2, .object RX1)] t ∧ va_D A (fk_kW u.1 u.2.1 u.2.2 fk_S0)
def fk_adL (l : List Nat) : Nat → Nat := fun k => (l[k]?).getD 0
set_option maxRecDepth 20000 in
theorem fk_k27 {D : va_G} {A : Nat → Prop} {H : Heap} {h0 q1 q2 : Nat} {cI cT : ClassId} {L : List (Nat × Nat × Nat)} (h8 : L.length = 8) (hP : va_P D vwCl (fk_kr3 h0 q1 q2 cI cT (fk_tf8 L) ++ fk_TL cI 0 L) H) (hD : va_D A (fk_kr3 h0 q1 q2 cI cT (fk_tf8 L) ++ fk_TL cI 0 L)) : ∃ ad : Nat → Nat, ad 0 = h0 ∧ va_P D vwCl (fk_kW ad cI cT fk_S0) H ∧ va_D A (fk_kW ad cI cT fk_S0) := by
  obtain ⟨x0, x1, x2, x3, x4, x5, x6, x7, rfl⟩ := fk_len8 h8
  have hs := fk_recell (g := fun t => some (fk_adL [h0, q1, q2, x0.1, x1.1, x2.1, x3.1, x4.1, x5.1, x6.1, x7.1, x0.2.1, x1.2.1, x2.2.1, x3.2.1, x4.2.1, x5.2.1, x6.2.1, x7.2.1, x0.2.2, x1.2.2, x2.2.2, x3.2.2, x4.2.2, x5.2.2, x6.2.2, x7.2.2] (3 + t))) (q0 := 2) hP rfl (fun i hi => by
    rcases (show i = 0 ∨ i = 1 ∨ i = 2 ∨ i = 3 ∨ i = 4 ∨ i = 5 ∨ i = 6 ∨ i = 7 by omega) with rfl | rfl | rfl | rfl | rfl | rfl | rfl | rfl <;> rfl)
  have hd := va_D.set (p := 2) (e := .inl (cT, 8, .inr (.inr (.inr (.inr (fun t => some (fk_adL [h0, q1, q2, x0.1, x1.1, x2.1, x3.1, x4.1, x5.1, x6.1, x7.1, x0.2.1, x1.2.1, x2.2.1, x3.2.1, x4.2.1, x5.2.1, x6.2.1, x7.2.1, x0.2.2, x1.2.2, x2.2.2, x3.2.2, x4.2.2, x5.2.2, x6.2.2, x7.2.2] (3 + t)))))))) hD rfl
  refine ⟨fk_adL [h0, q1, q2, x0.1, x1.1, x2.1, x3.1, x4.1, x5.1, x6.1, x7.1, x0.2.1, x1.2.1, x2.2.1, x3.2.1, x4.2.1, x5.2.1, x6.2.1, x7.2.1, x0.2.2, x1.2.2, x2.2.2, x3.2.2, x4.2.2, x5.2.2, x6.2.2, x7.2.2], rfl, ?_, ?_⟩
  · exact hs.sub [0, 1, 2, 3, 6, 9, 12, 15, 18, 21, 24, 4, 7, 10, 13, 16, 19, 22, 25, 5, 8, 11, 14, 17, 20, 23, 26] rfl
  · exact hd.sub [0, 1, 2, 3, 6, 9, 12, 15, 18, 21, 24, 4, 7, 10, 13, 16, 19, 22, 25, 5, 8, 11, 14, 17, 20, 23, 26] (by decide) rfl
set_option maxHeartbeats 4000000 in
set_option maxRecDepth 100000 in
/-- the kernel: its words and its tasks -/
theorem ic_X2 (l : Launch) (D : va_G) (h0 : Nat) (sz : Nat) : Met l yX2_init wsX2_init rm_i2 (va_Pc [.ref h0] (fk_Pi D (fk_kz h0) sz true)) (va_Qv (fun u : (Nat → Nat) × ClassId × ClassId => u.1 0 = h0) (fk_at2 D (va_A (fk_kz h0) sz)) (va_A (fk_kz h0) sz)) 26 256 (va_A (fk_kz h0) sz) := by
  refine Met.ofW (cc := cX2_init) (maxL := 2) (ret := none) (by decide) rfl ?_
  intro p e s m args below meth c s₁ B hml hv
  obtain ⟨rfl, hsz, hP, hK, hD0, hN⟩ := hv
  have hx := B.exec
  have hb := B.bytes
  have hr := B.returns
  have hts := atoms_spec (ws := wsX2_init) B.pre
  have hown : s.vm.findClass RX2 = some m.cls := findClass_of_methodNamed B.named
  have hlocks := B.notSynchronized
  have hin : meth.name = "<init>" := (name_of_methodNamed B.named B.method).1
  subst hsz
  have hD := hD0.self (sz := s.heap.size)
  generalize hAe : va_A (fk_kz h0) s.heap.size = A at hD ⊢
  have hA : ∀ q : Nat, s.heap.size ≤ q → A q := fun q h => by rw [← hAe]; exact Or.inr h
  have hS : va_S A s.heap s.heap [] := va_S.rf
  have hl := lv_entry ([.ref h0]) (n := 2) (Nat.le_of_ble_eq_true rfl)
  rw [lg_entry_eq]
  generalize (lg_sl ([.ref h0]) ++ List.replicate (2 - (lg_sl ([.ref h0])).length) Slot.unset).toArray = ls at hl ⊢
  have hl : lv_has ls 2 [(0, .ref h0)] := hl
  refine lv_aload_n hx hb dX2_init_0 rfl (lv_at hl 0 rfl) ?_
  refine W.objInit hx hb hown (hts (.methodLink RX2 1 objectInit) (by decide +kernel)) (hts (.instanceMethod objectInit) (by decide +kernel)) (hts (.code objectInit ⟨#[0xb1]⟩ 1 none) (by decide +kernel)) rfl (by rw [hml]; exact hl.1) rfl dX2_init_1 (Nat.le_of_ble_eq_true rfl) (Nat.le_of_ble_eq_true rfl) ?_
  refine W.eq (g2 := F0 m 4 ls []) rfl ?_
  refine lv_aload_n hx hb dX2_init_4 rfl (lv_at hl 0 rfl) ?_
  refine lv_bipush (v := 16) hx hb dX2_init_5 (by decide) ?_
  refine va_newa (atype := .int) (ty := .int) (a0 := (16, .inl (fk_Mt 0 0))) (N' := 16) hx hb (hts (.arrayClass .int) (by decide +kernel)) rfl hK hP hD hS hA (fun cA => fk_Mt_c cA 16 0) (by decide) rfl (by decide) (Nat.le_of_ble_eq_true rfl) (Nat.le_of_ble_eq_true rfl) dX2_init_7 (fun q1 cI H hK hP hD hS => ?_)
  refine va_putF (ci := 2) (v := .ref q1) (ty := .array .int) (C := RX2) (T := TX2) (N := 6) hx hb hts (by decide +kernel) tyX2 tyX2_ok nmX2 hown hK hP hD hS 0 rfl rfl 0 (by decide) (hts (.fieldLink RX2 9 "FutexKernel" "words" "[I") (by decide +kernel)) (fun _ h9 => h9) rfl hin rfl (by decide +kernel) rfl rfl (Nat.le_of_ble_eq_true rfl) dX2_init_9 (fun H locs hP hD hS => ?_)
  have hP : va_P D vwCl ([(h0, .inr (2, [.ref q1, .null, .int 0, .int 0, .int 0, .int 0])), (q1, .inl (cI, 16, .inl (fk_Mt 0 0)))]) H := hP
  have hD : va_D A ([(h0, .inr (2, [.ref q1, .null, .int 0, .int 0, .int 0, .int 0])), (q1, .inl (cI, 16, .inl (fk_Mt 0 0)))]) := hD
  refine lv_aload_n hx hb dX2_init_12 rfl (lv_at hl 0 rfl) ?_
  refine lv_bipush (v := 8) hx hb dX2_init_13 (by decide) ?_
  refine va_newq (C := RX1) (N' := 8) hx hb hown (hts (.classLink RX2 13 RX1) (by decide +kernel)) (hN rfl).2 hK hP hD hS hA (by decide) rfl (by decide) (Nat.le_of_ble_eq_true rfl) (Nat.le_of_ble_eq_true rfl) dX2_init_15 (fun q2 cT H hK hP hD hS => ?_)
  refine va_putF (ci := 2) (v := .ref q2) (ty := .array (.object "FutexKernel$Task")) (C := RX2) (T := TX2) (N := 6) hx hb hts (by decide +kernel) tyX2 tyX2_ok nmX2 hown hK hP hD hS 0 rfl rfl 1 (by decide) (hts (.fieldLink RX2 15 "FutexKernel" "tasks" "[LFutexKernel$Task;") (by decide +kernel)) (fun _ h9 => h9) rfl hin rfl (by decide +kernel) rfl rfl (Nat.le_of_ble_eq_true rfl) dX2_init_18 (fun H locs hP hD hS => ?_)
  have hP : va_P D vwCl (fk_kr3 h0 q1 q2 cI cT (fun _ => none)) H := hP
  have hD : va_D A (fk_kr3 h0 q1 q2 cI cT (fun _ => none)) := hD
  refine lv_aload_n hx hb dX2_init_21 rfl (lv_at hl 0 rfl) ?_
  refine lv_iconst (v := 0) hx hb dX2_init_22 (by decide) ?_
  refine va_put (ci := 2) (v := .int 0) (ty := .int) (C := RX2) (T := TX2) (N := 6) hx hb hts (by decide +kernel) tyX2 tyX2_ok nmX2 hown hK hP hD hS 0 rfl rfl 2 (by decide) (hts (.fieldLink RX2 19 "FutexKernel" "time" "I") (by decide +kernel)) (fun _ h9 => h9) rfl (by decide +kernel) rfl rfl (Nat.le_of_ble_eq_true rfl) dX2_init_23 (fun H locs hP hD hS => ?_)
  have hP : va_P D vwCl (fk_kr3 h0 q1 q2 cI cT (fun _ => none)) H := hP
  have hD : va_D A (fk_kr3 h0 q1 q2 cI cT (fun _ => none)) := hD
  refine lv_aload_n hx hb dX2_init_26 rfl (lv_at hl 0 rfl) ?_
  refine lv_iconst (v := 0) hx hb dX2_init_27 (by decide) ?_
  refine va_put (ci := 2) (v := .int 0) (ty := .int) (C := RX2) (T := TX2) (N := 6) hx hb hts (by decide +kernel) tyX2 tyX2_ok nmX2 hown hK hP hD hS 0 rfl rfl 3 (by decide) (hts (.fieldLink RX2 23 "FutexKernel" "endedWaits" "I") (by decide +kernel)) (fun _ h9 => h9) rfl (by decide +kernel) rfl rfl (Nat.le_of_ble_eq_true rfl) dX2_init_28 (fun H locs hP hD hS => ?_)
  have hP : va_P D vwCl (fk_kr3 h0 q1 q2 cI cT (fun _ => none)) H := hP
  have hD : va_D A (fk_kr3 h0 q1 q2 cI cT (fun _ => none)) := hD
  refine lv_aload_n hx hb dX2_init_31 rfl (lv_at hl 0 rfl) ?_
  refine lv_iconst (v := 0) hx hb dX2_init_32 (by decide) ?_
  refine va_put (ci := 2) (v := .int 0) (ty := .int) (C := RX2) (T := TX2) (N := 6) hx hb hts (by decide +kernel) tyX2 tyX2_ok nmX2 hown hK hP hD hS 0 rfl rfl 4 (by decide) (hts (.fieldLink RX2 26 "FutexKernel" "begunWaits" "I") (by decide +kernel)) (fun _ h9 => h9) rfl (by decide +kernel) rfl rfl (Nat.le_of_ble_eq_true rfl) dX2_init_33 (fun H locs hP hD hS => ?_)
  have hP : va_P D vwCl (fk_kr3 h0 q1 q2 cI cT (fun _ => none)) H := hP
  have hD : va_D A (fk_kr3 h0 q1 q2 cI cT (fun _ => none)) := hD
  refine lv_aload_n hx hb dX2_init_36 rfl (lv_at hl 0 rfl) ?_
  refine lv_iconst (v := 0) hx hb dX2_init_37 (by decide) ?_
  refine va_put (ci := 2) (v := .int 0) (ty := .int) (C := RX2) (T := TX2) (N := 6) hx hb hts (by decide +kernel) tyX2 tyX2_ok nmX2 hown hK hP hD hS 0 rfl rfl 5 (by decide) (hts (.fieldLink RX2 29 "FutexKernel" "joins" "I") (by decide +kernel)) (fun _ h9 => h9) rfl (by decide +kernel) rfl rfl (Nat.le_of_ble_eq_true rfl) dX2_init_38 (fun H locs hP hD hS => ?_)
  have hP : va_P D vwCl (fk_kr3 h0 q1 q2 cI cT (fun _ => none)) H := hP
  have hD : va_D A (fk_kr3 h0 q1 q2 cI cT (fun _ => none)) := hD
  refine lv_iconst (v := 0) hx hb dX2_init_41 (by decide) ?_
  refine lv_istore_n (lv' := [(1, .int 0), (0, .ref h0)]) hx hb dX2_init_42 rfl hl (by decide) rfl (fun ls hl => ?_)
  have hK : va_K D vwCl [(cI, .int), (cT, .object RX1)] s := hK
  have loop : ∀ (n : Nat) (L : List (Nat × Nat × Nat)), L.length + n = 8 → ∀ (H : Heap) (locs : List Loc) (ls : Array Slot), va_P D vwCl (fk_kr3 h0 q1 q2 cI cT (fk_tf8 L) ++ fk_TL cI 0 L) H → va_D A (fk_kr3 h0 q1 q2 cI cT (fk_tf8 L) ++ fk_TL cI 0 L) → va_S A s.heap H locs → lv_has ls 2 [(1, .int (nI L.length)), (0, .ref h0)] → W p l e rm_i2 s m ([.ref h0] : List Value).toArray below meth c H locs (2 + 3 * L.length) (24 + 29 * L.length) (MQ below (va_Qv (fun u : (Nat → Nat) × ClassId × ClassId => u.1 0 = h0) (fk_at2 D A) A) ([.ref h0] : List Value).toArray s 26 256 A) (F0 m 43 ls []) := by
    intro n
    induction n with
    | zero =>
      intro L h8 H locs ls hP hD hS hl
      refine lv_iload_n hx hb dX2_init_43 rfl (lv_at hl 0 rfl) ?_
      refine lv_bipush (v := 8) hx hb dX2_init_44 (by decide) ?_
      refine lv_icmp_ge (tgt := 69) hx hb dX2_init_46 (by decide) (fun _ => ?_) (fun c => absurd (nI_le (a := 8) (b := L.length) (by omega) (by omega)) c)
      obtain ⟨ad, ea, hP, hD⟩ := fk_k27 (by omega) hP hD
      refine W.widen (k := 26) (n := 256) (by omega) (by omega) ?_
      exact W.vret hx hb hr (fun t ht hW => ⟨⟨(ad, cI, cT), rfl, ea, by rw [ht]; exact hP, va_K.moved hW.alike hK, hD⟩, hS.F ht⟩) hS.2.2 dX2_init_69
    | succ n ih =>
      intro L h8 H locs ls hP hD hS hl
      refine lv_iload_n hx hb dX2_init_43 rfl (lv_at hl 0 rfl) ?_
      refine lv_bipush (v := 8) hx hb dX2_init_44 (by decide) ?_
      refine lv_icmp_ge (tgt := 69) hx hb dX2_init_46 (by decide) (fun c => absurd c (nI_ge (a := L.length) (b := 8) (by omega) (by omega))) (fun _ => ?_)
      refine lv_aload_n hx hb dX2_init_49 rfl (lv_at hl 1 rfl) ?_
      refine va_get (ci := 2) (v := .ref q2) (C := RX2) (T := TX2) (N := 6) hx hb hts (by decide +kernel) hown hK hP 0 rfl rfl 1 (by decide) (hts (.fieldLink RX2 15 "FutexKernel" "tasks" "[LFutexKernel$Task;") (by decide +kernel)) (fun _ h9 => h9) rfl dX2_init_50 ?_
      refine lv_iload_n hx hb dX2_init_53 rfl (lv_at hl 0 rfl) ?_
      refine va_new (ci := 1) (fs := fk_zs) (C := RX1) (T := TX1) (N := 11) hx hb hts (by decide +kernel) tyX1 tyX1_ok hown (hts (.classLink RX2 13 RX1) (by decide +kernel)) (hts (.instantiable RX1 11) (by decide +kernel)) (hts (.initialized RX1) (by decide +kernel)) hK hP hD hS hA rfl (fun j hj => by rcases (show j = 0 ∨ j = 1 ∨ j = 2 ∨ j = 3 ∨ j = 4 ∨ j = 5 ∨ j = 6 ∨ j = 7 ∨ j = 8 ∨ j = 9 ∨ j = 10 by omega) with rfl | rfl | rfl | rfl | rfl | rfl | rfl | rfl | rfl | rfl | rfl <;> rfl) (by show 2 + 3 * L.length + 1 ≤ 26; omega) (by show 24 + 29 * L.length + 11 ≤ 256; omega) dX2_init_54 (fun q5 H hP hD hS => ?_)
      refine lv_dup hx hb dX2_init_57 rfl ?_
      refine lv_iload_n hx hb dX2_init_58 rfl (lv_at hl 0 rfl) ?_
      obtain ⟨R, hR⟩ : ∃ R : va_W, fk_kr3 h0 q1 q2 cI cT (fk_tf8 L) ++ fk_TL cI 0 L = R := ⟨_, rfl⟩
      rw [hR] at hP hD
      have hPc : va_P D vwCl (fk_tz q5) H := hP.sub [R.length] (by simp)
      have hDc : va_D A (fk_tz q5) := hD.sub [R.length] rfl (by simp)
      have hFc : ∀ q, va_A (fk_tz q5) H.size q → A q := va_free hD hS hA [R.length] (by simp)
      refine va_callv (va_runI (As := [.int (nI L.length)]) (rest := [.ref q5, .int (nI L.length), .ref q2]) ⟨hx, hb, hml, hown, hts⟩ (ic_X1 l D q5 (nI L.length) H.size) (cwI 1 hts gX2_init_X1_init rfl rfl rfl (hts (.initialized RX1) (by decide +kernel)) (hts (.methodLink RX2 32 yX1_init) (by decide +kernel)) (hts (.instanceMethod yX1_init) (by decide +kernel)) rfl (by decide +kernel) ⟨Nat.le_of_ble_eq_true rfl, Nat.le_of_ble_eq_true rfl⟩) ⟨fk_blindI, fk_preI hPc (hK.sub (tys' := []) [] rfl) hDc hN⟩ rfl rfl hl.1 rfl (lv_room (Nat.le_of_ble_eq_true rfl)) dX2_init_59 ⟨by show 2 + 3 * L.length + 1 + 2 ≤ 26; omega, by show 24 + 29 * L.length + 11 + 18 ≤ 256; omega⟩) hS (fun q _ h => hFc q h) hFc (fun u t H1 locs ht hvm hw hB hz1 hk1 hS => ?_)
      obtain ⟨a1, a2, cI2⟩ := u
      obtain ⟨hP1, hK1, hD1⟩ := hB
      rw [ht] at hP1
      have hK1 := va_K.moved hvm.symm hK1
      have ec : cI2 = cI := fk_uniq hK1 hK (i := 0) (j := 0) rfl rfl
      rw [ec] at hP1 hD1
      have hP1 : va_P D vwCl (fk_ti (nI L.length) q5 a1 a2 cI) H1 := hP1
      have hD1 : va_D (va_A (fk_tz q5) H.size) (fk_ti (nI L.length) q5 a1 a2 cI) := hD1
      obtain ⟨hP, hD⟩ := fk_joinL hP hD hk1 hFc hP1 hD1
      generalize H1 = H at hP hS ⊢
      subst hR
      have hq : ((fk_kr3 h0 q1 q2 cI cT (fk_tf8 L) ++ fk_TL cI 0 L) ++ fk_ti (nI L.length) q5 a1 a2 cI)[(fk_kr3 h0 q1 q2 cI cT (fk_tf8 L) ++ fk_TL cI 0 L).length]? = some (q5, .inr (1, fk_tf (nI L.length) a1)) := by rw [List.getElem?_append_right (Nat.le_refl _), Nat.sub_self]; rfl
      refine va_astq (r := (RX1, TX1, 11)) (f := fk_tf8 L) hx hb hK hP hD hS 2 1 _ 1 rfl rfl hq rfl (vp_in_nI (show L.length < 8 by omega) (by omega)) dX2_init_62 (fun H locs hP hD hS => ?_)
      rw [nI_clamp (n := L.length) (by omega), fk_tf8_up L (q5, a1, a2)] at hP hD
      have hW9 : ((fk_kr3 h0 q1 q2 cI cT (fk_tf8 L) ++ fk_TL cI 0 L) ++ fk_ti (nI L.length) q5 a1 a2 cI).set 2 (q2, .inl (cT, 8, .inr (.inr (.inr (.inr (fk_tf8 (L ++ [(q5, a1, a2)]))))))) = fk_kr3 h0 q1 q2 cI cT (fk_tf8 (L ++ [(q5, a1, a2)])) ++ fk_TL cI 0 (L ++ [(q5, a1, a2)]) := by rw [fk_TL_snoc, Nat.zero_add]; rfl
      rw [hW9] at hP hD
      refine lv_iinc (v := nI (L.length + 1)) (lv' := [(1, .int (nI (L.length + 1))), (0, .ref h0)]) hx hb dX2_init_63 hl (k := 0) rfl (nI_1 L.length) (by decide) rfl (fun ls hl => ?_)
      refine lv_goto (tgt := 43) hx hb dX2_init_66 (by decide) ?_
      have e1 : (L ++ [(q5, a1, a2)]).length = L.length + 1 := by simp
      refine W.widen (k := 2 + 3 * (L ++ [(q5, a1, a2)]).length) (n := 24 + 29 * (L ++ [(q5, a1, a2)]).length) (by omega) (by omega) ?_
      exact ih (L ++ [(q5, a1, a2)]) (by omega) H locs ls hP hD hS (by rw [e1]; exact hl)
  exact loop 8 [] rfl _ _ _ hP hD hS hl
