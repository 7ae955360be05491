/-! the constructors -/
def fk_Mt (n : Nat) : fk_S := fun f i => if f = 8 ∧ i < n then -1 else 0
def fk_S0 : fk_S := fun f i => if f = 3 ∨ f = 5 then -1 else fk_Mt 8 f i
def fk_z16 : Nat → Int32 := fun j => if j < 16 then 0 else 0
theorem fk_z16_c (cA : ClassId) : vp_cell cA (16, .inl fk_z16) = arrV cA 16 (fun _ => defaultValue .int) := by
  rw [vp_cell_i]
  refine congrArg (arrV cA 16) (funext fun j => ?_)
  show Value.int (if j < 16 then 0 else 0) = _
  split <;> rfl
theorem fk_Mt_c (cA : ClassId) (n f : Nat) : vp_cell cA (n, .inl (fk_Mt 0 f)) = arrV cA n (fun _ => defaultValue .int) := by
  rw [vp_cell_i]
  refine congrArg (arrV cA n) (funext fun j => ?_)
  show Value.int (if f = 8 ∧ j < 0 then -1 else 0) = _
  rw [if_neg (by omega)]
  rfl
theorem fk_uniq {D : va_G} {cl : List vw_C} {t1 t2 : List (ClassId × FieldType)} {U : State} {c1 c2 : ClassId} {i j : Nat} (h1 : va_K D cl t1 U) (h2 : va_K D cl t2 U) (e1 : t1[i]? = some (c1, .int)) (e2 : t2[j]? = some (c2, .int)) : c1 = c2 := by
  have a := (h1.2 i _ e1).2
  have b := (h2.2 j _ e2).2
  exact Option.some.inj (Eq.trans (Eq.symm a) b)
abbrev fk_cz (h0 : Nat) : va_W := [(h0, .inr (0, [.null, .int 0]))]
abbrev fk_ci (h0 q : Nat) (cI : ClassId) : va_W := [(h0, .inr (0, [.ref q, .int 0])), (q, .inl (cI, 16, .inl fk_z16))]
abbrev fk_at0 (D : va_G) (A : Nat → Prop) (h0 : Nat) (u : Nat × ClassId) (t : State) : Prop := va_P D vwCl (fk_ci h0 u.1 u.2) t.heap ∧ va_K D vwCl [(u.2, .int)] t ∧ va_D A (fk_ci h0 u.1 u.2)
abbrev fk_zs : List Value := [.int 0, .null, .int 0, .int 0, .int 0, .int 0, .int 0, .int 0, .int 0, .int 0, .int 0]
abbrev fk_tz (h0 : Nat) : va_W := [(h0, .inr (1, fk_zs))]
abbrev fk_tf (n : Int32) (q1 : Nat) : List Value := [.int n, .ref q1, .int 0, .int 0, .int (-1), .int 0, .int (-1), .int 0, .int 0, .int (-1), .int 0]
abbrev fk_ti (n : Int32) (h0 q1 q2 : Nat) (cI : ClassId) : va_W := [(h0, .inr (1, fk_tf n q1)), (q1, .inr (0, [.ref q2, .int 0])), (q2, .inl (cI, 16, .inl fk_z16))]
abbrev fk_at1 (D : va_G) (A : Nat → Prop) (n : Int32) (h0 : Nat) (u : Nat × Nat × ClassId) (t : State) : Prop := va_P D vwCl (fk_ti n h0 u.1 u.2.1 u.2.2) t.heap ∧ va_K D vwCl [(u.2.2, .int)] t ∧ va_D A (fk_ti n h0 u.1 u.2.1 u.2.2)
def fk_nest : Cond := .methodLinkNest RX1 11 yX0_init RX2
def fk_Pi (D : va_G) (W0 : va_W) (sz : Nat) (w : Bool) (U : State) : Prop := U.heap.size = sz ∧ va_P D vwCl W0 U.heap ∧ va_K D vwCl [] U ∧ va_D (fun _ => True) W0 ∧ (w = true → va_Nw fk_nest U ∧ va_AO RX1 U)
theorem fk_blindI {D : va_G} {W0 : va_W} {sz : Nat} {w : Bool} {av : List Value} : FrameBlind (va_Pc av (fk_Pi D W0 sz w)) := fun a U g mk q => by
  obtain ⟨q0, q1, qP, qK, qD, qN⟩ := q
  exact ⟨q0, q1, qP, va_K.moved (u := U) (U := U.calling g mk a) (Vm.Alike.refl U.vm) qK, qD, fun h => ⟨va_Nw.same (w := fk_nest) rfl (u := U) rfl (qN h).1, va_AO.moved (u := U) (U := U.calling g mk a) (Vm.Alike.refl U.vm) (qN h).2⟩⟩
theorem fk_preI {D : va_G} {W0 : va_W} {A0 : Nat → Prop} {w : Bool} {av : List Value} {s : State} {H : Heap} (hP : va_P D vwCl W0 H) (hK : va_K D vwCl [] s) (hD : va_D A0 W0) (hN : w = true → va_Nw fk_nest s ∧ va_AO RX1 s) : ∀ U : State, U.heap = H → s.WarmedH U.vm → va_Pc av (fk_Pi D W0 H.size w) av.toArray U := fun U hU hW =>
  ⟨rfl, by rw [hU], by rw [hU]; exact hP, va_K.moved hW.alike hK, hD.weaken (fun _ _ _ _ => trivial), fun h => ⟨va_Nw.warmM hW (hN h).1, va_AO.moved hW.alike (hN h).2⟩⟩
abbrev rm_i0 : Room := { frames := 1, cells := 1, slots := 16, locals := 12 }
abbrev rm_i1 : Room := { frames := 2, cells := 2, slots := 18, locals := 40 }
abbrev rm_i2 : Room := { frames := 3, cells := 26, slots := 256, locals := 80 }
set_option maxHeartbeats 4000000 in
set_option maxRecDepth 100000 in
/-- a list of locks: its row -/
theorem ic_X0 (l : Launch) (D : va_G) (h0 : Nat) (sz : Nat) : Met l yX0_init wsX0_init rm_i0 (va_Pc [.ref h0] (fk_Pi D (fk_cz h0) sz false)) (va_Qv (fun _ : Nat × ClassId => True) (fk_at0 D (va_A (fk_cz h0) sz) h0) (va_A (fk_cz h0) sz)) 1 16 (va_A (fk_cz h0) sz) := by
  refine Met.ofW (cc := cX0_init) (maxL := 1) (ret := none) (by decide) rfl ?_
  intro p e s m args below meth c s₁ B hml hv
  obtain ⟨rfl, hsz, hP, hK, hD0, hN⟩ := hv
  have hx := B.exec
  have hb := B.bytes
  have hr := B.returns
  have hts := atoms_spec (ws := wsX0_init) B.pre
  have hown : s.vm.findClass RX0 = some m.cls := findClass_of_methodNamed B.named
  have hlocks := B.notSynchronized
  have hin : meth.name = "<init>" := (name_of_methodNamed B.named B.method).1
  subst hsz
  have hD := hD0.self (sz := s.heap.size)
  generalize hAe : va_A (fk_cz h0) s.heap.size = A at hD ⊢
  have hA : ∀ q : Nat, s.heap.size ≤ q → A q := fun q h => by rw [← hAe]; exact Or.inr h
  have hS : va_S A s.heap s.heap [] := va_S.rf
  have hl := lv_entry ([.ref h0]) (n := 1) (Nat.le_of_ble_eq_true rfl)
  rw [lg_entry_eq]
  generalize (lg_sl ([.ref h0]) ++ List.replicate (1 - (lg_sl ([.ref h0])).length) Slot.unset).toArray = ls at hl ⊢
  have hl : lv_has ls 1 [(0, .ref h0)] := hl
  refine lv_aload_n hx hb dX0_init_0 rfl (lv_at hl 0 rfl) ?_
  refine W.objInit hx hb hown (hts (.methodLink RX0 3 objectInit) (by decide +kernel)) (hts (.instanceMethod objectInit) (by decide +kernel)) (hts (.code objectInit ⟨#[0xb1]⟩ 1 none) (by decide +kernel)) rfl (by rw [hml]; exact hl.1) rfl dX0_init_1 (Nat.le_of_ble_eq_true rfl) (Nat.le_of_ble_eq_true rfl) ?_
  refine W.eq (g2 := F0 m 4 ls []) rfl ?_
  refine lv_aload_n hx hb dX0_init_4 rfl (lv_at hl 0 rfl) ?_
  refine lv_bipush (v := 16) hx hb dX0_init_5 (by decide) ?_
  refine va_newa (atype := .int) (ty := .int) (a0 := (16, .inl fk_z16)) (N' := 16) hx hb (hts (.arrayClass .int) (by decide +kernel)) rfl hK hP hD hS hA fk_z16_c (by decide) rfl (by decide) (Nat.le_of_ble_eq_true rfl) (Nat.le_of_ble_eq_true rfl) dX0_init_7 (fun q cI H hK hP hD hS => ?_)
  refine va_putF (ci := 0) (v := .ref q) (ty := .array .int) (C := RX0) (T := TX0) (N := 2) hx hb hts (by decide +kernel) tyX0 tyX0_ok nmX0 hown hK hP hD hS 0 rfl rfl 0 (by decide) (hts (.fieldLink RX0 9 "FutexKernel$LockList" "addresses" "[I") (by decide +kernel)) (fun _ h9 => h9) rfl hin rfl (by decide +kernel) rfl rfl (Nat.le_of_ble_eq_true rfl) dX0_init_9 (fun H locs hP hD hS => ?_)
  have hP : va_P D vwCl (fk_ci h0 q cI) H := hP
  have hD : va_D A (fk_ci h0 q cI) := hD
  refine lv_aload_n hx hb dX0_init_12 rfl (lv_at hl 0 rfl) ?_
  refine lv_iconst (v := 0) hx hb dX0_init_13 (by decide) ?_
  refine va_put (ci := 0) (v := .int 0) (ty := .int) (C := RX0) (T := TX0) (N := 2) hx hb hts (by decide +kernel) tyX0 tyX0_ok nmX0 hown hK hP hD hS 0 rfl rfl 1 (by decide) (hts (.fieldLink RX0 15 "FutexKernel$LockList" "size" "I") (by decide +kernel)) (fun _ h9 => h9) rfl (by decide +kernel) rfl rfl (Nat.le_of_ble_eq_true rfl) dX0_init_14 (fun H locs hP hD hS => ?_)
  have hP : va_P D vwCl (fk_ci h0 q cI) H := hP
  have hD : va_D A (fk_ci h0 q cI) := hD
  refine W.widen (k := 1) (n := 16) (by omega) (by omega) ?_
  exact W.vret hx hb hr (fun t ht hW => ⟨⟨(q, cI), rfl, trivial, by rw [ht]; exact hP, va_K.moved hW.alike hK, hD⟩, hS.F ht⟩) hS.2.2 dX0_init_17
set_option maxHeartbeats 4000000 in
set_option maxRecDepth 100000 in
/-- a task: its list -/
theorem ic_X1 (l : Launch) (D : va_G) (h0 : Nat) (v : Int32) (sz : Nat) : Met l yX1_init wsX1_init rm_i1 (va_Pc [.ref h0, .int v] (fk_Pi D (fk_tz h0) sz true)) (va_Qv (fun _ : Nat × Nat × ClassId => True) (fk_at1 D (va_A (fk_tz h0) sz) v h0) (va_A (fk_tz h0) sz)) 2 18 (va_A (fk_tz h0) sz) := by
  refine Met.ofW (cc := cX1_init) (maxL := 2) (ret := none) (by decide) rfl ?_
  intro p e s m args below meth c s₁ B hml hv
  obtain ⟨rfl, hsz, hP, hK, hD0, hN⟩ := hv
  have hx := B.exec
  have hb := B.bytes
  have hr := B.returns
  have hts := atoms_spec (ws := wsX1_init) B.pre
  have hown : s.vm.findClass RX1 = some m.cls := findClass_of_methodNamed B.named
  have hlocks := B.notSynchronized
  have hin : meth.name = "<init>" := (name_of_methodNamed B.named B.method).1
  subst hsz
  have hD := hD0.self (sz := s.heap.size)
  generalize hAe : va_A (fk_tz h0) s.heap.size = A at hD ⊢
  have hA : ∀ q : Nat, s.heap.size ≤ q → A q := fun q h => by rw [← hAe]; exact Or.inr h
  have hS : va_S A s.heap s.heap [] := va_S.rf
  have hl := lv_entry ([.ref h0, .int v]) (n := 2) (Nat.le_of_ble_eq_true rfl)
  rw [lg_entry_eq]
  generalize (lg_sl ([.ref h0, .int v]) ++ List.replicate (2 - (lg_sl ([.ref h0, .int v])).length) Slot.unset).toArray = ls at hl ⊢
  have hl : lv_has ls 2 [(0, .ref h0), (1, .int v)] := hl
  refine lv_aload_n hx hb dX1_init_0 rfl (lv_at hl 0 rfl) ?_
  refine W.objInit hx hb hown (hts (.methodLink RX1 3 objectInit) (by decide +kernel)) (hts (.instanceMethod objectInit) (by decide +kernel)) (hts (.code objectInit ⟨#[0xb1]⟩ 1 none) (by decide +kernel)) rfl (by rw [hml]; exact hl.1) rfl dX1_init_1 (Nat.le_of_ble_eq_true rfl) (Nat.le_of_ble_eq_true rfl) ?_
  refine W.eq (g2 := F0 m 4 ls []) rfl ?_
  refine lv_aload_n hx hb dX1_init_4 rfl (lv_at hl 0 rfl) ?_
  refine va_new (ci := 0) (fs := [.null, .int 0]) (C := RX0) (T := TX0) (N := 2) hx hb hts (by decide +kernel) tyX0 tyX0_ok hown (hts (.classLink RX1 9 RX0) (by decide +kernel)) (hts (.instantiable RX0 2) (by decide +kernel)) (hts (.initialized RX0) (by decide +kernel)) hK hP hD hS hA rfl (fun j hj => by rcases (show j = 0 ∨ j = 1 by omega) with rfl | rfl <;> rfl) (Nat.le_of_ble_eq_true rfl) (Nat.le_of_ble_eq_true rfl) dX1_init_5 (fun q1 H hP hD hS => ?_)
  have hP : va_P D vwCl ([(h0, .inr (1, fk_zs)), (q1, .inr (0, [.null, .int 0]))]) H := hP
  have hD : va_D A ([(h0, .inr (1, fk_zs)), (q1, .inr (0, [.null, .int 0]))]) := hD
  refine W.widen (k := 1) (n := 2) (by omega) (by omega) ?_
  refine lv_dup hx hb dX1_init_8 rfl ?_
  have hPc := hP.sub (ws' := fk_cz q1) [1] rfl
  have hDc := hD.sub (ws' := fk_cz q1) [1] (by decide) rfl
  have hFc := va_free (wc := fk_cz q1) hD hS hA [1] rfl
  refine va_callv (va_runIN (As := []) (rest := [.ref q1, .ref h0]) ⟨hx, hb, hml, hown, hts⟩ (ic_X0 l D q1 H.size) ⟨va_cnB (host := RX2) 0 hts gX1_init_X0_init_n11 rfl rfl rfl (hN rfl).1 (hts (.initialized RX0) (by decide +kernel)) (by decide +kernel) ⟨Nat.le_of_ble_eq_true rfl, Nat.le_of_ble_eq_true rfl⟩, rfl, (hts (.instanceMethod yX0_init) (by decide +kernel))⟩ ⟨fk_blindI, fk_preI hPc hK hDc (fun h => by cases h)⟩ rfl rfl hl.1 rfl (lv_room (Nat.le_of_ble_eq_true rfl)) dX1_init_9 ⟨Nat.le_of_ble_eq_true rfl, Nat.le_of_ble_eq_true rfl⟩) hS (fun q _ h => hFc q h) hFc (fun u t H1 locs ht hvm hw hB hz1 hk1 hS => ?_)
  obtain ⟨q2, cI⟩ := u
  obtain ⟨hP1, hK1, hD1⟩ := hB
  rw [ht] at hP1
  have hK1 := va_K.moved hvm.symm hK1
  obtain ⟨hP, hD⟩ := va_join (wc := fk_cz q1) (wr := [(h0, .inr (1, fk_zs))]) (w1 := fk_ci q1 q2 cI) hP hD [1] [0] rfl rfl (by decide) (by decide) hk1 hFc hP1 hD1
  have hK : va_K D vwCl [(cI, .int)] s := hK1
  generalize H1 = H at hP hS ⊢
  have hP : va_P D vwCl ([(h0, .inr (1, [.int 0, .null, .int 0, .int 0, .int 0, .int 0, .int 0, .int 0, .int 0, .int 0, .int 0])), (q1, .inr (0, [.ref q2, .int 0])), (q2, .inl (cI, 16, .inl fk_z16))]) H := hP
  have hD : va_D A ([(h0, .inr (1, [.int 0, .null, .int 0, .int 0, .int 0, .int 0, .int 0, .int 0, .int 0, .int 0, .int 0])), (q1, .inr (0, [.ref q2, .int 0])), (q2, .inl (cI, 16, .inl fk_z16))]) := hD
  refine va_putF (ci := 1) (v := .ref q1) (ty := .object "FutexKernel$LockList") (C := RX1) (T := TX1) (N := 11) hx hb hts (by decide +kernel) tyX1 tyX1_ok nmX1 hown hK hP hD hS 0 rfl rfl 1 (by decide) (hts (.fieldLink RX1 12 "FutexKernel$Task" "held" "LFutexKernel$LockList;") (by decide +kernel)) (fun _ h9 => h9) rfl hin rfl (by decide +kernel) rfl rfl (Nat.le_of_ble_eq_true rfl) dX1_init_12 (fun H locs hP hD hS => ?_)
  have hP : va_P D vwCl ([(h0, .inr (1, [.int 0, .ref q1, .int 0, .int 0, .int 0, .int 0, .int 0, .int 0, .int 0, .int 0, .int 0])), (q1, .inr (0, [.ref q2, .int 0])), (q2, .inl (cI, 16, .inl fk_z16))]) H := hP
  have hD : va_D A ([(h0, .inr (1, [.int 0, .ref q1, .int 0, .int 0, .int 0, .int 0, .int 0, .int 0, .int 0, .int 0, .int 0])), (q1, .inr (0, [.ref q2, .int 0])), (q2, .inl (cI, 16, .inl fk_z16))]) := hD
  refine lv_aload_n hx hb dX1_init_15 rfl (lv_at hl 0 rfl) ?_
  refine lv_iconst (v := 0) hx hb dX1_init_16 (by decide) ?_
  refine va_put (ci := 1) (v := .int 0) (ty := .int) (C := RX1) (T := TX1) (N := 11) hx hb hts (by decide +kernel) tyX1 tyX1_ok nmX1 hown hK hP hD hS 0 rfl rfl 2 (by decide) (hts (.fieldLink RX1 18 "FutexKernel$Task" "state" "I") (by decide +kernel)) (fun _ h9 => h9) rfl (by decide +kernel) rfl rfl (Nat.le_of_ble_eq_true rfl) dX1_init_17 (fun H locs hP hD hS => ?_)
  have hP : va_P D vwCl ([(h0, .inr (1, [.int 0, .ref q1, .int 0, .int 0, .int 0, .int 0, .int 0, .int 0, .int 0, .int 0, .int 0])), (q1, .inr (0, [.ref q2, .int 0])), (q2, .inl (cI, 16, .inl fk_z16))]) H := hP
  have hD : va_D A ([(h0, .inr (1, [.int 0, .ref q1, .int 0, .int 0, .int 0, .int 0, .int 0, .int 0, .int 0, .int 0, .int 0])), (q1, .inr (0, [.ref q2, .int 0])), (q2, .inl (cI, 16, .inl fk_z16))]) := hD
  refine lv_aload_n hx hb dX1_init_20 rfl (lv_at hl 0 rfl) ?_
  refine lv_iconst (v := 0) hx hb dX1_init_21 (by decide) ?_
  refine va_put (ci := 1) (v := .int 0) (ty := .int) (C := RX1) (T := TX1) (N := 11) hx hb hts (by decide +kernel) tyX1 tyX1_ok nmX1 hown hK hP hD hS 0 rfl rfl 3 (by decide) (hts (.fieldLink RX1 22 "FutexKernel$Task" "priority" "I") (by decide +kernel)) (fun _ h9 => h9) rfl (by decide +kernel) rfl rfl (Nat.le_of_ble_eq_true rfl) dX1_init_22 (fun H locs hP hD hS => ?_)
  have hP : va_P D vwCl ([(h0, .inr (1, [.int 0, .ref q1, .int 0, .int 0, .int 0, .int 0, .int 0, .int 0, .int 0, .int 0, .int 0])), (q1, .inr (0, [.ref q2, .int 0])), (q2, .inl (cI, 16, .inl fk_z16))]) H := hP
  have hD : va_D A ([(h0, .inr (1, [.int 0, .ref q1, .int 0, .int 0, .int 0, .int 0, .int 0, .int 0, .int 0, .int 0, .int 0])), (q1, .inr (0, [.ref q2, .int 0])), (q2, .inl (cI, 16, .inl fk_z16))]) := hD
  refine lv_aload_n hx hb dX1_init_25 rfl (lv_at hl 0 rfl) ?_
  refine lv_iconst (v := (-1)) hx hb dX1_init_26 (by decide) ?_
  refine va_put (ci := 1) (v := .int (-1)) (ty := .int) (C := RX1) (T := TX1) (N := 11) hx hb hts (by decide +kernel) tyX1 tyX1_ok nmX1 hown hK hP hD hS 0 rfl rfl 4 (by decide) (hts (.fieldLink RX1 25 "FutexKernel$Task" "address" "I") (by decide +kernel)) (fun _ h9 => h9) rfl (by decide +kernel) rfl rfl (Nat.le_of_ble_eq_true rfl) dX1_init_27 (fun H locs hP hD hS => ?_)
  have hP : va_P D vwCl ([(h0, .inr (1, [.int 0, .ref q1, .int 0, .int 0, .int (-1), .int 0, .int 0, .int 0, .int 0, .int 0, .int 0])), (q1, .inr (0, [.ref q2, .int 0])), (q2, .inl (cI, 16, .inl fk_z16))]) H := hP
  have hD : va_D A ([(h0, .inr (1, [.int 0, .ref q1, .int 0, .int 0, .int (-1), .int 0, .int 0, .int 0, .int 0, .int 0, .int 0])), (q1, .inr (0, [.ref q2, .int 0])), (q2, .inl (cI, 16, .inl fk_z16))]) := hD
  refine lv_aload_n hx hb dX1_init_30 rfl (lv_at hl 0 rfl) ?_
  refine lv_iconst (v := 0) hx hb dX1_init_31 (by decide) ?_
  refine va_put (ci := 1) (v := .int 0) (ty := .int) (C := RX1) (T := TX1) (N := 11) hx hb hts (by decide +kernel) tyX1 tyX1_ok nmX1 hown hK hP hD hS 0 rfl rfl 5 (by decide) (hts (.fieldLink RX1 28 "FutexKernel$Task" "mask" "I") (by decide +kernel)) (fun _ h9 => h9) rfl (by decide +kernel) rfl rfl (Nat.le_of_ble_eq_true rfl) dX1_init_32 (fun H locs hP hD hS => ?_)
  have hP : va_P D vwCl ([(h0, .inr (1, [.int 0, .ref q1, .int 0, .int 0, .int (-1), .int 0, .int 0, .int 0, .int 0, .int 0, .int 0])), (q1, .inr (0, [.ref q2, .int 0])), (q2, .inl (cI, 16, .inl fk_z16))]) H := hP
  have hD : va_D A ([(h0, .inr (1, [.int 0, .ref q1, .int 0, .int 0, .int (-1), .int 0, .int 0, .int 0, .int 0, .int 0, .int 0])), (q1, .inr (0, [.ref q2, .int 0])), (q2, .inl (cI, 16, .inl fk_z16))]) := hD
  refine lv_aload_n hx hb dX1_init_35 rfl (lv_at hl 0 rfl) ?_
  refine lv_iconst (v := (-1)) hx hb dX1_init_36 (by decide) ?_
  refine va_put (ci := 1) (v := .int (-1)) (ty := .int) (C := RX1) (T := TX1) (N := 11) hx hb hts (by decide +kernel) tyX1 tyX1_ok nmX1 hown hK hP hD hS 0 rfl rfl 6 (by decide) (hts (.fieldLink RX1 31 "FutexKernel$Task" "deadline" "I") (by decide +kernel)) (fun _ h9 => h9) rfl (by decide +kernel) rfl rfl (Nat.le_of_ble_eq_true rfl) dX1_init_37 (fun H locs hP hD hS => ?_)
  have hP : va_P D vwCl ([(h0, .inr (1, [.int 0, .ref q1, .int 0, .int 0, .int (-1), .int 0, .int (-1), .int 0, .int 0, .int 0, .int 0])), (q1, .inr (0, [.ref q2, .int 0])), (q2, .inl (cI, 16, .inl fk_z16))]) H := hP
  have hD : va_D A ([(h0, .inr (1, [.int 0, .ref q1, .int 0, .int 0, .int (-1), .int 0, .int (-1), .int 0, .int 0, .int 0, .int 0])), (q1, .inr (0, [.ref q2, .int 0])), (q2, .inl (cI, 16, .inl fk_z16))]) := hD
  refine lv_aload_n hx hb dX1_init_40 rfl (lv_at hl 0 rfl) ?_
  refine lv_iconst (v := 0) hx hb dX1_init_41 (by decide) ?_
  refine va_put (ci := 1) (v := .int 0) (ty := .int) (C := RX1) (T := TX1) (N := 11) hx hb hts (by decide +kernel) tyX1 tyX1_ok nmX1 hown hK hP hD hS 0 rfl rfl 7 (by decide) (hts (.fieldLink RX1 34 "FutexKernel$Task" "begun" "I") (by decide +kernel)) (fun _ h9 => h9) rfl (by decide +kernel) rfl rfl (Nat.le_of_ble_eq_true rfl) dX1_init_42 (fun H locs hP hD hS => ?_)
  have hP : va_P D vwCl ([(h0, .inr (1, [.int 0, .ref q1, .int 0, .int 0, .int (-1), .int 0, .int (-1), .int 0, .int 0, .int 0, .int 0])), (q1, .inr (0, [.ref q2, .int 0])), (q2, .inl (cI, 16, .inl fk_z16))]) H := hP
  have hD : va_D A ([(h0, .inr (1, [.int 0, .ref q1, .int 0, .int 0, .int (-1), .int 0, .int (-1), .int 0, .int 0, .int 0, .int 0])), (q1, .inr (0, [.ref q2, .int 0])), (q2, .inl (cI, 16, .inl fk_z16))]) := hD
  refine lv_aload_n hx hb dX1_init_45 rfl (lv_at hl 0 rfl) ?_
  refine lv_iconst (v := 0) hx hb dX1_init_46 (by decide) ?_
  refine va_put (ci := 1) (v := .int 0) (ty := .int) (C := RX1) (T := TX1) (N := 11) hx hb hts (by decide +kernel) tyX1 tyX1_ok nmX1 hown hK hP hD hS 0 rfl rfl 8 (by decide) (hts (.fieldLink RX1 37 "FutexKernel$Task" "joined" "I") (by decide +kernel)) (fun _ h9 => h9) rfl (by decide +kernel) rfl rfl (Nat.le_of_ble_eq_true rfl) dX1_init_47 (fun H locs hP hD hS => ?_)
  have hP : va_P D vwCl ([(h0, .inr (1, [.int 0, .ref q1, .int 0, .int 0, .int (-1), .int 0, .int (-1), .int 0, .int 0, .int 0, .int 0])), (q1, .inr (0, [.ref q2, .int 0])), (q2, .inl (cI, 16, .inl fk_z16))]) H := hP
  have hD : va_D A ([(h0, .inr (1, [.int 0, .ref q1, .int 0, .int 0, .int (-1), .int 0, .int (-1), .int 0, .int 0, .int 0, .int 0])), (q1, .inr (0, [.ref q2, .int 0])), (q2, .inl (cI, 16, .inl fk_z16))]) := hD
  refine lv_aload_n hx hb dX1_init_50 rfl (lv_at hl 0 rfl) ?_
  refine lv_iconst (v := (-1)) hx hb dX1_init_51 (by decide) ?_
  refine va_put (ci := 1) (v := .int (-1)) (ty := .int) (C := RX1) (T := TX1) (N := 11) hx hb hts (by decide +kernel) tyX1 tyX1_ok nmX1 hown hK hP hD hS 0 rfl rfl 9 (by decide) (hts (.fieldLink RX1 40 "FutexKernel$Task" "result" "I") (by decide +kernel)) (fun _ h9 => h9) rfl (by decide +kernel) rfl rfl (Nat.le_of_ble_eq_true rfl) dX1_init_52 (fun H locs hP hD hS => ?_)
  have hP : va_P D vwCl ([(h0, .inr (1, [.int 0, .ref q1, .int 0, .int 0, .int (-1), .int 0, .int (-1), .int 0, .int 0, .int (-1), .int 0])), (q1, .inr (0, [.ref q2, .int 0])), (q2, .inl (cI, 16, .inl fk_z16))]) H := hP
  have hD : va_D A ([(h0, .inr (1, [.int 0, .ref q1, .int 0, .int 0, .int (-1), .int 0, .int (-1), .int 0, .int 0, .int (-1), .int 0])), (q1, .inr (0, [.ref q2, .int 0])), (q2, .inl (cI, 16, .inl fk_z16))]) := hD
  refine lv_aload_n hx hb dX1_init_55 rfl (lv_at hl 0 rfl) ?_
  refine lv_iconst (v := 0) hx hb dX1_init_56 (by decide) ?_
  refine va_put (ci := 1) (v := .int 0) (ty := .int) (C := RX1) (T := TX1) (N := 11) hx hb hts (by decide +kernel) tyX1 tyX1_ok nmX1 hown hK hP hD hS 0 rfl rfl 10 (by decide) (hts (.fieldLink RX1 43 "FutexKernel$Task" "serial" "I") (by decide +kernel)) (fun _ h9 => h9) rfl (by decide +kernel) rfl rfl (Nat.le_of_ble_eq_true rfl) dX1_init_57 (fun H locs hP hD hS => ?_)
  have hP : va_P D vwCl ([(h0, .inr (1, [.int 0, .ref q1, .int 0, .int 0, .int (-1), .int 0, .int (-1), .int 0, .int 0, .int (-1), .int 0])), (q1, .inr (0, [.ref q2, .int 0])), (q2, .inl (cI, 16, .inl fk_z16))]) H := hP
  have hD : va_D A ([(h0, .inr (1, [.int 0, .ref q1, .int 0, .int 0, .int (-1), .int 0, .int (-1), .int 0, .int 0, .int (-1), .int 0])), (q1, .inr (0, [.ref q2, .int 0])), (q2, .inl (cI, 16, .inl fk_z16))]) := hD
  refine lv_aload_n hx hb dX1_init_60 rfl (lv_at hl 0 rfl) ?_
  refine lv_iload_n hx hb dX1_init_61 rfl (lv_at hl 1 rfl) ?_
  refine va_putF (ci := 1) (v := .int v) (ty := .int) (C := RX1) (T := TX1) (N := 11) hx hb hts (by decide +kernel) tyX1 tyX1_ok nmX1 hown hK hP hD hS 0 rfl rfl 0 (by decide) (hts (.fieldLink RX1 46 "FutexKernel$Task" "number" "I") (by decide +kernel)) (fun _ h9 => h9) rfl hin rfl (by decide +kernel) rfl rfl (Nat.le_of_ble_eq_true rfl) dX1_init_62 (fun H locs hP hD hS => ?_)
  have hP : va_P D vwCl (fk_ti v h0 q1 q2 cI) H := hP
  have hD : va_D A (fk_ti v h0 q1 q2 cI) := hD
  refine W.widen (k := 2) (n := 18) (by omega) (by omega) ?_
  exact W.vret hx hb hr (fun t ht hW => ⟨⟨(q1, q2, cI), rfl, trivial, by rw [ht]; exact hP, va_K.moved hW.alike hK, hD⟩, hS.F ht⟩) hS.2.2 dX1_init_65
