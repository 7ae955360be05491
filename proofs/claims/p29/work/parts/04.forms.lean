/-! contracts: a method that answers 'res' and leaves the world W1; one that throws E and leaves the world as it was -/
abbrev fk_ty (cI cT _cJ : ClassId) : List (ClassId × FieldType) := [(cI, .int), (cT, .object RX1)]
def fk_Qc (D : va_G) (tys : List (ClassId × FieldType)) (A : Nat → Prop) (W1 : va_W) (res : Option Value) : Array Value → State → Outcome → State → Prop := fun _ st oc t =>
  (oc = .returned res ∧ va_P D vwCl W1 t.heap ∧ va_K D vwCl tys t ∧ va_D A W1) ∧ va_F A st t
def fk_Pre (D : va_G) (tys : List (ClassId × FieldType)) (av : List Value) (W0 : va_W) (sz : Nat) : Array Value → State → Prop := va_Pc av (fun U => U.heap.size = sz ∧ va_P D vwCl W0 U.heap ∧ va_K D vwCl tys U ∧ va_D (fun _ => True) W0)
def fk_C (l : Launch) (D : va_G) (tys : List (ClassId × FieldType)) (y : MethodName) (ws : List Cond) (rm : Room) (av : List Value) (W0 : va_W) (res : Option Value) (W1 : va_W) : Prop :=
  ∀ sz, Met l y ws rm (fk_Pre D tys av W0 sz) (fk_Qc D tys (va_A W0 sz) W1 res) 0 0 (va_A W0 sz)
theorem fk_blind {D : va_G} {tys : List (ClassId × FieldType)} {av : List Value} {W0 : va_W} {sz : Nat} : FrameBlind (fk_Pre D tys av W0 sz) := fun a U g mk q => by
  obtain ⟨q0, q1, qP, qK, qD⟩ := q
  exact ⟨q0, q1, qP, va_K.moved (u := U) (U := U.calling g mk a) (Vm.Alike.refl U.vm) qK, qD⟩
/-- the end of a body -/
abbrev fk_Q (below : List Frame) (D : va_G) (tys : List (ClassId × FieldType)) (av : List Value) (s : State) (A : Nat → Prop) (W1 : va_W) (res : Option Value) : State → Prop := MQ below (fk_Qc D tys A W1 res) av.toArray s 0 0 A
theorem fk_C_of {l : Launch} {D : va_G} {tys : List (ClassId × FieldType)} {y : MethodName} {ws ws' : List Cond} {rm : Room} {av : List Value} {W0 : va_W} {res : Option Value} {W1 : va_W} {cc : ByteArray} {maxL : Nat} {ret : Option FieldType} {own : String}
    (hy : plainName y.cls = true) (hw : ws = Cond.code y cc maxL ret :: ws') (hyc : y.cls = own) (hle : (lg_sl av).length ≤ maxL)
    (body : ∀ (p : Program) (e : Env) (s : State) (m : MethodId) (below : List Frame) (meth : Method) (c : Code) (A : Nat → Prop) (ls : Array Slot), p.tables.exec = Jvm.exec → c.code = cc → meth.sig.returnType = ret → meth.locks = false → c.maxLocals = maxL → (∀ w ∈ ws, w.before av.toArray s = true) → s.vm.findClass own = some m.cls →
      (∀ q : Nat, s.heap.size ≤ q → A q) → va_P D vwCl W0 s.heap → va_K D vwCl tys s → va_D A W0 → lv_has ls maxL (lv_args 0 av) →
      W p l e rm s m av.toArray below meth c s.heap [] 0 0 (fk_Q below D tys av s A W1 res) (F0 m 0 ls [])) : fk_C l D tys y ws rm av W0 res W1 := by
  intro sz
  refine Met.ofW (cc := cc) (maxL := maxL) (ret := ret) hy hw ?_
  intro p e s m args below meth c s₁ B hml hv
  obtain ⟨rfl, hsz, hP, hK, hD0⟩ := hv
  subst hsz
  subst hyc
  have hD := hD0.self (sz := s.heap.size)
  have hA : ∀ q : Nat, s.heap.size ≤ q → va_A W0 s.heap.size q := fun q h => Or.inr h
  have hl := lv_entry av (n := maxL) hle
  rw [lg_entry_eq]
  exact body p e s m below meth c _ _ B.exec B.bytes B.returns B.notSynchronized hml (atoms_spec (ws := ws) B.pre) (findClass_of_methodNamed B.named) hA hP hK hD hl
section
variable {p : Program} {l : Launch} {e : Env} {R : Room} {s : State} {m : MethodId} {args : Array Value} {below : List Frame} {meth : Method} {c : Code} {H : Heap} {locs : List Loc} {cells slots : Nat} {Q : State → Prop}
variable {D : va_G} {tys : List (ClassId × FieldType)} {A A0 : Nat → Prop} {W0 W1 : va_W} {res : Option Value} {av : List Value} {cc : ByteArray} {pc : Nat} {ls : Array Slot}
theorem fk_post (hP : va_P D vwCl W0 H) (hK : va_K D vwCl tys s) (hD : va_D A W0) (hS : va_S A s.heap H locs) (hw : W0 = W1) {v : Option Value} (hv : v = res) : ∀ t : State, t.heap = H → s.WarmedH t.vm → fk_Qc D tys A W1 res av.toArray s (.returned v) t := by
  subst hw
  subst hv
  intro t ht hW
  exact ⟨⟨rfl, by rw [ht]; exact hP, va_K.moved hW.alike hK, hD⟩, hS.F ht⟩
theorem fk_iret {v : Int32} (hx : p.tables.exec = Jvm.exec) (hb : c.code = cc) (hr : meth.sig.returnType = some .int) (hlocks : meth.locks = false) (hP : va_P D vwCl W0 H) (hK : va_K D vwCl tys s) (hD : va_D A W0) (hS : va_S A s.heap H locs) (hw : W0 = W1) (hv : some (Value.int v) = res) (d : decode cc pc = .ok (.ireturn, 1)) :
    W p l e R s m av.toArray below meth c H locs 0 0 (fk_Q below D tys av s A W1 res) (F0 m pc ls [.int v]) := W.iret hx hb hr (fk_post hP hK hD hS hw hv) hS.2.2 d hlocks
theorem fk_zret {v : Int32} (hx : p.tables.exec = Jvm.exec) (hb : c.code = cc) (hr : meth.sig.returnType = some .boolean) (hlocks : meth.locks = false) (hP : va_P D vwCl W0 H) (hK : va_K D vwCl tys s) (hD : va_D A W0) (hS : va_S A s.heap H locs) (hw : W0 = W1) (hn : narrow .boolean (.int v) = .int v) (hv : some (Value.int v) = res) (d : decode cc pc = .ok (.ireturn, 1)) :
    W p l e R s m av.toArray below meth c H locs 0 0 (fk_Q below D tys av s A W1 res) (F0 m pc ls [.int v]) := W.zret hx hb hr hn (fk_post hP hK hD hS hw hv) hS.2.2 d hlocks
theorem fk_lret {v : Int64} (hx : p.tables.exec = Jvm.exec) (hb : c.code = cc) (hr : meth.sig.returnType = some .long) (hlocks : meth.locks = false) (hP : va_P D vwCl W0 H) (hK : va_K D vwCl tys s) (hD : va_D A W0) (hS : va_S A s.heap H locs) (hw : W0 = W1) (hv : some (Value.long v) = res) (d : decode cc pc = .ok (.lreturn, 1)) :
    W p l e R s m av.toArray below meth c H locs 0 0 (fk_Q below D tys av s A W1 res) (F0 m pc ls [.long v]) := W.lret hx hb hr (fk_post hP hK hD hS hw hv) hS.2.2 d hlocks
theorem fk_vret (hx : p.tables.exec = Jvm.exec) (hb : c.code = cc) (hr : meth.sig.returnType = none) (hlocks : meth.locks = false) (hP : va_P D vwCl W0 H) (hK : va_K D vwCl tys s) (hD : va_D A W0) (hS : va_S A s.heap H locs) (hw : W0 = W1) (hv : none = res) (d : decode cc pc = .ok (.return_, 1)) :
    W p l e R s m av.toArray below meth c H locs 0 0 (fk_Q below D tys av s A W1 res) (F0 m pc ls []) := W.vret hx hb hr (fk_post hP hK hD hS hw hv) hS.2.2 d hlocks
end
theorem fk_aret {rt : FieldType} {v : Value} {p : Program} {l : Launch} {e : Env} {R : Room} {s : State} {m : MethodId} {below : List Frame} {meth : Method} {c : Code} {H : Heap} {locs : List Loc} {D : va_G} {tys : List (ClassId × FieldType)} {A : Nat → Prop} {W0 W1 : va_W} {res : Option Value} {av : List Value} {cc : ByteArray} {pc : Nat} {ls : Array Slot}
    (hx : p.tables.exec = Jvm.exec) (hb : c.code = cc) (hr : meth.sig.returnType = some rt) (hrt : (∃ n, rt = .object n) ∨ ∃ t, rt = .array t) (hvr : v = .null ∨ ∃ a, v = .ref a) (hlocks : meth.locks = false) (hP : va_P D vwCl W0 H) (hK : va_K D vwCl tys s) (hD : va_D A W0) (hS : va_S A s.heap H locs) (hw : W0 = W1) (hv : some v = res) (d : decode cc pc = .ok (.areturn, 1)) :
    W p l e R s m av.toArray below meth c H locs 0 0 (fk_Q below D tys av s A W1 res) (F0 m pc ls [v]) := W.aret hx hb hr hrt hvr (fk_post hP hK hD hS hw hv) hS.2.2 d hlocks
/-- which cells a callee may change are the caller's own -/
theorem fk_fr {A0 : Nat → Prop} {W0 : va_W} {H0 H : Heap} {locs : List Loc} (hD : va_D A0 W0) (hS : va_S A0 H0 H locs) (hA : ∀ q, H0.size ≤ q → A0 q) : ∀ q, va_A W0 H.size q → A0 q := by
  intro q h
  rcases h with ⟨k, e, h⟩ | h
  · exact hD.2 k (q, e) h
  · exact hA q (Nat.le_trans hS.1 h)
section
variable {p : Program} {l : Launch} {e : Env} {R : Room} {s : State} {m : MethodId} {args : Array Value} {below : List Frame} {meth : Method} {c : Code} {H H0 : Heap} {locs : List Loc} {cells slots : Nat} {Q : State → Prop}
variable {D : va_G} {tys : List (ClassId × FieldType)} {A A0 : Nat → Prop} {W0 W1 : va_W} {res : Option Value} {av : List Value} {cc bytes : ByteArray} {pc nL maxL index n : Nat} {ls : Array Slot} {st0 rest : List Value}
variable {y : MethodName} {ret : Option FieldType} {wsY Ts : List Cond} {rm : Room} {own C : String} {b : Addr} {As : List Value}
theorem fk_call {a : Array Value} {sz : Nat} (hsz : sz = H.size) (hr : va_Run p l e R s m args below meth c H locs cells slots 0 0 (F0 m pc ls st0) rest (fk_Qc D tys (va_A W0 sz) W1 res a) (va_A W0 sz)) (hD : va_D A0 W0) (hS : va_S A0 H0 H locs) (hA : ∀ q, H0.size ≤ q → A0 q)
    (kk : ∀ (H1 : Heap) (locs1 : List Loc), va_P D vwCl W1 H1 → va_D A0 W1 → va_S A0 H0 H1 locs1 → W p l e R s m args below meth c H1 locs1 cells slots Q (F0 m (pc + 3) ls (res.toList ++ rest))) : W p l e R s m args below meth c H locs cells slots Q (F0 m pc ls st0) := by
  subst hsz
  have hf := fk_fr hD hS hA
  intro T hT X
  obtain ⟨v, st₀, t, T', L, h0, X', hL, e1, e2, ⟨⟨hv, hP1, hK1, hD1⟩, hz, hk⟩, st⟩ := hr T hT X
  cases hv
  rw [h0] at hz hk
  obtain ⟨t2, a1, b1⟩ := kk T'.heap (locs ++ L) (by rw [e1]; exact hP1) (hD1.weaken (fun _ _ _ h => hf _ h))
    ⟨Nat.le_trans hS.1 (by rw [e1]; exact hz), fun q h1 h2 => by rw [e1, hk q (Nat.lt_of_lt_of_le h1 hS.1) (fun z => h2 (hf q z))]; exact hS.2.1 q h1 h2, fun q hq => by
      rcases List.mem_append.mp hq with h | h
      · exact hS.2.2 q h
      · exact hf _ (hL q h)⟩ T' rfl X'
  exact ⟨t2, st t2 a1, b1⟩
theorem fk_pre (hP : va_P D vwCl W0 H) (hK : va_K D vwCl tys s) (hD : va_D A0 W0) : ∀ U : State, U.heap = H → s.WarmedH U.vm → fk_Pre D tys av W0 H.size av.toArray U := fun U hU hW => ⟨rfl, by rw [hU], by rw [hU]; exact hP, va_K.moved hW.alike hK, hD.weaken (fun _ _ _ _ => trivial)⟩
theorem fk_callV (S9 : CallFix p m c cc nL s args Ts own) (hC : fk_C l D tys y wsY rm (.ref b :: As) W0 res W1) (cw : CallW R s args own C index y bytes maxL ret wsY rm 0 0 n)
    (hrv : ∃ cell : Cell, H[b]? = some cell ∧ cell.vm.isStatics = false ∧ s.vm.findClass C = some cell.cls) (hK : va_K D vwCl tys s) (hP : va_P D vwCl W0 H) (hD : va_D A0 W0) (hS : va_S A0 H0 H locs) (hA : ∀ q, H0.size ≤ q → A0 q)
    (hn : As.length = n) (hsize : ls.size = nL) (hst : st0 = As.reverse ++ .ref b :: rest) (hW : (rest.map fun v => v.category).sum ≤ 8) (hdg : decode cc pc = .ok (.invokevirtual index, 3)) (hf : cells ≤ R.cells ∧ slots ≤ R.slots)
    (kk : ∀ (H1 : Heap) (locs1 : List Loc), va_P D vwCl W1 H1 → va_D A0 W1 → va_S A0 H0 H1 locs1 → W p l e R s m args below meth c H1 locs1 cells slots Q (F0 m (pc + 3) ls (res.toList ++ rest))) : W p l e R s m args below meth c H locs cells slots Q (F0 m pc ls st0) :=
  fk_call rfl (va_runV (As := As) (rest := rest) S9 (hC H.size) cw ⟨fk_blind, hrv, fk_pre hP hK hD⟩ rfl hn hsize hst (lv_room hW) hdg hf) hD hS hA kk
theorem fk_callS (S9 : CallFix p m c cc nL s args Ts own) (hC : fk_C l D tys y wsY rm As W0 res W1) (cw : CallB R s args own index y bytes maxL ret wsY rm 0 0 n ∧ (Cond.static y).before args s = true)
    (hK : va_K D vwCl tys s) (hP : va_P D vwCl W0 H) (hD : va_D A0 W0) (hS : va_S A0 H0 H locs) (hA : ∀ q, H0.size ≤ q → A0 q)
    (hn : As.length = n) (hsize : ls.size = nL) (hst : st0 = As.reverse ++ rest) (hW : (rest.map fun v => v.category).sum ≤ 8) (hdg : decode cc pc = .ok (.invokestatic index, 3)) (hf : cells ≤ R.cells ∧ slots ≤ R.slots)
    (kk : ∀ (H1 : Heap) (locs1 : List Loc), va_P D vwCl W1 H1 → va_D A0 W1 → va_S A0 H0 H1 locs1 → W p l e R s m args below meth c H1 locs1 cells slots Q (F0 m (pc + 3) ls (res.toList ++ rest))) : W p l e R s m args below meth c H locs cells slots Q (F0 m pc ls st0) :=
  fk_call rfl (va_runS (As := As) (rest := rest) S9 (hC H.size) cw ⟨fk_blind, fk_pre hP hK hD⟩ rfl hn hsize hst (lv_room hW) hdg hf) hD hS hA kk
end
/-! the rows of the kernel's and the model's cells -/
section
variable {p : Program} {l : Launch} {e : Env} {R : Room} {s : State} {m : MethodId} {args : Array Value} {below : List Frame} {meth : Method} {c : Code} {H H0 : Heap} {locs : List Loc} {cells slots : Nat} {Q : State → Prop}
variable {D : va_G} {A : Nat → Prop} {cc : ByteArray} {pc index : Nat} {ls : Array Slot} {rest : List Value} {own : String} {Ts : List Cond}
variable {ad : Nat → Nat} {cI cT cJ : ClassId} {S : fk_S} {X : va_W} {t : Nat}
theorem fk_getK (hx : p.tables.exec = Jvm.exec) (hb : c.code = cc) (hts : ∀ w ∈ Ts, w.before args s = true) (hin : ∀ w ∈ u_ws RX2 TX2 6, w ∈ Ts) (hown : s.vm.findClass own = some m.cls) (hK : va_K D vwCl (fk_ty cI cT cJ) s) (hP : va_P D vwCl (fk_kW ad cI cT S ++ X) H) (k : Nat) (hk : k < 6) {v : Value} (hv : (fk_fK ad S)[k]? = some v)
    (hlink : Cond.fieldLink own index "FutexKernel" (TX2 k).2.1 (TX2 k).2.2.1 ∈ Ts) (ho : (TX2 k).1 = "FutexKernel") (d : decode cc pc = .ok (.getfield index, 3)) (kk : W p l e R s m args below meth c H locs cells slots Q (F0 m (pc + 3) ls (v :: rest))) : W p l e R s m args below meth c H locs cells slots Q (F0 m pc ls (.ref (ad 0) :: rest)) :=
  va_get (ci := 2) (C := RX2) (T := TX2) (N := 6) hx hb hts hin hown hK hP 0 fk_atK rfl k hk (hts _ hlink) (fun x h => by rw [ho] at h; exact h) hv d kk
theorem fk_getT (hx : p.tables.exec = Jvm.exec) (hb : c.code = cc) (hts : ∀ w ∈ Ts, w.before args s = true) (hin : ∀ w ∈ u_ws RX1 TX1 11, w ∈ Ts) (hown : s.vm.findClass own = some m.cls) (hK : va_K D vwCl (fk_ty cI cT cJ) s) (hP : va_P D vwCl (fk_kW ad cI cT S ++ X) H) (ht : t < 8) (k : Nat) (hk : k < 11) {v : Value} (hv : (fk_fT ad S t)[k]? = some v)
    (hlink : Cond.fieldLink own index "FutexKernel$Task" (TX1 k).2.1 (TX1 k).2.2.1 ∈ Ts) (ho : (TX1 k).1 = "FutexKernel$Task") (d : decode cc pc = .ok (.getfield index, 3)) (kk : W p l e R s m args below meth c H locs cells slots Q (F0 m (pc + 3) ls (v :: rest))) : W p l e R s m args below meth c H locs cells slots Q (F0 m pc ls (.ref (ad (3 + t)) :: rest)) :=
  va_get (ci := 1) (C := RX1) (T := TX1) (N := 11) hx hb hts hin hown hK hP (3 + t) (fk_atT ht) rfl k hk (hts _ hlink) (fun x h => by rw [ho] at h; exact h) hv d kk
theorem fk_getL (hx : p.tables.exec = Jvm.exec) (hb : c.code = cc) (hts : ∀ w ∈ Ts, w.before args s = true) (hin : ∀ w ∈ u_ws RX0 TX0 2, w ∈ Ts) (hown : s.vm.findClass own = some m.cls) (hK : va_K D vwCl (fk_ty cI cT cJ) s) (hP : va_P D vwCl (fk_kW ad cI cT S ++ X) H) (ht : t < 8) (k : Nat) (hk : k < 2) {v : Value} (hv : (fk_fL ad S t)[k]? = some v)
    (hlink : Cond.fieldLink own index "FutexKernel$LockList" (TX0 k).2.1 (TX0 k).2.2.1 ∈ Ts) (ho : (TX0 k).1 = "FutexKernel$LockList") (d : decode cc pc = .ok (.getfield index, 3)) (kk : W p l e R s m args below meth c H locs cells slots Q (F0 m (pc + 3) ls (v :: rest))) : W p l e R s m args below meth c H locs cells slots Q (F0 m pc ls (.ref (ad (11 + t)) :: rest)) :=
  va_get (ci := 0) (C := RX0) (T := TX0) (N := 2) hx hb hts hin hown hK hP (11 + t) (fk_atL ht) rfl k hk (hts _ hlink) (fun x h => by rw [ho] at h; exact h) hv d kk
theorem fk_putK (hx : p.tables.exec = Jvm.exec) (hb : c.code = cc) (hts : ∀ w ∈ Ts, w.before args s = true) (hin : ∀ w ∈ u_ws RX2 TX2 6, w ∈ Ts) (hown : s.vm.findClass own = some m.cls) (hK : va_K D vwCl (fk_ty cI cT cJ) s) (hP : va_P D vwCl (fk_kW ad cI cT S ++ X) H) (hD : va_D A (fk_kW ad cI cT S ++ X)) (hS : va_S A H0 H locs) (f : Nat) (hk : f + 2 < 6) {v : Int32} (hset : (fk_fK ad S).set (f + 2) (.int v) = fk_fK ad (fk_up S 12 f v))
    (hlink : Cond.fieldLink own index "FutexKernel" (TX2 (f + 2)).2.1 (TX2 (f + 2)).2.2.1 ∈ Ts) (ho : (TX2 (f + 2)).1 = "FutexKernel") (hfin : (TX2 (f + 2)).2.2.2 = false) (hd : parseFieldDescriptor (TX2 (f + 2)).2.2.1 = some .int) (d : decode cc pc = .ok (.putfield index, 3))
    (kk : ∀ (H1 : Heap) (locs1 : List Loc), va_P D vwCl (fk_kW ad cI cT (fk_up S 12 f v) ++ X) H1 → va_D A (fk_kW ad cI cT (fk_up S 12 f v) ++ X) → va_S A H0 H1 locs1 → W p l e R s m args below meth c H1 locs1 cells slots Q (F0 m (pc + 3) ls rest)) : W p l e R s m args below meth c H locs cells slots Q (F0 m pc ls (.int v :: .ref (ad 0) :: rest)) :=
  va_put (ci := 2) (C := RX2) (T := TX2) (N := 6) hx hb hts hin tyX2 tyX2_ok nmX2 hown hK hP hD hS 0 fk_atK rfl (f + 2) hk (hts _ hlink) (fun x h => by rw [ho] at h; exact h) hfin hd rfl rfl hk d (fun H1 locs1 p1 p2 p3 => by rw [fk_setK hset] at p1 p2; exact kk H1 locs1 p1 p2 p3)
theorem fk_putT (hx : p.tables.exec = Jvm.exec) (hb : c.code = cc) (hts : ∀ w ∈ Ts, w.before args s = true) (hin : ∀ w ∈ u_ws RX1 TX1 11, w ∈ Ts) (hown : s.vm.findClass own = some m.cls) (hK : va_K D vwCl (fk_ty cI cT cJ) s) (hP : va_P D vwCl (fk_kW ad cI cT S ++ X) H) (hD : va_D A (fk_kW ad cI cT S ++ X)) (hS : va_S A H0 H locs) (ht : t < 8) (f : Nat) (hk : f + 1 < 11) (h1 : 1 ≤ f) {v : Int32} (hset : (fk_fT ad S t).set (f + 1) (.int v) = fk_fT ad (fk_up S f t v) t)
    (hlink : Cond.fieldLink own index "FutexKernel$Task" (TX1 (f + 1)).2.1 (TX1 (f + 1)).2.2.1 ∈ Ts) (ho : (TX1 (f + 1)).1 = "FutexKernel$Task") (hfin : (TX1 (f + 1)).2.2.2 = false) (hd : parseFieldDescriptor (TX1 (f + 1)).2.2.1 = some .int) (d : decode cc pc = .ok (.putfield index, 3))
    (kk : ∀ (H1 : Heap) (locs1 : List Loc), va_P D vwCl (fk_kW ad cI cT (fk_up S f t v) ++ X) H1 → va_D A (fk_kW ad cI cT (fk_up S f t v) ++ X) → va_S A H0 H1 locs1 → W p l e R s m args below meth c H1 locs1 cells slots Q (F0 m (pc + 3) ls rest)) : W p l e R s m args below meth c H locs cells slots Q (F0 m pc ls (.int v :: .ref (ad (3 + t)) :: rest)) :=
  va_put (ci := 1) (C := RX1) (T := TX1) (N := 11) hx hb hts hin tyX1 tyX1_ok nmX1 hown hK hP hD hS (3 + t) (fk_atT ht) rfl (f + 1) hk (hts _ hlink) (fun x h => by rw [ho] at h; exact h) hfin hd rfl rfl hk d (fun H1 locs1 p1 p2 p3 => by rw [fk_setT ht (by omega) hset] at p1 p2; exact kk H1 locs1 p1 p2 p3)
theorem fk_putL (hx : p.tables.exec = Jvm.exec) (hb : c.code = cc) (hts : ∀ w ∈ Ts, w.before args s = true) (hin : ∀ w ∈ u_ws RX0 TX0 2, w ∈ Ts) (hown : s.vm.findClass own = some m.cls) (hK : va_K D vwCl (fk_ty cI cT cJ) s) (hP : va_P D vwCl (fk_kW ad cI cT S ++ X) H) (hD : va_D A (fk_kW ad cI cT S ++ X)) (hS : va_S A H0 H locs) (ht : t < 8) {v : Int32}
    (hlink : Cond.fieldLink own index "FutexKernel$LockList" "size" "I" ∈ Ts) (d : decode cc pc = .ok (.putfield index, 3))
    (kk : ∀ (H1 : Heap) (locs1 : List Loc), va_P D vwCl (fk_kW ad cI cT (fk_up S 10 t v) ++ X) H1 → va_D A (fk_kW ad cI cT (fk_up S 10 t v) ++ X) → va_S A H0 H1 locs1 → W p l e R s m args below meth c H1 locs1 cells slots Q (F0 m (pc + 3) ls rest)) : W p l e R s m args below meth c H locs cells slots Q (F0 m pc ls (.int v :: .ref (ad (11 + t)) :: rest)) :=
  va_put (ci := 0) (C := RX0) (T := TX0) (N := 2) hx hb hts hin tyX0 tyX0_ok nmX0 hown hK hP hD hS (11 + t) (fk_atL ht) rfl 1 (by decide) (hts _ hlink) (fun x h => h) rfl (ty := .int) (by decide +kernel) rfl rfl (by simp [fk_fL]) d (fun H1 locs1 p1 p2 p3 => by rw [fk_setL (v := v) ht (by simp [fk_fL, fk_up])] at p1 p2; exact kk H1 locs1 p1 p2 p3)
/-- a word of the kernel -/
theorem fk_ldW (hx : p.tables.exec = Jvm.exec) (hb : c.code = cc) (hK : va_K D vwCl (fk_ty cI cT cJ) s) (hP : va_P D vwCl (fk_kW ad cI cT S ++ X) H) {i : Int32} (hi : vp_in i 16) (d : decode cc pc = .ok (.iaload, 1))
    (kk : W p l e R s m args below meth c H locs cells slots Q (F0 m (pc + 1) ls (.int (S 0 i.toNatClampNeg) :: rest))) : W p l e R s m args below meth c H locs cells slots Q (F0 m pc ls (.int i :: .ref (ad 1) :: rest)) := va_iald hx hb hK hP 1 0 fk_atW rfl hi d kk
theorem fk_stW (hx : p.tables.exec = Jvm.exec) (hb : c.code = cc) (hK : va_K D vwCl (fk_ty cI cT cJ) s) (hP : va_P D vwCl (fk_kW ad cI cT S ++ X) H) (hD : va_D A (fk_kW ad cI cT S ++ X)) (hS : va_S A H0 H locs) {i v : Int32} (hi : vp_in i 16) (d : decode cc pc = .ok (.iastore, 1))
    (kk : ∀ (H1 : Heap) (locs1 : List Loc), va_P D vwCl (fk_kW ad cI cT (fk_up S 0 i.toNatClampNeg v) ++ X) H1 → va_D A (fk_kW ad cI cT (fk_up S 0 i.toNatClampNeg v) ++ X) → va_S A H0 H1 locs1 → W p l e R s m args below meth c H1 locs1 cells slots Q (F0 m (pc + 1) ls rest)) : W p l e R s m args below meth c H locs cells slots Q (F0 m pc ls (.int v :: .int i :: .ref (ad 1) :: rest)) :=
  va_iast hx hb hK hP hD hS 1 0 fk_atW rfl hi d (fun H1 locs1 p1 p2 p3 => by rw [fk_setW] at p1 p2; exact kk H1 locs1 p1 p2 p3)
/-- a task out of the kernel's row -/
theorem fk_ldA (hx : p.tables.exec = Jvm.exec) (hb : c.code = cc) (hK : va_K D vwCl (fk_ty cI cT cJ) s) (hP : va_P D vwCl (fk_kW ad cI cT S ++ X) H) {i : Int32} (hi : vp_in i 8) (d : decode cc pc = .ok (.aaload, 1))
    (kk : W p l e R s m args below meth c H locs cells slots Q (F0 m (pc + 1) ls (.ref (ad (3 + i.toNatClampNeg)) :: rest))) : W p l e R s m args below meth c H locs cells slots Q (F0 m pc ls (.int i :: .ref (ad 2) :: rest)) := va_aldq hx hb hK hP 2 1 fk_atA rfl hi d kk
theorem fk_lenA (hx : p.tables.exec = Jvm.exec) (hb : c.code = cc) (hK : va_K D vwCl (fk_ty cI cT cJ) s) (hP : va_P D vwCl (fk_kW ad cI cT S ++ X) H) (d : decode cc pc = .ok (.arraylength, 1))
    (kk : W p l e R s m args below meth c H locs cells slots Q (F0 m (pc + 1) ls (.int 8 :: rest))) : W p l e R s m args below meth c H locs cells slots Q (F0 m pc ls (.ref (ad 2) :: rest)) := va_alen hx hb hK hP 2 1 fk_atA rfl (v := 8) rfl d kk
theorem fk_ldR (hx : p.tables.exec = Jvm.exec) (hb : c.code = cc) (hK : va_K D vwCl (fk_ty cI cT cJ) s) (hP : va_P D vwCl (fk_kW ad cI cT S ++ X) H) (ht : t < 8) {i : Int32} (hi : vp_in i 16) (d : decode cc pc = .ok (.iaload, 1))
    (kk : W p l e R s m args below meth c H locs cells slots Q (F0 m (pc + 1) ls (.int (S 11 (16 * t + i.toNatClampNeg)) :: rest))) : W p l e R s m args below meth c H locs cells slots Q (F0 m pc ls (.int i :: .ref (ad (19 + t)) :: rest)) :=
  va_iald hx hb hK hP (19 + t) 0 (fk_atR ht) rfl hi d (by
    have h : fk_row S t i.toNatClampNeg = S 11 (16 * t + i.toNatClampNeg) := by
      unfold fk_row
      rw [if_pos (Nat.not_le.mp fun q => hi (Or.inr q))]
    rw [h]
    exact kk)
theorem fk_stR (hx : p.tables.exec = Jvm.exec) (hb : c.code = cc) (hK : va_K D vwCl (fk_ty cI cT cJ) s) (hP : va_P D vwCl (fk_kW ad cI cT S ++ X) H) (hD : va_D A (fk_kW ad cI cT S ++ X)) (hS : va_S A H0 H locs) (ht : t < 8) {i v : Int32} (hi : vp_in i 16) (d : decode cc pc = .ok (.iastore, 1))
    (kk : ∀ (H1 : Heap) (locs1 : List Loc), va_P D vwCl (fk_kW ad cI cT (fk_up S 11 (16 * t + i.toNatClampNeg) v) ++ X) H1 → va_D A (fk_kW ad cI cT (fk_up S 11 (16 * t + i.toNatClampNeg) v) ++ X) → va_S A H0 H1 locs1 → W p l e R s m args below meth c H1 locs1 cells slots Q (F0 m (pc + 1) ls rest)) : W p l e R s m args below meth c H locs cells slots Q (F0 m pc ls (.int v :: .int i :: .ref (ad (19 + t)) :: rest)) :=
  va_iast hx hb hK hP hD hS (19 + t) 0 (fk_atR ht) rfl hi d (fun H1 locs1 p1 p2 p3 => by rw [fk_setR ht (Nat.not_le.mp fun q => hi (Or.inr q))] at p1 p2; exact kk H1 locs1 p1 p2 p3)
theorem fk_rvK (hK : va_K D vwCl (fk_ty cI cT cJ) s) (hP : va_P D vwCl (fk_kW ad cI cT S ++ X) H) : ∃ cell : Cell, H[ad 0]? = some cell ∧ cell.vm.isStatics = false ∧ s.vm.findClass RX2 = some cell.cls := va_recv hK hP (ci := 2) (q0 := 0) rfl fk_atK
theorem fk_rvT (hK : va_K D vwCl (fk_ty cI cT cJ) s) (hP : va_P D vwCl (fk_kW ad cI cT S ++ X) H) (ht : t < 8) : ∃ cell : Cell, H[ad (3 + t)]? = some cell ∧ cell.vm.isStatics = false ∧ s.vm.findClass RX1 = some cell.cls := va_recv hK hP (ci := 1) (q0 := 3 + t) rfl (fk_atT ht)
theorem fk_rvL (hK : va_K D vwCl (fk_ty cI cT cJ) s) (hP : va_P D vwCl (fk_kW ad cI cT S ++ X) H) (ht : t < 8) : ∃ cell : Cell, H[ad (11 + t)]? = some cell ∧ cell.vm.isStatics = false ∧ s.vm.findClass RX0 = some cell.cls := va_recv hK hP (ci := 0) (q0 := 11 + t) rfl (fk_atL ht)
end
