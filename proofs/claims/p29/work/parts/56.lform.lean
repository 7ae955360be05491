/-! the law's own methods: a call of the kernel in a try -/
/-- the law's row of 16 ints -/
def fk_pr (cI : ClassId) (P : Nat → Int32) : va_E := .inl (cI, 16, .inl P)
def fk_Nc (U : State) : Prop := va_Nc "java/lang/IllegalStateException" "java/lang/IndexOutOfBoundsException" U ∧ va_Nc "java/lang/IllegalArgumentException" "java/lang/IndexOutOfBoundsException" U ∧ va_Nc "java/lang/IllegalStateException" "java/lang/IllegalArgumentException" U
theorem fk_Nc.moved {u U : State} (hvm : u.vm.Alike U.vm) (h : fk_Nc u) : fk_Nc U := ⟨h.1.moved hvm, h.2.1.moved hvm, h.2.2.moved hvm⟩
def fk_PreL (D : va_G) (tys : List (ClassId × FieldType)) (av : List Value) (W0 : va_W) (sz : Nat) : Array Value → State → Prop := va_Pc av (fun U => U.heap.size = sz ∧ va_P D vwCl W0 U.heap ∧ va_K D vwCl tys U ∧ va_D (fun _ => True) W0 ∧ fk_Zs (va_A W0 sz) U U.heap ∧ fk_Nc U)
def fk_L (l : Launch) (D : va_G) (tys : List (ClassId × FieldType)) (y : MethodName) (ws : List Cond) (rm : Room) (av : List Value) (W0 : va_W) (res : Option Value) (W1 : va_W) : Prop :=
  ∀ sz, Met l y ws rm (fk_PreL D tys av W0 sz) (fk_Qc D tys (va_A W0 sz) W1 res) 1 6 (va_A W0 sz)
theorem fk_blindL {D : va_G} {tys : List (ClassId × FieldType)} {av : List Value} {W0 : va_W} {sz : Nat} : FrameBlind (fk_PreL D tys av W0 sz) := fun a U g mk q => by
  obtain ⟨q0, q1, qP, qK, qD, qZ, qN⟩ := q
  obtain ⟨z0, z1, zP, zK, zD, zZ⟩ := fk_blindX (D := D) (tys := tys) (av := av) (W0 := W0) (sz := sz) a U g mk ⟨q0, q1, qP, qK, qD, qZ⟩
  exact ⟨z0, z1, zP, zK, zD, zZ, qN.moved (U := U.calling g mk a) (Vm.Alike.refl U.vm)⟩
theorem fk_L_of {l : Launch} {D : va_G} {tys : List (ClassId × FieldType)} {y : MethodName} {ws ws' : List Cond} {rm : Room} {av : List Value} {W0 : va_W} {res : Option Value} {W1 : va_W} {cc : ByteArray} {maxL : Nat} {ret : Option FieldType} {own : String} {hh : List (Nat × Nat × Nat × Nat)}
    (hy : plainName y.cls = true) (hw : ws = Cond.codeWith y cc maxL ret hh :: ws') (hyc : y.cls = own) (hle : (lg_sl av).length ≤ maxL)
    (body : ∀ (p : Program) (e : Env) (s : State) (m : MethodId) (below : List Frame) (meth : Method) (c : Code) (A : Nat → Prop) (ls : Array Slot), p.tables.exec = Jvm.exec → c.code = cc → meth.sig.returnType = ret → meth.locks = false → c.maxLocals = maxL → (∀ w ∈ ws, w.before av.toArray s = true) → s.vm.findClass own = some m.cls → c.exceptionTable.toList = tableOf hh →
      (∀ q : Nat, s.heap.size ≤ q → A q) → va_P D vwCl W0 s.heap → va_K D vwCl tys s → va_D A W0 → fk_Zs A s s.heap → fk_Nc s → lv_has ls maxL (lv_args 0 av) →
      W p l e rm s m av.toArray below meth c s.heap [] 0 0 (MQ below (fk_Qc D tys A W1 res) av.toArray s 1 6 A) (F0 m 0 ls [])) : fk_L l D tys y ws rm av W0 res W1 := by
  intro sz
  refine MetFree.of_bodyS (code := cc) (maxLocals := maxL) (ret := ret) hy ?_ ?_
  · intro args s m h hn
    obtain ⟨m9, meth, c, hn9, h1, h2, h3, h4, -, h5, h6, -⟩ := Cond.codeWith_spec (atoms_spec (ws := ws) h _ (by rw [hw]; exact List.mem_cons_self))
    cases hn.symm.trans hn9
    exact ⟨meth, c, h1, h2, h3, h4, h5, h6⟩
  · intro p e s m args below meth c s₁ B hml hv _
    obtain ⟨rfl, hsz, hP, hK, hD0, hZ, hN⟩ := hv
    subst hsz
    subst hyc
    have hts := atoms_spec (ws := ws) B.pre
    have ht := vx_table (x := y) B (hts _ (by rw [hw]; exact List.mem_cons_self))
    have hD := hD0.self (sz := s.heap.size)
    have hA : ∀ q : Nat, s.heap.size ≤ q → va_A W0 s.heap.size q := fun q h => Or.inr h
    have hl := lv_entry av (n := maxL) hle
    have hh0 : s₁.heap = s.heap := by rw [B.state]; rfl
    have K : W p l e rm s m av.toArray below meth c s.heap [] 0 0 (MQ below (fk_Qc D tys (va_A W0 s.heap.size) W1 res) av.toArray s 1 6 (va_A W0 s.heap.size)) (entryFrame m av.toArray maxL) := by
      rw [lg_entry_eq]
      exact body p e s m below meth c _ _ B.exec B.bytes B.returns B.notSynchronized hml hts (findClass_of_methodNamed B.named) ht hA hP hK hD hZ hN hl
    obtain ⟨t, a1, o, b1, b2, b3⟩ := K s₁ hh0 (Stand.of_body B)
    exact ⟨t, o, a1, b1, b2, ⟨b3.1, b3.2⟩⟩
section
variable {p : Program} {l : Launch} {e : Env} {R : Room} {s : State} {m : MethodId} {args : Array Value} {below : List Frame} {meth : Method} {c : Code} {H H0 : Heap} {locs : List Loc} {cells slots : Nat} {Q : State → Prop}
variable {D : va_G} {tys : List (ClassId × FieldType)} {A A0 : Nat → Prop} {W0 W1 : va_W} {res : Option Value} {av : List Value} {cc bytes : ByteArray} {pc nL maxL index n : Nat} {ls : Array Slot} {st0 rest : List Value}
variable {y : MethodName} {ret : Option FieldType} {wsY Ts : List Cond} {rm : Room} {own C : String} {b : Addr} {As : List Value}
theorem fk_iretL {v : Int32} (h1 : cells ≤ 1) (h2 : slots ≤ 6) (hx : p.tables.exec = Jvm.exec) (hb : c.code = cc) (hr : meth.sig.returnType = some .int) (hlocks : meth.locks = false) (hP : va_P D vwCl W0 H) (hK : va_K D vwCl tys s) (hD : va_D A W0) (hS : va_S A s.heap H locs) (hw : W0 = W1) (hv : some (Value.int v) = res) (d : decode cc pc = .ok (.ireturn, 1)) :
    W p l e R s m av.toArray below meth c H locs cells slots (MQ below (fk_Qc D tys A W1 res) av.toArray s 1 6 A) (F0 m pc ls [.int v]) := W.widen (k := 1) (n := 6) h1 h2 (W.iret hx hb hr (fk_post hP hK hD hS hw hv) hS.2.2 d hlocks)
/-- what the kernel throws is caught by the row x -/
theorem fk_caught {E name : String} {hh : List (Nat × Nat × Nat × Nat)} {x : Nat × Nat × Nat × Nat} (pre suf : List (Nat × Nat × Nat × Nat)) (hown : s.vm.findClass own = some m.cls) (htab : c.exceptionTable.toList = tableOf hh) (hsp : hh = pre ++ x :: suf) (hE : E = name)
    (hpass : ∀ z ∈ pre, z.2.2.2 ≠ 0 ∧ ∃ nm : String, (Cond.classLink own z.2.2.2 nm).before args s = true ∧ va_Nc E nm s) (hx : covers ⟨x.1, x.2.1, x.2.2.1, x.2.2.2⟩ pc = true) (h0 : x.2.2.2 ≠ 0)
    (hlink : (Cond.classLink own x.2.2.2 name).before args s = true) (hZ : fk_Zs A0 s H0) (hbad : Cond.castable E E ∈ fk_bad)
    (kk : ∀ (q9 : Addr) (H1 : Heap) (locs1 : List Loc), va_P D vwCl W0 H1 → va_S A0 H0 H1 locs1 → W p l e R s m args below meth c H1 locs1 (cells + 1) (slots + 6) Q (F0 m x.2.2.1 ls [.ref q9]))
    (ce : Cell) (q9 : Addr) (H1 : Heap) (locs1 : List Loc) (hP1 : va_P D vwCl W0 H1) (hS1 : va_S A0 H0 H1 locs1) (hce : H1[q9]? = some ce) (hcv : ce.vm = .none) (hcl : s.vm.findClass E = some ce.cls) :
    vx_W p l e R s m args below meth c H1 locs1 (cells + 1) (slots + 6) Q (F0 m pc ls rest) q9 := by
  subst hE
  refine vx_catch hown (tableOf pre) ⟨x.1, x.2.1, x.2.2.1, x.2.2.2⟩ (tableOf suf) (by rw [htab, hsp]; simp [tableOf]) (fun z hz => ?_) hx h0 hlink (va_Nw.use rfl (hZ.2.2.2 _ hbad)) hce hcv hcl (kk q9 H1 locs1 hP1 hS1)
  obtain ⟨q, hq, rfl⟩ := List.mem_map.mp hz
  exact Or.inr (hpass q hq)
/-- a call of a method of the law's own -/
theorem fk_lcall {a : Array Value} {sz mc ms : Nat} (hsz : sz = H.size) (hr : va_Run p l e R s m args below meth c H locs cells slots mc ms (F0 m pc ls st0) rest (fk_Qc D tys (va_A W0 sz) W1 res a) (va_A W0 sz)) (hD : va_D A0 W0) (hS : va_S A0 H0 H locs) (hA : ∀ q, H0.size ≤ q → A0 q)
    (kk : ∀ (H1 : Heap) (locs1 : List Loc), va_P D vwCl W1 H1 → va_D A0 W1 → va_S A0 H0 H1 locs1 → W p l e R s m args below meth c H1 locs1 (cells + mc) (slots + ms) Q (F0 m (pc + 3) ls (res.toList ++ rest))) : W p l e R s m args below meth c H locs cells slots Q (F0 m pc ls st0) := by
  subst hsz
  have hf := fk_fr hD hS hA
  intro T hT X
  obtain ⟨v, st₀, t, T', L, h0, X', hL, e1, e2, ⟨⟨hv, hP1, hK1, hD1⟩, hz, hk⟩, st⟩ := hr T hT X
  cases hv
  rw [h0] at hz hk
  obtain ⟨t2, a1, b1⟩ := kk T'.heap (locs ++ L) (by rw [e1]; exact hP1) (hD1.weaken (fun _ _ _ h => hf _ h))
    ⟨Nat.le_trans hS.1 (by rw [e1]; exact hz), fun q h1 h2 => by rw [e1, hk q (Nat.lt_of_lt_of_le h1 hS.1) (fun z => h2 (hf q z))]; exact hS.2.1 q h1 h2, fun q hq => by
      rcases List.mem_append.mp hq with h | h
      · exact hS.2.2 q h
      · exact hf _ (hL q h)⟩ T' rfl X'
  exact ⟨t2, st t2 a1, b1⟩
theorem fk_lcallS {hh : List (Nat × Nat × Nat × Nat)} (S9 : CallFix p m c cc nL s args Ts own) (hC : fk_L l D tys y wsY rm As W0 res W1) (cw : vx_CSW R s args own index y bytes maxL ret hh wsY rm 1 6 n)
    (hK : va_K D vwCl tys s) (hP : va_P D vwCl W0 H) (hD : va_D A0 W0) (hS : va_S A0 H0 H locs) (hA : ∀ q, H0.size ≤ q → A0 q) (hZ : fk_Zs A0 s H0) (hN : fk_Nc s)
    (hn : As.length = n) (hsize : ls.size = nL) (hst : st0 = As.reverse ++ rest) (hW : (rest.map fun v => v.category).sum ≤ 8) (hdg : decode cc pc = .ok (.invokestatic index, 3)) (hf : cells + 1 ≤ R.cells ∧ slots + 6 ≤ R.slots)
    (kk : ∀ (H1 : Heap) (locs1 : List Loc), va_P D vwCl W1 H1 → va_D A0 W1 → va_S A0 H0 H1 locs1 → W p l e R s m args below meth c H1 locs1 (cells + 1) (slots + 6) Q (F0 m (pc + 3) ls (res.toList ++ rest))) : W p l e R s m args below meth c H locs cells slots Q (F0 m pc ls st0) := by
  refine fk_lcall rfl (vx_runSW (As := As) (rest := rest) S9 (hC H.size) cw ⟨fk_blindL, fun U hU hW => ?_⟩ rfl hn hsize hst (lv_room hW) hdg hf) hD hS hA kk
  obtain ⟨z0, z1, zP, zK, zD, zZ⟩ := fk_preX (av := As) hP hK hD hS hA hZ U hU hW
  exact ⟨z0, z1, zP, zK, zD, zZ, hN.moved hW.alike⟩
end
section
variable {ad : Nat → Nat} {cI cT cJ : ClassId} {S : fk_S} {X : va_W} {q : Nat} {P : Nat → Int32} {D : va_G} {H : Heap} {A : Nat → Prop}
theorem fk_at27 : (fk_kW ad cI cT S ++ (q, fk_pr cI P) :: X)[27]? = some (q, fk_pr cI P) := by
  rw [List.getElem?_append_right (by simp [fk_kW])]
  simp [fk_kW]
theorem fk_set27 {e : va_E} : (fk_kW ad cI cT S ++ (q, fk_pr cI P) :: X).set 27 (q, e) = fk_kW ad cI cT S ++ (q, e) :: X := by
  rw [List.set_append_right _ _ (by simp [fk_kW])]
  simp [fk_kW]
end
theorem fk_cast1 : Cond.castable "java/lang/IndexOutOfBoundsException" "java/lang/IndexOutOfBoundsException" ∈ fk_bad := by decide +kernel
theorem fk_cast2 : Cond.castable "java/lang/IllegalStateException" "java/lang/IllegalStateException" ∈ fk_bad := by decide +kernel
theorem fk_cast3 : Cond.castable "java/lang/IllegalArgumentException" "java/lang/IllegalArgumentException" ∈ fk_bad := by decide +kernel
abbrev rm_L : Room := { frames := 9, cells := 1, slots := 6, locals := 260 }
/-! contracts of the law's greater methods: what stands behind them is told by Φ (the world, the answer) -/
def fk_QE (D : va_G) (tys : List (ClassId × FieldType)) (A : Nat → Prop) (Φ : va_W → Option Value → Prop) : Array Value → State → Outcome → State → Prop := fun _ st oc t =>
  (∃ W1 v, Φ W1 v ∧ oc = .returned v ∧ va_P D vwCl W1 t.heap ∧ va_K D vwCl tys t ∧ va_D A W1) ∧ va_F A st t
def fk_E (l : Launch) (D : va_G) (tys : List (ClassId × FieldType)) (y : MethodName) (ws : List Cond) (rm : Room) (av : List Value) (W0 : va_W) (Φ : va_W → Option Value → Prop) : Prop :=
  ∀ sz, Met l y ws rm (fk_PreL D tys av W0 sz) (fk_QE D tys (va_A W0 sz) Φ) 2 12 (va_A W0 sz)
theorem fk_E_of {l : Launch} {D : va_G} {tys : List (ClassId × FieldType)} {y : MethodName} {ws ws' : List Cond} {rm : Room} {av : List Value} {W0 : va_W} {Φ : va_W → Option Value → Prop} {cc : ByteArray} {maxL : Nat} {ret : Option FieldType} {own : String}
    (hy : plainName y.cls = true) (hw : ws = Cond.code y cc maxL ret :: ws') (hyc : y.cls = own) (hle : (lg_sl av).length ≤ maxL)
    (body : ∀ (p : Program) (e : Env) (s : State) (m : MethodId) (below : List Frame) (meth : Method) (c : Code) (A : Nat → Prop) (ls : Array Slot), p.tables.exec = Jvm.exec → c.code = cc → meth.sig.returnType = ret → meth.locks = false → c.maxLocals = maxL → (∀ w ∈ ws, w.before av.toArray s = true) → s.vm.findClass own = some m.cls →
      (∀ q : Nat, s.heap.size ≤ q → A q) → va_P D vwCl W0 s.heap → va_K D vwCl tys s → va_D A W0 → fk_Zs A s s.heap → fk_Nc s → lv_has ls maxL (lv_args 0 av) →
      W p l e rm s m av.toArray below meth c s.heap [] 0 0 (MQ below (fk_QE D tys A Φ) av.toArray s 2 12 A) (F0 m 0 ls [])) : fk_E l D tys y ws rm av W0 Φ := by
  intro sz
  refine Met.ofW (cc := cc) (maxL := maxL) (ret := ret) hy hw ?_
  intro p e s m args below meth c s₁ B hml hv
  obtain ⟨rfl, hsz, hP, hK, hD0, hZ, hN⟩ := hv
  subst hsz
  subst hyc
  have hD := hD0.self (sz := s.heap.size)
  have hA : ∀ q : Nat, s.heap.size ≤ q → va_A W0 s.heap.size q := fun q h => Or.inr h
  have hl := lv_entry av (n := maxL) hle
  rw [lg_entry_eq]
  exact body p e s m below meth c _ _ B.exec B.bytes B.returns B.notSynchronized hml (atoms_spec (ws := ws) B.pre) (findClass_of_methodNamed B.named) hA hP hK hD hZ hN hl
section
variable {p : Program} {l : Launch} {e : Env} {R : Room} {s : State} {m : MethodId} {args : Array Value} {below : List Frame} {meth : Method} {c : Code} {H H0 : Heap} {locs : List Loc} {cells slots : Nat} {Q : State → Prop}
variable {D : va_G} {tys : List (ClassId × FieldType)} {A A0 : Nat → Prop} {W0 W1 : va_W} {res : Option Value} {av : List Value} {Φ : va_W → Option Value → Prop} {cc bytes : ByteArray} {pc nL maxL index n : Nat} {ls : Array Slot} {st0 rest : List Value}
variable {y : MethodName} {ret : Option FieldType} {wsY Ts : List Cond} {rm : Room} {own C : String} {b : Addr} {As : List Value}
theorem fk_zretE {v : Int32} (h1 : cells ≤ 2) (h2 : slots ≤ 12) (hx : p.tables.exec = Jvm.exec) (hb : c.code = cc) (hr : meth.sig.returnType = some .boolean) (hlocks : meth.locks = false) (hP : va_P D vwCl W0 H) (hK : va_K D vwCl tys s) (hD : va_D A W0) (hS : va_S A s.heap H locs) (hn : narrow .boolean (.int v) = .int v) (hv : Φ W0 (some (Value.int v))) (d : decode cc pc = .ok (.ireturn, 1)) :
    W p l e R s m av.toArray below meth c H locs cells slots (MQ below (fk_QE D tys A Φ) av.toArray s 2 12 A) (F0 m pc ls [.int v]) :=
  W.widen (k := 2) (n := 12) h1 h2 (W.zret hx hb hr hn (fun t ht hW => ⟨⟨W0, some (.int v), hv, rfl, by rw [ht]; exact hP, va_K.moved hW.alike hK, hD⟩, hS.F ht⟩) hS.2.2 d hlocks)
/-- a call of a method with such a contract -/
theorem fk_ecall {a : Array Value} {sz mc ms : Nat} (hsz : sz = H.size) (hr : va_Run p l e R s m args below meth c H locs cells slots mc ms (F0 m pc ls st0) rest (fk_QE D tys (va_A W0 sz) Φ a) (va_A W0 sz)) (hD : va_D A0 W0) (hS : va_S A0 H0 H locs) (hA : ∀ q, H0.size ≤ q → A0 q)
    (kk : ∀ (W1 : va_W) (v : Option Value), Φ W1 v → ∀ (H1 : Heap) (locs1 : List Loc), va_P D vwCl W1 H1 → va_D A0 W1 → va_S A0 H0 H1 locs1 → W p l e R s m args below meth c H1 locs1 (cells + mc) (slots + ms) Q (F0 m (pc + 3) ls (v.toList ++ rest))) : W p l e R s m args below meth c H locs cells slots Q (F0 m pc ls st0) := by
  subst hsz
  have hf := fk_fr hD hS hA
  intro T hT X
  obtain ⟨v, st₀, t, T', L, h0, X', hL, e1, e2, ⟨⟨W1, v9, hv9, hv, hP1, hK1, hD1⟩, hz, hk⟩, st⟩ := hr T hT X
  cases hv
  rw [h0] at hz hk
  obtain ⟨t2, a1, b1⟩ := kk W1 v hv9 T'.heap (locs ++ L) (by rw [e1]; exact hP1) (hD1.weaken (fun _ _ _ h => hf _ h))
    ⟨Nat.le_trans hS.1 (by rw [e1]; exact hz), fun q h1 h2 => by rw [e1, hk q (Nat.lt_of_lt_of_le h1 hS.1) (fun z => h2 (hf q z))]; exact hS.2.1 q h1 h2, fun q hq => by
      rcases List.mem_append.mp hq with h | h
      · exact hS.2.2 q h
      · exact hf _ (hL q h)⟩ T' rfl X'
  exact ⟨t2, st t2 a1, b1⟩
theorem fk_ecallS (S9 : CallFix p m c cc nL s args Ts own) (hC : fk_E l D tys y wsY rm As W0 Φ) (cw : CallB R s args own index y bytes maxL ret wsY rm 2 12 n ∧ (Cond.static y).before args s = true)
    (hK : va_K D vwCl tys s) (hP : va_P D vwCl W0 H) (hD : va_D A0 W0) (hS : va_S A0 H0 H locs) (hA : ∀ q, H0.size ≤ q → A0 q) (hZ : fk_Zs A0 s H0) (hN : fk_Nc s)
    (hn : As.length = n) (hsize : ls.size = nL) (hst : st0 = As.reverse ++ rest) (hW : (rest.map fun v => v.category).sum ≤ 8) (hdg : decode cc pc = .ok (.invokestatic index, 3)) (hf : cells + 2 ≤ R.cells ∧ slots + 12 ≤ R.slots)
    (kk : ∀ (W1 : va_W) (v : Option Value), Φ W1 v → ∀ (H1 : Heap) (locs1 : List Loc), va_P D vwCl W1 H1 → va_D A0 W1 → va_S A0 H0 H1 locs1 → W p l e R s m args below meth c H1 locs1 (cells + 2) (slots + 12) Q (F0 m (pc + 3) ls (v.toList ++ rest))) : W p l e R s m args below meth c H locs cells slots Q (F0 m pc ls st0) := by
  refine fk_ecall rfl (va_runS (As := As) (rest := rest) S9 (hC H.size) cw ⟨fk_blindL, fun U hU hW => ?_⟩ rfl hn hsize hst (lv_room hW) hdg hf) hD hS hA kk
  obtain ⟨z0, z1, zP, zK, zD, zZ⟩ := fk_preX (av := As) hP hK hD hS hA hZ U hU hW
  exact ⟨z0, z1, zP, zK, zD, zZ, hN.moved hW.alike⟩
end
