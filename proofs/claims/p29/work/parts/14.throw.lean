/-! methods that throw: the world stays as it was -/
def fk_strs : List (Nat × String) := [(60, "from and to are the same"), (86, "not the owner"), (107, "no such place"), (130, "neither WAITING nor LOCKING"), (145, "not DEAD"), (176, "no such bucket or place"), (184, "no such thread"), (190, "no such address"), (192, "out of range"), (194, "not RUNNING"), (196, "DEAD")]
def fk_dc (w : Cond) : Bool := match w with
  | .declares _ => true
  | .castable _ _ => true
  | _ => false
def fk_bad : List Cond := ((vx_atS RX2 109 "java/lang/IndexOutOfBoundsException" ["java/lang/RuntimeException", "java/lang/Exception"]).filter (fun w => !goodWord w)) ++ (((vx_atS RX2 88 "java/lang/IllegalStateException" ["java/lang/RuntimeException", "java/lang/Exception"]).filter (fun w => !goodWord w)) ++ ((vx_atS RX2 62 "java/lang/IllegalArgumentException" ["java/lang/RuntimeException", "java/lang/Exception"]).filter (fun w => !goodWord w)))
theorem fk_bad_dc : ∀ w ∈ fk_bad, fk_dc w = true := by decide +kernel
theorem fk_dc_on {w : Cond} (h : fk_dc w = true) : w.onTables = true := by
  cases w with
  | declares x => rfl
  | castable a b => rfl
  | _ => cases h
theorem fk_warmW {w : Cond} (h : fk_dc w = true) {s U : State} (hW : s.WarmedH U.vm) (hZ : va_Nw w s) : va_Nw w U := by
  cases w with
  | declares x => exact va_Nw.warmD hW hZ
  | castable a b => exact va_tabs rfl (rfl : (s.setVm U.vm).vm = U.vm) (by rw [Cond.castable_setVm hW.alike]; exact hZ)
  | _ => cases h
def fk_Zs (A : Nat → Prop) (U : State) (H : Heap) : Prop := vx_Zq Bundle.tN "UNASSIGNED_STACK" Bundle.steD A U H ∧ vx_Zq Bundle.tN "SUPPRESSED_SENTINEL" Bundle.listD A U H ∧ (∀ q ∈ fk_strs, ∃ sa, vk_R RX2 q.1 q.2 sa U) ∧ ∀ w ∈ fk_bad, va_Nw w U
theorem fk_Zs.kept {A : Nat → Prop} {U : State} {H H1 : Heap} (h : fk_Zs A U H) (hq : ∀ a : Nat, a < H.size → ¬ A a → H1[a]? = H[a]?) : fk_Zs A U H1 := ⟨h.1.kept hq, h.2.1.kept hq, h.2.2⟩
theorem fk_Zs.narrow {A B : Nat → Prop} {U : State} {H : Heap} (h : fk_Zs A U H) (hAB : ∀ q, B q → A q) : fk_Zs B U H := ⟨h.1.narrow hAB, h.2.1.narrow hAB, h.2.2⟩
theorem fk_Zs.warm {A : Nat → Prop} {s U : State} {H : Heap} (hW : s.WarmedH U.vm) (h : fk_Zs A s H) : fk_Zs A U H := ⟨vx_Zq.moved hW.alike h.1, vx_Zq.moved hW.alike h.2.1, fun q hq => by obtain ⟨sa, h9⟩ := h.2.2.1 q hq; exact ⟨sa, vk_R.warm hW h9⟩, fun w hw => fk_warmW (fk_bad_dc w hw) hW (h.2.2.2 w hw)⟩
def fk_PreX (D : va_G) (tys : List (ClassId × FieldType)) (av : List Value) (W0 : va_W) (sz : Nat) : Array Value → State → Prop := va_Pc av (fun U => U.heap.size = sz ∧ va_P D vwCl W0 U.heap ∧ va_K D vwCl tys U ∧ va_D (fun _ => True) W0 ∧ fk_Zs (va_A W0 sz) U U.heap)
def fk_XC (D : va_G) (tys : List (ClassId × FieldType)) (A : Nat → Prop) (W0 : va_W) (E : String) : String → State → State → Prop := fun E' st t => E' = E ∧ va_P D vwCl W0 t.heap ∧ va_K D vwCl tys t ∧ va_D A W0 ∧ va_F A st t
def fk_X (l : Launch) (D : va_G) (tys : List (ClassId × FieldType)) (y : MethodName) (ws : List Cond) (rm : Room) (av : List Value) (W0 : va_W) (E : String) : Prop :=
  ∀ sz, vx_Met l y ws rm (fk_PreX D tys av W0 sz) (fun _ _ _ _ => False) (fk_XC D tys (va_A W0 sz) W0 E) 1 6 (va_A W0 sz)
theorem fk_blindX {D : va_G} {tys : List (ClassId × FieldType)} {av : List Value} {W0 : va_W} {sz : Nat} : FrameBlind (fk_PreX D tys av W0 sz) := fun a U g mk q => by
  obtain ⟨q0, q1, qP, qK, qD, q2, q3, q4, q5⟩ := q
  exact ⟨q0, q1, qP, va_K.moved (u := U) (U := U.calling g mk a) (Vm.Alike.refl U.vm) qK, qD, vx_Zq.moved (u := U) (U := U.calling g mk a) (Vm.Alike.refl U.vm) q2, vx_Zq.moved (u := U) (U := U.calling g mk a) (Vm.Alike.refl U.vm) q3, fun q hq => by obtain ⟨sa, h9⟩ := q4 q hq; exact ⟨sa, vk_R.same (u := U) rfl h9⟩, fun w hw => va_Nw.same (fk_dc_on (fk_bad_dc w hw)) (u := U) rfl (q5 w hw)⟩
abbrev fk_QX (below : List Frame) (D : va_G) (tys : List (ClassId × FieldType)) (av : List Value) (s : State) (A : Nat → Prop) (W0 : va_W) (E : String) : State → Prop := vx_MQ below (fun _ _ _ _ => False) (fk_XC D tys A W0 E) av.toArray s 1 6 A
theorem fk_X_of {l : Launch} {D : va_G} {tys : List (ClassId × FieldType)} {y : MethodName} {ws ws' : List Cond} {rm : Room} {av : List Value} {W0 : va_W} {E : String} {cc : ByteArray} {maxL : Nat} {ret : Option FieldType} {own : String}
    (hy : plainName y.cls = true) (hw : ws = Cond.code y cc maxL ret :: ws') (hyc : y.cls = own) (hle : (lg_sl av).length ≤ maxL)
    (body : ∀ (p : Program) (e : Env) (s : State) (m : MethodId) (below : List Frame) (meth : Method) (c : Code) (A : Nat → Prop) (ls : Array Slot), p.tables.exec = Jvm.exec → c.code = cc → (∀ x ∈ c.exceptionTable.toList, False) → meth.locks = false → c.maxLocals = maxL → (∀ w ∈ ws, w.before av.toArray s = true) → s.vm.findClass own = some m.cls →
      (∀ q : Nat, s.heap.size ≤ q → A q) → va_P D vwCl W0 s.heap → va_K D vwCl tys s → va_D A W0 → fk_Zs A s s.heap → lv_has ls maxL (lv_args 0 av) →
      W p l e rm s m av.toArray below meth c s.heap [] 0 0 (fk_QX below D tys av s A W0 E) (F0 m 0 ls [])) : fk_X l D tys y ws rm av W0 E := by
  intro sz
  refine vx_ofW (cc := cc) (maxL := maxL) (ret := ret) hy hw ?_
  intro p e s m args below meth c s₁ B hml hout hv
  obtain ⟨rfl, hsz, hP, hK, hD0, hZ⟩ := hv
  subst hsz
  subst hyc
  have hD := hD0.self (sz := s.heap.size)
  have hA : ∀ q : Nat, s.heap.size ≤ q → va_A W0 s.heap.size q := fun q h => Or.inr h
  have hl := lv_entry av (n := maxL) hle
  rw [lg_entry_eq]
  exact body p e s m below meth c _ _ B.exec B.bytes hout B.notSynchronized hml (atoms_spec (ws := ws) B.pre) (findClass_of_methodNamed B.named) hA hP hK hD hZ hl
section
variable {p : Program} {l : Launch} {e : Env} {R : Room} {s : State} {m : MethodId} {args : Array Value} {below : List Frame} {meth : Method} {c : Code} {H H0 : Heap} {locs : List Loc} {cells slots : Nat} {Q : State → Prop}
variable {D : va_G} {tys : List (ClassId × FieldType)} {A A0 : Nat → Prop} {W0 W1 : va_W} {av : List Value} {cc bytes : ByteArray} {pc nL maxL index n : Nat} {ls : Array Slot} {st0 rest : List Value}
variable {y : MethodName} {ret : Option FieldType} {wsY Ts : List Cond} {rm : Room} {own C E : String} {b : Addr} {As : List Value}
theorem fk_xcall {sz : Nat} (hsz : sz = H.size) (hr : vx_Run p l e R s m args below meth c H locs cells slots 1 6 (F0 m pc ls st0) rest (fun _ _ _ => False) (fk_XC D tys (va_A W0 sz) W0 E) (va_A W0 sz)) (hD : va_D A0 W0) (hS : va_S A0 H0 H locs) (hA : ∀ q, H0.size ≤ q → A0 q)
    (kx : ∀ (ce : Cell) (q9 : Addr) (H1 : Heap) (locs1 : List Loc), va_P D vwCl W0 H1 → va_S A0 H0 H1 locs1 → H1[q9]? = some ce → ce.vm = .none → s.vm.findClass E = some ce.cls → vx_W p l e R s m args below meth c H1 locs1 (cells + 1) (slots + 6) Q (F0 m pc ls rest) q9) : W p l e R s m args below meth c H locs cells slots Q (F0 m pc ls st0) := by
  subst hsz
  have hf := fk_fr hD hS hA
  intro T hT X
  rcases hr T hT X with ⟨v, st₀, t, T', L, h0, X', hL, e1, e2, hF, st⟩ | ⟨q, st₀, t, T', L, E', ce, h0, X', hL, e1, e2, ⟨rfl, hP1, hK1, hD1, hF⟩, hce, hcv, hcl, st⟩
  · exact hF.elim
  · obtain ⟨k1, k2, k3⟩ := vx_keep h0 e1 hS (fun q _ h => hf q h) hf hL hF
    obtain ⟨t2, a1, b1⟩ := kx ce q T'.heap (locs ++ L) (by rw [e1]; exact hP1) k3 (by rw [e1]; exact hce) hcv hcl T' rfl X'
    exact ⟨t2, st.trans a1, b1⟩
theorem fk_preX (hP : va_P D vwCl W0 H) (hK : va_K D vwCl tys s) (hD : va_D A0 W0) (hS : va_S A0 H0 H locs) (hA : ∀ q, H0.size ≤ q → A0 q) (hZ : fk_Zs A0 s H0) : ∀ U : State, U.heap = H → s.WarmedH U.vm → fk_PreX D tys av W0 H.size av.toArray U := fun U hU hW => ⟨rfl, by rw [hU], by rw [hU]; exact hP, va_K.moved hW.alike hK, hD.weaken (fun _ _ _ _ => trivial), by rw [hU]; exact fk_Zs.warm hW ((hZ.kept hS.2.1).narrow (fk_fr hD hS hA))⟩
theorem fk_xcallV (S9 : CallFix p m c cc nL s args Ts own) (hC : fk_X l D tys y wsY rm (.ref b :: As) W0 E) (cw : CallW R s args own C index y bytes maxL ret wsY rm 1 6 n)
    (hrv : ∃ cell : Cell, H[b]? = some cell ∧ cell.vm.isStatics = false ∧ s.vm.findClass C = some cell.cls) (hK : va_K D vwCl tys s) (hP : va_P D vwCl W0 H) (hD : va_D A0 W0) (hS : va_S A0 H0 H locs) (hA : ∀ q, H0.size ≤ q → A0 q) (hZ : fk_Zs A0 s H0)
    (hn : As.length = n) (hsize : ls.size = nL) (hst : st0 = As.reverse ++ .ref b :: rest) (hW : (rest.map fun v => v.category).sum ≤ 8) (hdg : decode cc pc = .ok (.invokevirtual index, 3)) (hf : cells + 1 ≤ R.cells ∧ slots + 6 ≤ R.slots)
    (kx : ∀ (ce : Cell) (q9 : Addr) (H1 : Heap) (locs1 : List Loc), va_P D vwCl W0 H1 → va_S A0 H0 H1 locs1 → H1[q9]? = some ce → ce.vm = .none → s.vm.findClass E = some ce.cls → vx_W p l e R s m args below meth c H1 locs1 (cells + 1) (slots + 6) Q (F0 m pc ls rest) q9) : W p l e R s m args below meth c H locs cells slots Q (F0 m pc ls st0) :=
  fk_xcall rfl (vx_runV (As := As) (rest := rest) S9 (hC H.size) cw ⟨fk_blindX, hrv, fk_preX hP hK hD hS hA hZ⟩ rfl hn hsize hst (lv_room hW) hdg hf) hD hS hA kx
theorem fk_xcallS (S9 : CallFix p m c cc nL s args Ts own) (hC : fk_X l D tys y wsY rm As W0 E) (cw : CallB R s args own index y bytes maxL ret wsY rm 1 6 n ∧ (Cond.static y).before args s = true)
    (hK : va_K D vwCl tys s) (hP : va_P D vwCl W0 H) (hD : va_D A0 W0) (hS : va_S A0 H0 H locs) (hA : ∀ q, H0.size ≤ q → A0 q) (hZ : fk_Zs A0 s H0)
    (hn : As.length = n) (hsize : ls.size = nL) (hst : st0 = As.reverse ++ rest) (hW : (rest.map fun v => v.category).sum ≤ 8) (hdg : decode cc pc = .ok (.invokestatic index, 3)) (hf : cells + 1 ≤ R.cells ∧ slots + 6 ≤ R.slots)
    (kx : ∀ (ce : Cell) (q9 : Addr) (H1 : Heap) (locs1 : List Loc), va_P D vwCl W0 H1 → va_S A0 H0 H1 locs1 → H1[q9]? = some ce → ce.vm = .none → s.vm.findClass E = some ce.cls → vx_W p l e R s m args below meth c H1 locs1 (cells + 1) (slots + 6) Q (F0 m pc ls rest) q9) : W p l e R s m args below meth c H locs cells slots Q (F0 m pc ls st0) :=
  fk_xcall rfl (vx_runS (As := As) (rest := rest) S9 (hC H.size) cw ⟨fk_blindX, fk_preX hP hK hD hS hA hZ⟩ rfl hn hsize hst (lv_room hW) hdg hf) hD hS hA kx
/-- what a callee throws goes on to the caller -/
theorem fk_thru (hout : ∀ x ∈ c.exceptionTable.toList, False) (hlocks : meth.locks = false) (hK : va_K D vwCl tys s) (hD : va_D A W0) (ce : Cell) (q9 : Addr) (H1 : Heap) (locs1 : List Loc) (hP : va_P D vwCl W0 H1) (hS : va_S A s.heap H1 locs1) (hce : H1[q9]? = some ce) (hcv : ce.vm = .none) (hcl : s.vm.findClass E = some ce.cls) :
    vx_W p l e R s m av.toArray below meth c H1 locs1 (0 + 1) (0 + 6) (fk_QX below D tys av s A W0 E) (F0 m pc ls rest) q9 :=
  vx_out (fun x hx => (hout x hx).elim) hlocks hce hcv hcl (fun t ht hvm => ⟨rfl, by rw [ht]; exact hP, va_K.moved hvm hK, hD, hS.F ht⟩) hS.2.2 (Nat.le_refl _) (Nat.le_refl _)
/-- throw new E("text") -/
theorem fk_throw {cls text : String} {ik is ic : Nat} (hx : p.tables.exec = Jvm.exec) (hb : c.code = cc) (hl9 : l.stackTraces = false) (hown : s.vm.findClass RX2 = some m.cls) (hcls : Bundle.fit cls = true)
    (hk : (Cond.classLink RX2 ik cls).before av.toArray s = true) (hini : (Cond.initialized cls).before av.toArray s = true) (hstr : (is, text) ∈ fk_strs) (hat : ∀ w ∈ vx_atS RX2 ic cls ["java/lang/RuntimeException", "java/lang/Exception"], w.before av.toArray s = true)
    (hgood : ∀ w ∈ Cond.classLink RX2 ik cls :: Cond.initialized cls :: vx_atS RX2 ic cls ["java/lang/RuntimeException", "java/lang/Exception"], vx_ot w = true)
    (hZ : fk_Zs A s s.heap) (hK : va_K D vwCl tys s) (hP : va_P D vwCl W0 H) (hD : va_D A W0) (hS : va_S A s.heap H locs) (hsize : ls.size = c.maxLocals) (hout : ∀ x ∈ c.exceptionTable.toList, False) (hlocks : meth.locks = false)
    (d0 : decode cc pc = .ok (.new ik, 3)) (d3 : decode cc (pc + 3) = .ok (.dup, 1)) (d4 : decode cc (pc + 4) = .ok (.ldc is, 2)) (d6 : decode cc (pc + 6) = .ok (.invokespecial ic, 3)) (d9 : decode cc (pc + 9) = .ok (.athrow, 1))
    (hR : 6 ≤ R.frames ∧ (rest.map fun v => v.category).sum + 82 ≤ R.locals ∧ 1 ≤ R.cells ∧ 6 ≤ R.slots) :
    W p l e R s m av.toArray below meth c H locs 0 0 (fk_QX below D tys av s A W0 cls) (F0 m pc ls rest) := by
  obtain ⟨sa, hsa⟩ := hZ.2.2.1 _ hstr
  refine vx_throwS (names := ["java/lang/RuntimeException", "java/lang/Exception"]) hx hb hl9 hown hcls (by decide +kernel) hk hini hsa hat hgood hZ.1 hZ.2.1 hS hsize d0 d3 d4 d6 d9 (fun x hx => (hout x hx).elim) (by show 2 + 3 < R.frames; omega) (by show _ + (13 * (2 + 1) + 43) ≤ R.locals; omega) (by omega) (by omega) hlocks ?_ hS.2.2 (Nat.le_refl _) (Nat.le_refl _)
  intro t hvm hz hq
  refine ⟨rfl, hP.kept (fun k q hk => hq q.1 (hP k q hk).lt), va_K.moved hvm hK, hD, ⟨Nat.le_trans hS.1 hz, fun q h1 h2 => ?_⟩⟩
  rw [hq q (Nat.lt_of_lt_of_le h1 hS.1)]
  exact hS.2.1 q h1 h2
end
theorem fk_b109 : ∀ w ∈ (vx_atS RX2 109 "java/lang/IndexOutOfBoundsException" ["java/lang/RuntimeException", "java/lang/Exception"]).filter (fun w => !goodWord w), w ∈ fk_bad := fun w h => List.mem_append_left _ h
theorem fk_b109g : ∀ w ∈ Cond.classLink RX2 105 "java/lang/IndexOutOfBoundsException" :: Cond.initialized "java/lang/IndexOutOfBoundsException" :: vx_atS RX2 109 "java/lang/IndexOutOfBoundsException" ["java/lang/RuntimeException", "java/lang/Exception"], vx_ot w = true := by decide +kernel
theorem fk_b88 : ∀ w ∈ (vx_atS RX2 88 "java/lang/IllegalStateException" ["java/lang/RuntimeException", "java/lang/Exception"]).filter (fun w => !goodWord w), w ∈ fk_bad := fun w h => List.mem_append_right _ (List.mem_append_left _ h)
theorem fk_b88g : ∀ w ∈ Cond.classLink RX2 84 "java/lang/IllegalStateException" :: Cond.initialized "java/lang/IllegalStateException" :: vx_atS RX2 88 "java/lang/IllegalStateException" ["java/lang/RuntimeException", "java/lang/Exception"], vx_ot w = true := by decide +kernel
theorem fk_b62 : ∀ w ∈ (vx_atS RX2 62 "java/lang/IllegalArgumentException" ["java/lang/RuntimeException", "java/lang/Exception"]).filter (fun w => !goodWord w), w ∈ fk_bad := fun w h => List.mem_append_right _ (List.mem_append_right _ h)
theorem fk_b62g : ∀ w ∈ Cond.classLink RX2 58 "java/lang/IllegalArgumentException" :: Cond.initialized "java/lang/IllegalArgumentException" :: vx_atS RX2 62 "java/lang/IllegalArgumentException" ["java/lang/RuntimeException", "java/lang/Exception"], vx_ot w = true := by decide +kernel
