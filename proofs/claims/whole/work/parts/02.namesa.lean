/-! ===== BEGIN words of one list among another's, by their places ===== -/
theorem goodIn_r {big : List Cond} (ws : List Cond) (ps : List Nat) (hp : ws = ps.filterMap (fun i => big[i]?)) (h : ws.all goodWord = true) : GoodIn big ws := by
  intro w hw
  have h1 := List.all_eq_true.mp h w hw
  rw [hp] at hw
  obtain ⟨i, -, hi⟩ := List.mem_filterMap.mp hw
  have hm : w ∈ big := by first | exact List.mem_of_getElem? hi | exact List.getElem?_mem hi
  exact ⟨hm, good_of_word h1⟩
theorem goodIn_app {big a b : List Cond} (ha : GoodIn big a) (hb : GoodIn big b) : GoodIn big (a ++ b) := fun w h => (List.mem_append.mp h).elim (ha w) (hb w)
theorem goodIn_ca {big a b : List Cond} {c : Cond} (ha : GoodIn big (c :: a)) (hb : GoodIn big b) : GoodIn big (c :: (a ++ b)) := fun w h => (List.mem_cons.mp h).elim (fun e => ha w (List.mem_cons.mpr (Or.inl e))) (fun h => (List.mem_append.mp h).elim (fun h => ha w (List.mem_cons.mpr (Or.inr h))) (hb w))
theorem goodIn_sub {big ws : List Cond} (hm : ∀ w ∈ ws, w ∈ big) (h : ws.all goodWord = true) : GoodIn big ws := fun w hw => ⟨hm w hw, good_of_word (List.all_eq_true.mp h w hw)⟩
/-! ===== END ===== -/

/-! ===== BEGIN exceptions that leave a method, and their catching by the caller (launches without stack traces) ===== -/
section VXA
/-! The laws vx_back, vx_callV, vx_callS, vx_callSW, vx_throw0, vx_throwS follow proofs of the library, with one case more: JvmDerived/Free/Laws.lean (Back.of_free), Shelf42/LK1.lean (callV, callS), Shelf/KitTraced.lean (throwNew0V, throwNewS). -/
/-- where a method has thrown q: the class by its name, the cell, what was written, the world -/
def vx_T (XC : String → State → State → Prop) (st : State) (q : Addr) (t : State) (mc ms : Nat) (free : Addr → Prop) : Prop :=
  ∃ (E : String) (ce : Cell) (L : List Loc), XC E st t ∧ t.heap[q]? = some ce ∧ ce.vm = .none ∧ st.vm.findClass E = some ce.cls ∧ st.WarmedH t.vm ∧ st.sameButNew ({ t with vm := st.vm } : State) L mc ms ∧ ∀ z ∈ L, free z.base
def vx_Q (Qc : Array Value → State → Outcome → State → Prop) (XC : String → State → State → Prop) (mc ms : Nat) (free : Addr → Prop) : Array Value → State → Outcome → State → Prop := fun a st o t =>
  (Qc a st o t ∧ ∃ L, FrameEnd st o t L mc ms ∧ ∀ q ∈ L, free q.base) ∨ ∃ q, o = .threw q ∧ vx_T XC st q t mc ms free
/-- a callee that returns or throws -/
def vx_Met (l : Launch) (y : MethodName) (ws : List Cond) (rm : Room) (Pc : Array Value → State → Prop) (Qc : Array Value → State → Outcome → State → Prop) (XC : String → State → State → Prop) (mc ms : Nat) (free : Addr → Prop) : Prop :=
  MetFree l y (headSpec ws rm) Pc (fun _ _ _ _ _ => True) (vx_Q Qc XC mc ms free)
def vx_Post (XC : String → State → State → Prop) (mc ms : Nat) (free : Addr → Prop) : Pt → Array Value → Addr → Pt → Prop := fun A a q B =>
  ∃ (g : JFrame) (mk : MethodId) (t : State) (L : List Loc) (E : String) (ce : Cell), B.U.heap = t.heap ∧ B.U.vm = t.vm ∧ XC E (A.U.calling g mk a) t ∧ t.heap[q]? = some ce ∧ ce.vm = .none ∧ A.U.vm.findClass E = some ce.cls ∧ B.locs = A.locs ++ L ∧ (∀ z ∈ L, free z.base) ∧ B.cells = A.cells + mc ∧ B.slots = A.slots + ms
def vx_Back (l : Launch) (R : Room) (p : Program) (e : Env) (below : List Frame) (s : State) (sargs : Array Value) (y : MethodName) (len W9 : Nat)
    (Pre : Pt → Array Value → Prop) (Post : Pt → Array Value → Option Value → Pt → Prop) (PostX : Pt → Array Value → Addr → Pt → Prop) : Prop :=
  ∀ (m : MethodId) (meth : Method) (c : Code) (A : Pt) (g : JFrame) (ig : Instr) (mk : MethodId) (a : Array Value),
    Stand p l e R s m sargs below meth c A.U A.locs A.cells A.slots → g.method = m → g.locals.size = c.maxLocals → decode c.code g.pc = .ok (ig, len) →
    2 * g.monitorRoom + (g.stack.map fun v => v.category).sum ≤ W9 → A.U.methodNamed? y = some mk → Pre A a →
    (∃ (v : Option Value) (B : Pt), Stand p l e R s m sargs below meth c B.U B.locs B.cells B.slots ∧ Post A a v B ∧
      Steps p.tables e below (doInvoke e (A.U.setTop g) [] mk a).1 (B.U.setTop { g with pc := g.pc + len, stack := v.toList ++ g.stack })) ∨
    (∃ (q : Addr) (B : Pt), Stand p l e R s m sargs below meth c B.U B.locs B.cells B.slots ∧ PostX A a q B ∧
      Steps p.tables e below (doInvoke e (A.U.setTop g) [] mk a).1 ((B.U.setTop g).pushFrame (.throwing q)))
section Payer
variable {l : Launch} {R : Room} {p : Program} {e : Env} {below : List Frame} {s : State} {sargs : Array Value} {y : MethodName} {len W9 : Nat}
theorem vx_back {ws : List Cond} {rm : Room} {Pc : Array Value → State → Prop} {Qc : Array Value → State → Outcome → State → Prop} {XC : String → State → State → Prop} {mc ms : Nat} {free : Addr → Prop} {bytes : ByteArray} {maxL : Nat} {ret : Option FieldType}
    (hM : vx_Met l y ws rm Pc Qc XC mc ms free) (hblind : FrameBlind Pc) (hrc : rm.cells = mc) (hrs : rm.slots = ms)
    (hframes : rm.frames + 1 ≤ R.frames) (hlocals : W9 + (maxL + 11) + rm.locals ≤ R.locals)
    (hws : ∀ w ∈ ws, ∀ a' U, s.WarmedH U.vm → w.before a' U = true) (hcode : Cond.code y bytes maxL ret ∈ ws) (hinit : ∀ a' U, s.WarmedH U.vm → (Cond.initialized y.cls).before a' U = true) :
    vx_Back l R p e below s sargs y len W9 (PreOf R mc ms Pc) (PostOf Qc mc ms free) (vx_Post XC mc ms free) := by
  intro m meth c A g ig mk a X hg hsize hdg hW hn hp
  have h1 : (headSpec ws rm).pre.before a A.U = true := atoms_intro fun w hw => hws w hw _ _ X.warmed
  have h2 : (Cond.code y bytes maxL ret).before a A.U = true := hws _ hcode _ _ X.warmed
  have h3 : (Cond.initialized y.cls).before a A.U = true := hinit _ _ X.warmed
  have h4 : A.cells + (headSpec ws rm).room.cells ≤ R.cells := by rw [show (headSpec ws rm).room.cells = mc from hrc]; exact hp.1
  have h5 : A.slots + (headSpec ws rm).room.slots ≤ R.slots := by rw [show (headSpec ws rm).room.slots = ms from hrs]; exact hp.2.1
  have hPc : Pc a (A.U.calling g mk a) := hblind _ _ _ _ hp.2.2
  obtain ⟨U, Ls, c0, s0⟩ := A
  dsimp only [Pt.U, Pt.locs, Pt.cells, Pt.slots] at h1 h2 h3 h4 h5 X hn hPc ⊢
  obtain ⟨methY, cY, hmY, hcY, -, hlY, -, -, -, -⟩ := Cond.code_spec hn h2
  obtain ⟨kY, hkY, -⟩ := className_of_methodNamed hn
  have hinitY : kY.init = .initialized := Cond.initialized_spec (findClass_of_methodNamed hn) hkY h3
  have h : At U g.method c below := by rw [hg]; exact X.here
  have hlocals9 : W9 + (maxL + 11) + (headSpec ws rm).room.locals ≤ R.locals := hlocals
  have happ : (headSpec ws rm).appliesLoose y e.platform (U.calling g mk a) = true :=
    Spec.appliesLoose_calling (g := g) h hdg hn hkY hinitY
      (X.room_calling (g := g) (R' := (headSpec ws rm).room) hsize hmY hcY hframes (by rw [hlY]; omega) h4 h5) h1
  obtain ⟨mid, hmid⟩ := h.above
  have hfr : (U.setTop g).frames = (.java g :: mid) ++ below := by rw [State.frames_setTop' g h.top, hmid]; rfl
  obtain ⟨o, s₂, hsteps, -, hend, hq⟩ := Steps.callFree hM p X.admits X.cas X.clock (acts := []) hfr happ hPc trivial
  have hq' : vx_Q Qc XC mc ms free a (U.calling g mk a) o s₂ := hq
  rw [State.frames_setTop' g h.top] at hend
  obtain ⟨g₀, hg0⟩ := Option.isSome_iff_exists.mp h.top
  obtain ⟨r, hr⟩ := State.topJava?_eq_some.mp hg0
  have hr' : (({ U with heap := s₂.heap, slotsUsed := s₂.slotsUsed } : State).setVm s₂.vm).frames = .java g₀ :: r := hr
  rcases hq' with ⟨hqc, L, hfe, hL⟩ | ⟨q, rfl, E, ce, L, hx, hce, hcv, hcl, hW₂, hsm, hL⟩
  · obtain ⟨⟨v, rfl⟩, hW₂, e2, q2, q3, q4, q5, q6⟩ := id hfe
    have e3 : s₂ = ({ (U.calling g mk a).setFrames s₂.frames with heap := s₂.heap, slotsUsed := s₂.slotsUsed } : State).setVm s₂.vm := by
      have : s₂ = ({ s₂ with vm := (U.calling g mk a).vm } : State).setVm s₂.vm := rfl
      rw [e2] at this
      exact this
    obtain ⟨c₂, i₂, len₂, hc₂, hd₂, hf₂⟩ := hend
    have hW' : U.WarmedH s₂.vm := hW₂
    have hcc : c₂ = c := by
      have h1 : s₂.code? g.method = U.code? g.method := by
        rw [State.code?_eq, State.code?_eq, hW'.alike.method?]
      exact Option.some.inj (hc₂.symm.trans (h1.trans h.code))
    subst hcc
    have hlen : len₂ = len := by rw [hdg] at hd₂; cases hd₂; rfl
    subst hlen
    have hs₂ : s₂ = (({ U with heap := s₂.heap, slotsUsed := s₂.slotsUsed } : State).setVm s₂.vm).setTop { g with pc := g.pc + len₂, stack := v.toList ++ g.stack } := by
      refine e3.trans ?_
      rw [hf₂, State.calling_eq h.top, State.setFrames_setFrames, State.setTop_of_frames _ hr', hr]
      rfl
    have hsame : U.sameButNew ({ U with heap := s₂.heap, slotsUsed := s₂.slotsUsed } : State) L mc ms := by
      refine ⟨?_, q2, q3, q4, q5, q6⟩
      obtain ⟨t, ht, -⟩ := State.frames_cons hr
      show ({ U with heap := s₂.heap, slotsUsed := s₂.slotsUsed } : State) = { U.setFrames U.frames with heap := s₂.heap, slotsUsed := s₂.slotsUsed }
      rw [State.setFrames_self ht]
    subst hg
    refine Or.inl ⟨v, ⟨(({ U with heap := s₂.heap, slotsUsed := s₂.slotsUsed } : State).setVm s₂.vm), Ls ++ L, c0 + mc, s0 + ms⟩,
      ⟨X.admits, X.cas, X.clock, X.frames, X.room, X.hears, X.method, X.code, (X.here.setHeapUsed s₂.heap s₂.slotsUsed).setVm hW'.alike, X.tail, State.WarmedH.trans X.warmed hW', X.limits, X.bytes, X.same.trans (hsame.setVm s.vm)⟩,
      ⟨g, mk, s₂, L, rfl, rfl, hqc, rfl, hL, rfl, rfl⟩, ?_⟩
    show Steps p.tables e below _ ((({ U with heap := s₂.heap, slotsUsed := s₂.slotsUsed } : State).setVm s₂.vm).setTop { g with pc := g.pc + len₂, stack := v.toList ++ g.stack })
    rw [← hs₂]
    exact hsteps
  · obtain ⟨e2, q2, q3, q4, q5, q6⟩ := id hsm
    have e3 : s₂ = ({ (U.calling g mk a).setFrames s₂.frames with heap := s₂.heap, slotsUsed := s₂.slotsUsed } : State).setVm s₂.vm := by
      have : s₂ = ({ s₂ with vm := (U.calling g mk a).vm } : State).setVm s₂.vm := rfl
      rw [e2] at this
      exact this
    have hf₂ : s₂.frames = .throwing q :: .java g :: U.frames.tail := hend
    have hW' : U.WarmedH s₂.vm := hW₂
    have hs₂ : s₂ = ((({ U with heap := s₂.heap, slotsUsed := s₂.slotsUsed } : State).setVm s₂.vm).setTop g).pushFrame (.throwing q) := by
      refine e3.trans ?_
      rw [hf₂, State.calling_eq h.top, State.setFrames_setFrames, State.pushFrame, State.frames_setTop _ hr', State.setTop_of_frames _ hr', State.setFrames_setFrames, hr]
      rfl
    have hsame : U.sameButNew ({ U with heap := s₂.heap, slotsUsed := s₂.slotsUsed } : State) L mc ms := by
      refine ⟨?_, q2, q3, q4, q5, q6⟩
      obtain ⟨t, ht, -⟩ := State.frames_cons hr
      show ({ U with heap := s₂.heap, slotsUsed := s₂.slotsUsed } : State) = { U.setFrames U.frames with heap := s₂.heap, slotsUsed := s₂.slotsUsed }
      rw [State.setFrames_self ht]
    subst hg
    refine Or.inr ⟨q, ⟨(({ U with heap := s₂.heap, slotsUsed := s₂.slotsUsed } : State).setVm s₂.vm), Ls ++ L, c0 + mc, s0 + ms⟩,
      ⟨X.admits, X.cas, X.clock, X.frames, X.room, X.hears, X.method, X.code, (X.here.setHeapUsed s₂.heap s₂.slotsUsed).setVm hW'.alike, X.tail, State.WarmedH.trans X.warmed hW', X.limits, X.bytes, X.same.trans (hsame.setVm s.vm)⟩,
      ⟨g, mk, s₂, L, E, ce, rfl, rfl, hx, hce, hcv, hcl, rfl, hL, rfl, rfl⟩, ?_⟩
    show Steps p.tables e below _ (((({ U with heap := s₂.heap, slotsUsed := s₂.slotsUsed } : State).setVm s₂.vm).setTop g).pushFrame (.throwing q))
    rw [← hs₂]
    exact hsteps
end Payer
section Calls
variable {p : Program} {l : Launch} {e : Env} {R : Room} {s : State} {m : MethodId} {args : Array Value} {below : List Frame} {meth : Method} {c : Code} {T : State} {locs : List Loc} {cells slots : Nat}
theorem vx_callV (X : Stand p l e R s m args below meth c T locs cells slots) (hexec : p.tables.exec = Jvm.exec) {own C : String} {index : Nat} {y : MethodName} {bytes : ByteArray} {maxL : Nat} {ret : Option FieldType}
    (hown : s.vm.findClass own = some m.cls) (hlink : (Cond.methodLink own index y).before args s = true) (hinst : (Cond.instanceMethod y).before args s = true) (hsel : (Cond.selects C y y).before args s = true)
    (hcode : (Cond.code y bytes maxL ret).before args s = true) (hy : y.cls ≠ "java/lang/invoke/MethodHandle" ∧ y.cls ≠ "java/lang/invoke/VarHandle")
    {W9 : Nat} {Pre : Pt → Array Value → Prop} {Post : Pt → Array Value → Option Value → Pt → Prop} {PostX : Pt → Array Value → Addr → Pt → Prop} (hK : vx_Back l R p e below s args y 3 W9 Pre Post PostX)
    {b : Addr} {cellB : Cell} (hcell : T.heap[b]? = some cellB) (hobj : cellB.vm.isStatics = false) (hcls : s.vm.findClass C = some cellB.cls)
    {g : JFrame} (hg : g.method = m) (hsize : g.locals.size = c.maxLocals) {argsL rest : List Value} (hlen : ∀ sig, parseMethodDescriptor y.desc = some sig → argsL.length = sig.parameters.length)
    (hstack : g.stack = argsL.reverse ++ .ref b :: rest) (hW : 2 * g.monitorRoom + (rest.map fun v => v.category).sum ≤ W9) (hdg : decode c.code g.pc = .ok (.invokevirtual index, 3))
    (hpre : ∀ vm₁, s.WarmedH vm₁ → Pre ⟨T.setVm vm₁, locs, cells, slots⟩ (Value.ref b :: argsL).toArray) :
    (∃ (v : Option Value) (vm₁ : Vm) (B : Pt), s.WarmedH vm₁ ∧ Stand p l e R s m args below meth c B.U B.locs B.cells B.slots ∧ Post ⟨T.setVm vm₁, locs, cells, slots⟩ (Value.ref b :: argsL).toArray v B ∧
      ∀ target, Steps p.tables e below (B.U.setTop { g with pc := g.pc + 3, stack := v.toList ++ rest }) target → Steps p.tables e below (T.setTop g) target) ∨
    (∃ (q : Addr) (vm₁ : Vm) (B : Pt), s.WarmedH vm₁ ∧ Stand p l e R s m args below meth c B.U B.locs B.cells B.slots ∧ PostX ⟨T.setVm vm₁, locs, cells, slots⟩ (Value.ref b :: argsL).toArray q B ∧
      Steps p.tables e below (T.setTop g) ((B.U.setTop { g with stack := rest }).pushFrame (.throwing q))) := by
  obtain ⟨mk, methM, hnamed, hmethM, hstM, habM⟩ := Cond.instanceMethod_spec hinst
  obtain ⟨methM', cM, hmethM', -, -, -, -, -, -, hsigM⟩ := Cond.code_spec hnamed hcode
  cases hmethM.symm.trans hmethM'
  obtain ⟨c2, r2, m2, q1, q2, q3, q4, kP, hkP, hkPi⟩ := Cond.selects_spec hsel
  cases hcls.symm.trans q1
  cases (State.methodFound?_of_named hnamed hy).symm.trans q2
  cases hnamed.symm.trans q3
  have hselP : selectMethod e.platform s.vm cellB.cls mk = .method mk := by rw [Launch.admits_selectMethod X.admits]; exact q4
  obtain ⟨vm₁, X₁, hstep₁⟩ := X.invokevirtual hexec hown hlink hnamed hmethM hstM hkP hkPi hy (a := b) (cell := cellB) hcell
    (fun z h => by rw [h] at hobj; cases hobj) hselP hmethM habM hkP hkPi (g := g) hg (argsL := argsL) (rest := rest) (hlen _ hsigM) hstack hdg
  rcases hK m meth c ⟨T.setVm vm₁, locs, cells, slots⟩ { g with stack := rest } (.invokevirtual index) mk (Value.ref b :: argsL).toArray X₁ hg hsize hdg hW (X₁.named hnamed) (hpre vm₁ X₁.warmed) with ⟨v, B, X', hpost, hsteps⟩ | ⟨q, B, X', hpost, hsteps⟩
  · exact Or.inl ⟨v, vm₁, B, X₁.warmed, X', hpost, fun target h => hstep₁ _ fun acts => by rw [doInvoke_state]; exact hsteps.trans h⟩
  · exact Or.inr ⟨q, vm₁, B, X₁.warmed, X', hpost, hstep₁ _ fun acts => by rw [doInvoke_state]; exact hsteps⟩
theorem vx_callS (X : Stand p l e R s m args below meth c T locs cells slots) (hexec : p.tables.exec = Jvm.exec) {own : String} {index : Nat} {y : MethodName} {bytes : ByteArray} {maxL : Nat} {ret : Option FieldType}
    (hown : s.vm.findClass own = some m.cls) (hlink : (Cond.methodLink own index y).before args s = true) (hstat : (Cond.static y).before args s = true) (hinit : (Cond.initialized y.cls).before args s = true)
    (hcode : (Cond.code y bytes maxL ret).before args s = true) (hy : y.cls ≠ "java/lang/invoke/MethodHandle" ∧ y.cls ≠ "java/lang/invoke/VarHandle")
    {W9 : Nat} {Pre : Pt → Array Value → Prop} {Post : Pt → Array Value → Option Value → Pt → Prop} {PostX : Pt → Array Value → Addr → Pt → Prop} (hK : vx_Back l R p e below s args y 3 W9 Pre Post PostX)
    {g : JFrame} (hg : g.method = m) (hsize : g.locals.size = c.maxLocals) {argsL rest : List Value} (hlen : ∀ sig, parseMethodDescriptor y.desc = some sig → argsL.length = sig.parameters.length)
    (hstack : g.stack = argsL.reverse ++ rest) (hW : 2 * g.monitorRoom + (rest.map fun v => v.category).sum ≤ W9) (hdg : decode c.code g.pc = .ok (.invokestatic index, 3))
    (hpre : ∀ vm₁, s.WarmedH vm₁ → Pre ⟨T.setVm vm₁, locs, cells, slots⟩ argsL.toArray) :
    (∃ (v : Option Value) (vm₁ : Vm) (B : Pt), s.WarmedH vm₁ ∧ Stand p l e R s m args below meth c B.U B.locs B.cells B.slots ∧ Post ⟨T.setVm vm₁, locs, cells, slots⟩ argsL.toArray v B ∧
      ∀ target, Steps p.tables e below (B.U.setTop { g with pc := g.pc + 3, stack := v.toList ++ rest }) target → Steps p.tables e below (T.setTop g) target) ∨
    (∃ (q : Addr) (vm₁ : Vm) (B : Pt), s.WarmedH vm₁ ∧ Stand p l e R s m args below meth c B.U B.locs B.cells B.slots ∧ PostX ⟨T.setVm vm₁, locs, cells, slots⟩ argsL.toArray q B ∧
      Steps p.tables e below (T.setTop g) ((B.U.setTop { g with stack := rest }).pushFrame (.throwing q))) := by
  obtain ⟨mk, hnamed⟩ := Cond.code_named hcode
  obtain ⟨methM, cM, hmethM, -, -, -, -, -, -, hsigM⟩ := Cond.code_spec hnamed hcode
  have hstatic : methM.isStatic = true := Cond.static_spec hnamed hmethM hstat
  obtain ⟨kP, hkP, -⟩ := className_of_methodNamed hnamed
  have hinitP : kP.init = .initialized := Cond.initialized_spec (findClass_of_methodNamed hnamed) hkP hinit
  obtain ⟨vm₁, X₁, hstep₁⟩ := X.invokestatic hexec hown hlink hnamed hmethM hstatic hkP hinitP hy (g := g) hg (argsL := argsL) (rest := rest) (hlen _ hsigM) hstack hdg
  rcases hK m meth c ⟨T.setVm vm₁, locs, cells, slots⟩ { g with stack := rest } (.invokestatic index) mk argsL.toArray X₁ hg hsize hdg hW (X₁.named hnamed) (hpre vm₁ X₁.warmed) with ⟨v, B, X', hpost, hsteps⟩ | ⟨q, B, X', hpost, hsteps⟩
  · exact Or.inl ⟨v, vm₁, B, X₁.warmed, X', hpost, fun target h => hstep₁ _ fun acts => by rw [doInvoke_state]; exact hsteps.trans h⟩
  · exact Or.inr ⟨q, vm₁, B, X₁.warmed, X', hpost, hstep₁ _ fun acts => by rw [doInvoke_state]; exact hsteps⟩
end Calls
theorem vx_cls {s : State} {T : State} {vm₁ : Vm} {E : String} {k : ClassId} (hW : s.WarmedH vm₁) (h : (T.setVm vm₁).vm.findClass E = some k) : s.vm.findClass E = some k := by
  have h1 : vm₁.findClass E = some k := h
  rw [hW.alike.findClass] at h1
  exact h1
/-- the method's frame g, with q thrown over it -/
def vx_W (p : Program) (l : Launch) (e : Env) (R : Room) (s : State) (m : MethodId) (args : Array Value) (below : List Frame) (meth : Method) (c : Code) (H : Heap) (locs : List Loc) (cells slots : Nat) (Q : State → Prop) (g : JFrame) (q : Addr) : Prop :=
  ∀ T : State, T.heap = H → Stand p l e R s m args below meth c T locs cells slots → ∃ t, Steps p.tables e below ((T.setTop g).pushFrame (.throwing q)) t ∧ Q t
def vx_Run (p : Program) (l : Launch) (e : Env) (R : Room) (s : State) (m : MethodId) (args : Array Value) (below : List Frame) (meth : Method) (c : Code) (H : Heap) (locs : List Loc) (cells slots mc ms : Nat) (g : JFrame) (rest : List Value) (Qa : State → Outcome → State → Prop) (XC : String → State → State → Prop) (free : Addr → Prop) : Prop :=
  ∀ T : State, T.heap = H → Stand p l e R s m args below meth c T locs cells slots →
    (∃ (v : Option Value) (st₀ t T' : State) (L : List Loc), st₀.heap = H ∧ Stand p l e R s m args below meth c T' (locs ++ L) (cells + mc) (slots + ms) ∧ (∀ q ∈ L, free q.base) ∧ T'.heap = t.heap ∧ T'.vm = t.vm ∧ Qa st₀ (.returned v) t ∧
      Goes p e below T g T' { g with pc := g.pc + 3, stack := v.toList ++ rest }) ∨
    (∃ (q : Addr) (st₀ t T' : State) (L : List Loc) (E : String) (ce : Cell), st₀.heap = H ∧ Stand p l e R s m args below meth c T' (locs ++ L) (cells + mc) (slots + ms) ∧ (∀ z ∈ L, free z.base) ∧ T'.heap = t.heap ∧ T'.vm = t.vm ∧ XC E st₀ t ∧ t.heap[q]? = some ce ∧ ce.vm = .none ∧ s.vm.findClass E = some ce.cls ∧
      Steps p.tables e below (T.setTop g) ((T'.setTop { g with stack := rest }).pushFrame (.throwing q)))
def vx_X {S : Type} (px : S → Prop) (B : String → S → State → Prop) (A : Nat → Prop) : String → State → State → Prop := fun E st t => ∃ u : S, px u ∧ B E u t ∧ va_F A st t
section Runs
variable {p : Program} {l : Launch} {e : Env} {R : Room} {s : State} {m : MethodId} {args : Array Value} {below : List Frame} {meth : Method} {c : Code} {H : Heap} {locs : List Loc} {cells slots : Nat}
variable {y : MethodName} {bytes cc : ByteArray} {maxL nL mc ms n index : Nat} {ret : Option FieldType} {ws : List Cond} {rm : Room} {Pc : Array Value → State → Prop} {Qc : Array Value → State → Outcome → State → Prop} {XC : String → State → State → Prop} {free : Addr → Prop} {Ts : List Cond} {own C : String} {b : Addr} {As rest : List Value} {g : JFrame}
theorem vx_callBack (cb : CallB R s args own index y bytes maxL ret ws rm mc ms n) (hM : vx_Met l y ws rm Pc Qc XC mc ms free) (hbl : FrameBlind Pc) : vx_Back l R p e below s args y 3 8 (PreOf R mc ms Pc) (PostOf Qc mc ms free) (vx_Post XC mc ms free) := by
  obtain ⟨hrc, hrs, hfr, hlo, hws, hcw, -, hini, -⟩ := cb
  exact vx_back (bytes := bytes) (maxL := maxL) (ret := ret) hM hbl hrc hrs hfr hlo hws hcw (fun a' U hW => word_at hW (Or.inl (by first | rfl | simp [Cond.onTables, Cond.keeps, Cond.steady])) hini)
theorem vx_runV (S : CallFix p m c cc nL s args Ts own) (hM : vx_Met l y ws rm Pc Qc XC mc ms free) (cw : CallW R s args own C index y bytes maxL ret ws rm mc ms n) (hp : PreV s H C b Pc As)
    (hg : g.method = m) (hn : As.length = n) (hsize : g.locals.size = nL) (hstack : g.stack = As.reverse ++ .ref b :: rest) (hW : 2 * g.monitorRoom + (rest.map fun v => v.category).sum ≤ 8) (hdg : decode cc g.pc = .ok (.invokevirtual index, 3)) (hf : cells + mc ≤ R.cells ∧ slots + ms ≤ R.slots) :
    vx_Run p l e R s m args below meth c H locs cells slots mc ms g rest (Qc (Value.ref b :: As).toArray) XC free := by
  have hK : vx_Back l R p e below s args y 3 8 (PreOf R mc ms Pc) (PostOf Qc mc ms free) (vx_Post XC mc ms free) := vx_callBack cw.1 hM hp.1
  obtain ⟨⟨-, -, -, -, -, -, hcode, -, hy, hlen, hl⟩, hin, hse⟩ := cw
  obtain ⟨hx, hb, hml, ho, -⟩ := S
  obtain ⟨-, ⟨cellB, hcB, hoB, hclB⟩, hPc⟩ := hp
  intro T hT X
  rcases vx_callV X hx (C := C) (bytes := bytes) (maxL := maxL) (ret := ret) ho hl hin hse hcode hy hK (by rw [hT]; exact hcB) hoB hclB hg (hsize.trans hml.symm) (argsL := As) (rest := rest) (fun sig h => hn.trans (hlen sig h)) hstack hW (by rw [hb]; exact hdg)
    (fun vm₁ hW₁ => ⟨hf.1, hf.2, hPc (T.setVm vm₁) hT hW₁⟩) with ⟨v, vm₁, ⟨U', l2, c2, s2⟩, hW₁, X', ⟨g', mk, t, L, e1, e2, hq, h1, hL, h2, h3⟩, st⟩ | ⟨q, vm₁, ⟨U', l2, c2, s2⟩, hW₁, X', ⟨g', mk, t, L, E, ce, e1, e2, hq, hce, hcv, hcl, h1, hL, h2, h3⟩, st⟩
  · dsimp only [Pt.U, Pt.locs, Pt.cells, Pt.slots] at X' e1 e2 h1 h2 h3 st
    subst h1; subst h2; subst h3
    exact Or.inl ⟨v, (T.setVm vm₁).calling g' mk (Value.ref b :: As).toArray, t, U', L, hT, X', hL, e1, e2, hq, st⟩
  · dsimp only [Pt.U, Pt.locs, Pt.cells, Pt.slots] at X' e1 e2 h1 h2 h3 st hcl
    subst h1; subst h2; subst h3
    exact Or.inr ⟨q, (T.setVm vm₁).calling g' mk (Value.ref b :: As).toArray, t, U', L, E, ce, hT, X', hL, e1, e2, hq, hce, hcv, vx_cls hW₁ hcl, st⟩
theorem vx_runS (S : CallFix p m c cc nL s args Ts own) (hM : vx_Met l y ws rm Pc Qc XC mc ms free) (cw : CallB R s args own index y bytes maxL ret ws rm mc ms n ∧ (Cond.static y).before args s = true) (hp : PreS s H Pc As)
    (hg : g.method = m) (hn : As.length = n) (hsize : g.locals.size = nL) (hstack : g.stack = As.reverse ++ rest) (hW : 2 * g.monitorRoom + (rest.map fun v => v.category).sum ≤ 8) (hdg : decode cc g.pc = .ok (.invokestatic index, 3)) (hf : cells + mc ≤ R.cells ∧ slots + ms ≤ R.slots) :
    vx_Run p l e R s m args below meth c H locs cells slots mc ms g rest (Qc As.toArray) XC free := by
  have hK : vx_Back l R p e below s args y 3 8 (PreOf R mc ms Pc) (PostOf Qc mc ms free) (vx_Post XC mc ms free) := vx_callBack cw.1 hM hp.1
  obtain ⟨⟨-, -, -, -, -, -, hcode, hini, hy, hlen, hl⟩, hstt⟩ := cw
  obtain ⟨hx, hb, hml, ho, -⟩ := S
  intro T hT X
  rcases vx_callS X hx (bytes := bytes) (maxL := maxL) (ret := ret) ho hl hstt hini hcode hy hK hg (hsize.trans hml.symm) (argsL := As) (rest := rest) (fun sig h => hn.trans (hlen sig h)) hstack hW (by rw [hb]; exact hdg)
    (fun vm₁ hW₁ => ⟨hf.1, hf.2, hp.2 (T.setVm vm₁) hT hW₁⟩) with ⟨v, vm₁, ⟨U', l2, c2, s2⟩, hW₁, X', ⟨g', mk, t, L, e1, e2, hq, h1, hL, h2, h3⟩, st⟩ | ⟨q, vm₁, ⟨U', l2, c2, s2⟩, hW₁, X', ⟨g', mk, t, L, E, ce, e1, e2, hq, hce, hcv, hcl, h1, hL, h2, h3⟩, st⟩
  · dsimp only [Pt.U, Pt.locs, Pt.cells, Pt.slots] at X' e1 e2 h1 h2 h3 st
    subst h1; subst h2; subst h3
    exact Or.inl ⟨v, (T.setVm vm₁).calling g' mk As.toArray, t, U', L, hT, X', hL, e1, e2, hq, st⟩
  · dsimp only [Pt.U, Pt.locs, Pt.cells, Pt.slots] at X' e1 e2 h1 h2 h3 st hcl
    subst h1; subst h2; subst h3
    exact Or.inr ⟨q, (T.setVm vm₁).calling g' mk As.toArray, t, U', L, E, ce, hT, X', hL, e1, e2, hq, hce, hcv, vx_cls hW₁ hcl, st⟩
end Runs
section Rows
variable {p : Program} {l : Launch} {e : Env} {R : Room} {s : State} {m : MethodId} {args : Array Value} {below : List Frame} {meth : Method} {c : Code} {H : Heap} {locs : List Loc} {cells slots : Nat} {Q : State → Prop}
variable {mc ms : Nat} {free : Addr → Prop} {A0 A1 : Nat → Prop} {H0 : Heap} {a : Array Value} {pc : Nat} {ls : Array Slot} {st0 rest : List Value}
theorem vx_keep {st₀ t T' : State} {L : List Loc} (h0 : st₀.heap = H) (e1 : T'.heap = t.heap) (hS : va_S A0 H0 H locs) (hA : ∀ q, q < H.size → A1 q → A0 q) (hf : ∀ q, free q → A0 q) (hL : ∀ q ∈ L, free q.base) (hF : va_F A1 st₀ t) :
    H.size ≤ T'.heap.size ∧ (∀ q : Nat, q < H.size → ¬ A1 q → T'.heap[q]? = H[q]?) ∧ va_S A0 H0 T'.heap (locs ++ L) := by
  obtain ⟨hz, hk⟩ := hF
  rw [h0] at hz hk
  exact ⟨by rw [e1]; exact hz, fun q h1 h2 => by rw [e1]; exact hk q h1 h2,
    ⟨Nat.le_trans hS.1 (by rw [e1]; exact hz), fun q h1 h2 => by rw [e1, hk q (Nat.lt_of_lt_of_le h1 hS.1) (fun z => h2 (hA q (Nat.lt_of_lt_of_le h1 hS.1) z))]; exact hS.2.1 q h1 h2, fun q hq => by
      rcases List.mem_append.mp hq with h | h
      · exact hS.2.2 q h
      · exact hf _ (hL q h)⟩⟩
theorem vx_calli {S SX : Type} {post : Int32 → S → Prop} {px : SX → Prop} {B : S → State → Prop} {BX : String → SX → State → Prop} {AX : Nat → Prop} (hr : vx_Run p l e R s m args below meth c H locs cells slots mc ms (F0 m pc ls st0) rest (va_Qi post B A1 a) (vx_X px BX AX) free) (hS : va_S A0 H0 H locs) (hA : ∀ q, q < H.size → A1 q → A0 q) (hf : ∀ q, free q → A0 q) (hAX : ∀ q, q < H.size → AX q → A0 q)
    (kx : ∀ (E : String) (ce : Cell) (q9 : Addr) (u : SX) (t : State) (H1 : Heap) (locs1 : List Loc), t.heap = H1 → s.vm.Alike t.vm → px u → BX E u t → H.size ≤ H1.size → (∀ q : Nat, q < H.size → ¬ AX q → H1[q]? = H[q]?) → va_S A0 H0 H1 locs1 → H1[q9]? = some ce → ce.vm = .none → s.vm.findClass E = some ce.cls → vx_W p l e R s m args below meth c H1 locs1 (cells + mc) (slots + ms) Q (F0 m pc ls rest) q9)
    (kk : ∀ (r : Int32) (u : S) (t : State) (H1 : Heap) (locs1 : List Loc), t.heap = H1 → s.vm.Alike t.vm → post r u → B u t → H.size ≤ H1.size → (∀ q : Nat, q < H.size → ¬ A1 q → H1[q]? = H[q]?) → va_S A0 H0 H1 locs1 → W p l e R s m args below meth c H1 locs1 (cells + mc) (slots + ms) Q (F0 m (pc + 3) ls (.int r :: rest))) : W p l e R s m args below meth c H locs cells slots Q (F0 m pc ls st0) := by
  intro T hT X
  rcases hr T hT X with ⟨v, st₀, t, T', L, h0, X', hL, e1, e2, ⟨⟨r, u, hv, hp, hb⟩, hF⟩, st⟩ | ⟨q, st₀, t, T', L, E, ce, h0, X', hL, e1, e2, ⟨u, hp, hb, hF⟩, hce, hcv, hcl, st⟩
  · cases hv
    obtain ⟨k1, k2, k3⟩ := vx_keep h0 e1 hS hA hf hL hF
    obtain ⟨t2, a1, b1⟩ := kk r u t T'.heap (locs ++ L) e1.symm (by rw [← e2]; exact X'.warmed.alike) hp hb k1 k2 k3 T' rfl X'
    exact ⟨t2, st t2 a1, b1⟩
  · obtain ⟨k1, k2, k3⟩ := vx_keep h0 e1 hS hAX hf hL hF
    obtain ⟨t2, a1, b1⟩ := kx E ce q u t T'.heap (locs ++ L) e1.symm (by rw [← e2]; exact X'.warmed.alike) hp hb k1 k2 k3 (by rw [e1]; exact hce) hcv hcl T' rfl X'
    exact ⟨t2, st.trans a1, b1⟩
theorem vx_calll {S SX : Type} {post : Int64 → S → Prop} {px : SX → Prop} {B : S → State → Prop} {BX : String → SX → State → Prop} {AX : Nat → Prop} (hr : vx_Run p l e R s m args below meth c H locs cells slots mc ms (F0 m pc ls st0) rest (va_Ql post B A1 a) (vx_X px BX AX) free) (hS : va_S A0 H0 H locs) (hA : ∀ q, q < H.size → A1 q → A0 q) (hf : ∀ q, free q → A0 q) (hAX : ∀ q, q < H.size → AX q → A0 q)
    (kx : ∀ (E : String) (ce : Cell) (q9 : Addr) (u : SX) (t : State) (H1 : Heap) (locs1 : List Loc), t.heap = H1 → s.vm.Alike t.vm → px u → BX E u t → H.size ≤ H1.size → (∀ q : Nat, q < H.size → ¬ AX q → H1[q]? = H[q]?) → va_S A0 H0 H1 locs1 → H1[q9]? = some ce → ce.vm = .none → s.vm.findClass E = some ce.cls → vx_W p l e R s m args below meth c H1 locs1 (cells + mc) (slots + ms) Q (F0 m pc ls rest) q9)
    (kk : ∀ (r : Int64) (u : S) (t : State) (H1 : Heap) (locs1 : List Loc), t.heap = H1 → s.vm.Alike t.vm → post r u → B u t → H.size ≤ H1.size → (∀ q : Nat, q < H.size → ¬ A1 q → H1[q]? = H[q]?) → va_S A0 H0 H1 locs1 → W p l e R s m args below meth c H1 locs1 (cells + mc) (slots + ms) Q (F0 m (pc + 3) ls (.long r :: rest))) : W p l e R s m args below meth c H locs cells slots Q (F0 m pc ls st0) := by
  intro T hT X
  rcases hr T hT X with ⟨v, st₀, t, T', L, h0, X', hL, e1, e2, ⟨⟨r, u, hv, hp, hb⟩, hF⟩, st⟩ | ⟨q, st₀, t, T', L, E, ce, h0, X', hL, e1, e2, ⟨u, hp, hb, hF⟩, hce, hcv, hcl, st⟩
  · cases hv
    obtain ⟨k1, k2, k3⟩ := vx_keep h0 e1 hS hA hf hL hF
    obtain ⟨t2, a1, b1⟩ := kk r u t T'.heap (locs ++ L) e1.symm (by rw [← e2]; exact X'.warmed.alike) hp hb k1 k2 k3 T' rfl X'
    exact ⟨t2, st t2 a1, b1⟩
  · obtain ⟨k1, k2, k3⟩ := vx_keep h0 e1 hS hAX hf hL hF
    obtain ⟨t2, a1, b1⟩ := kx E ce q u t T'.heap (locs ++ L) e1.symm (by rw [← e2]; exact X'.warmed.alike) hp hb k1 k2 k3 (by rw [e1]; exact hce) hcv hcl T' rfl X'
    exact ⟨t2, st.trans a1, b1⟩
theorem vx_callf {S SX : Type} {post : UInt32 → S → Prop} {px : SX → Prop} {B : S → State → Prop} {BX : String → SX → State → Prop} {AX : Nat → Prop} (hr : vx_Run p l e R s m args below meth c H locs cells slots mc ms (F0 m pc ls st0) rest (va_Qf post B A1 a) (vx_X px BX AX) free) (hS : va_S A0 H0 H locs) (hA : ∀ q, q < H.size → A1 q → A0 q) (hf : ∀ q, free q → A0 q) (hAX : ∀ q, q < H.size → AX q → A0 q)
    (kx : ∀ (E : String) (ce : Cell) (q9 : Addr) (u : SX) (t : State) (H1 : Heap) (locs1 : List Loc), t.heap = H1 → s.vm.Alike t.vm → px u → BX E u t → H.size ≤ H1.size → (∀ q : Nat, q < H.size → ¬ AX q → H1[q]? = H[q]?) → va_S A0 H0 H1 locs1 → H1[q9]? = some ce → ce.vm = .none → s.vm.findClass E = some ce.cls → vx_W p l e R s m args below meth c H1 locs1 (cells + mc) (slots + ms) Q (F0 m pc ls rest) q9)
    (kk : ∀ (r : UInt32) (u : S) (t : State) (H1 : Heap) (locs1 : List Loc), t.heap = H1 → s.vm.Alike t.vm → post r u → B u t → H.size ≤ H1.size → (∀ q : Nat, q < H.size → ¬ A1 q → H1[q]? = H[q]?) → va_S A0 H0 H1 locs1 → W p l e R s m args below meth c H1 locs1 (cells + mc) (slots + ms) Q (F0 m (pc + 3) ls (.float r :: rest))) : W p l e R s m args below meth c H locs cells slots Q (F0 m pc ls st0) := by
  intro T hT X
  rcases hr T hT X with ⟨v, st₀, t, T', L, h0, X', hL, e1, e2, ⟨⟨r, u, hv, hp, hb⟩, hF⟩, st⟩ | ⟨q, st₀, t, T', L, E, ce, h0, X', hL, e1, e2, ⟨u, hp, hb, hF⟩, hce, hcv, hcl, st⟩
  · cases hv
    obtain ⟨k1, k2, k3⟩ := vx_keep h0 e1 hS hA hf hL hF
    obtain ⟨t2, a1, b1⟩ := kk r u t T'.heap (locs ++ L) e1.symm (by rw [← e2]; exact X'.warmed.alike) hp hb k1 k2 k3 T' rfl X'
    exact ⟨t2, st t2 a1, b1⟩
  · obtain ⟨k1, k2, k3⟩ := vx_keep h0 e1 hS hAX hf hL hF
    obtain ⟨t2, a1, b1⟩ := kx E ce q u t T'.heap (locs ++ L) e1.symm (by rw [← e2]; exact X'.warmed.alike) hp hb k1 k2 k3 (by rw [e1]; exact hce) hcv hcl T' rfl X'
    exact ⟨t2, st.trans a1, b1⟩
theorem vx_calld {S SX : Type} {post : UInt64 → S → Prop} {px : SX → Prop} {B : S → State → Prop} {BX : String → SX → State → Prop} {AX : Nat → Prop} (hr : vx_Run p l e R s m args below meth c H locs cells slots mc ms (F0 m pc ls st0) rest (va_Qd post B A1 a) (vx_X px BX AX) free) (hS : va_S A0 H0 H locs) (hA : ∀ q, q < H.size → A1 q → A0 q) (hf : ∀ q, free q → A0 q) (hAX : ∀ q, q < H.size → AX q → A0 q)
    (kx : ∀ (E : String) (ce : Cell) (q9 : Addr) (u : SX) (t : State) (H1 : Heap) (locs1 : List Loc), t.heap = H1 → s.vm.Alike t.vm → px u → BX E u t → H.size ≤ H1.size → (∀ q : Nat, q < H.size → ¬ AX q → H1[q]? = H[q]?) → va_S A0 H0 H1 locs1 → H1[q9]? = some ce → ce.vm = .none → s.vm.findClass E = some ce.cls → vx_W p l e R s m args below meth c H1 locs1 (cells + mc) (slots + ms) Q (F0 m pc ls rest) q9)
    (kk : ∀ (r : UInt64) (u : S) (t : State) (H1 : Heap) (locs1 : List Loc), t.heap = H1 → s.vm.Alike t.vm → post r u → B u t → H.size ≤ H1.size → (∀ q : Nat, q < H.size → ¬ A1 q → H1[q]? = H[q]?) → va_S A0 H0 H1 locs1 → W p l e R s m args below meth c H1 locs1 (cells + mc) (slots + ms) Q (F0 m (pc + 3) ls (.double r :: rest))) : W p l e R s m args below meth c H locs cells slots Q (F0 m pc ls st0) := by
  intro T hT X
  rcases hr T hT X with ⟨v, st₀, t, T', L, h0, X', hL, e1, e2, ⟨⟨r, u, hv, hp, hb⟩, hF⟩, st⟩ | ⟨q, st₀, t, T', L, E, ce, h0, X', hL, e1, e2, ⟨u, hp, hb, hF⟩, hce, hcv, hcl, st⟩
  · cases hv
    obtain ⟨k1, k2, k3⟩ := vx_keep h0 e1 hS hA hf hL hF
    obtain ⟨t2, a1, b1⟩ := kk r u t T'.heap (locs ++ L) e1.symm (by rw [← e2]; exact X'.warmed.alike) hp hb k1 k2 k3 T' rfl X'
    exact ⟨t2, st t2 a1, b1⟩
  · obtain ⟨k1, k2, k3⟩ := vx_keep h0 e1 hS hAX hf hL hF
    obtain ⟨t2, a1, b1⟩ := kx E ce q u t T'.heap (locs ++ L) e1.symm (by rw [← e2]; exact X'.warmed.alike) hp hb k1 k2 k3 (by rw [e1]; exact hce) hcv hcl T' rfl X'
    exact ⟨t2, st.trans a1, b1⟩
theorem vx_callv {S SX : Type} {post : S → Prop} {px : SX → Prop} {B : S → State → Prop} {BX : String → SX → State → Prop} {AX : Nat → Prop} (hr : vx_Run p l e R s m args below meth c H locs cells slots mc ms (F0 m pc ls st0) rest (va_Qv post B A1 a) (vx_X px BX AX) free) (hS : va_S A0 H0 H locs) (hA : ∀ q, q < H.size → A1 q → A0 q) (hf : ∀ q, free q → A0 q) (hAX : ∀ q, q < H.size → AX q → A0 q)
    (kx : ∀ (E : String) (ce : Cell) (q9 : Addr) (u : SX) (t : State) (H1 : Heap) (locs1 : List Loc), t.heap = H1 → s.vm.Alike t.vm → px u → BX E u t → H.size ≤ H1.size → (∀ q : Nat, q < H.size → ¬ AX q → H1[q]? = H[q]?) → va_S A0 H0 H1 locs1 → H1[q9]? = some ce → ce.vm = .none → s.vm.findClass E = some ce.cls → vx_W p l e R s m args below meth c H1 locs1 (cells + mc) (slots + ms) Q (F0 m pc ls rest) q9)
    (kk : ∀ (u : S) (t : State) (H1 : Heap) (locs1 : List Loc), t.heap = H1 → s.vm.Alike t.vm → post u → B u t → H.size ≤ H1.size → (∀ q : Nat, q < H.size → ¬ A1 q → H1[q]? = H[q]?) → va_S A0 H0 H1 locs1 → W p l e R s m args below meth c H1 locs1 (cells + mc) (slots + ms) Q (F0 m (pc + 3) ls (rest))) : W p l e R s m args below meth c H locs cells slots Q (F0 m pc ls st0) := by
  intro T hT X
  rcases hr T hT X with ⟨v, st₀, t, T', L, h0, X', hL, e1, e2, ⟨⟨u, hv, hp, hb⟩, hF⟩, st⟩ | ⟨q, st₀, t, T', L, E, ce, h0, X', hL, e1, e2, ⟨u, hp, hb, hF⟩, hce, hcv, hcl, st⟩
  · cases hv
    obtain ⟨k1, k2, k3⟩ := vx_keep h0 e1 hS hA hf hL hF
    obtain ⟨t2, a1, b1⟩ := kk u t T'.heap (locs ++ L) e1.symm (by rw [← e2]; exact X'.warmed.alike) hp hb k1 k2 k3 T' rfl X'
    exact ⟨t2, st t2 a1, b1⟩
  · obtain ⟨k1, k2, k3⟩ := vx_keep h0 e1 hS hAX hf hL hF
    obtain ⟨t2, a1, b1⟩ := kx E ce q u t T'.heap (locs ++ L) e1.symm (by rw [← e2]; exact X'.warmed.alike) hp hb k1 k2 k3 (by rw [e1]; exact hce) hcv hcl T' rfl X'
    exact ⟨t2, st.trans a1, b1⟩
/-- caught by the row x of this method's table; the rows ahead don't take it -/
theorem vx_catch {own name : String} {E : String} {ce : Cell} {q : Addr} (hown : s.vm.findClass own = some m.cls) (pre : List ExceptionTableEntry) (x : ExceptionTableEntry) (suf : List ExceptionTableEntry) (hsplit : c.exceptionTable.toList = pre ++ x :: suf)
    (hpass : ∀ z ∈ pre, covers z pc = false ∨ (z.catchType ≠ 0 ∧ ∃ nm : String, (Cond.classLink own z.catchType nm).before args s = true ∧ va_Nc E nm s)) (hx : covers x pc = true) (h0 : x.catchType ≠ 0)
    (hlink : (Cond.classLink own x.catchType name).before args s = true) (hcast : (Cond.castable E name).before args s = true) (hcell : H[q]? = some ce) (hv : ce.vm = .none) (hcl : s.vm.findClass E = some ce.cls)
    (kk : W p l e R s m args below meth c H locs cells slots Q (F0 m x.handlerPc ls [.ref q])) : vx_W p l e R s m args below meth c H locs cells slots Q (F0 m pc ls rest) q := by
  intro T hT X
  have hpl : e.platform.magicAccessors = ({} : Platform).magicAccessors := by rw [X.admits.platform]
  obtain ⟨c3, c4, hc3, hc4, hasg⟩ := Cond.castable_spec hcast
  cases Option.some.inj (hc3.symm.trans hcl)
  obtain ⟨c5, hc5, hcl5⟩ := Cond.classLink_spec hown hlink e.platform hpl
  cases Option.some.inj (hc4.symm.trans hc5)
  obtain ⟨vm', X', st⟩ := X.thenCaughtThrough q (g := F0 m pc ls rest) rfl (Steps.refl _) (by rw [hT]; exact hcell) (by rw [hv]; rfl) (by obtain ⟨k9, h9, -⟩ := Vm.findClass_spec hcl; exact ⟨k9, h9⟩) pre x suf hsplit
    (fun z hz => by
      rcases hpass z hz with h | ⟨hz0, nm, hl1, hn1⟩
      · exact Or.inl h
      · obtain ⟨c6, hc6, hcl6⟩ := Cond.classLink_spec hown hl1 e.platform hpl
        obtain ⟨a8, b8, h1, h2, h3⟩ := hn1
        cases Option.some.inj (h1.symm.trans hcl)
        cases Option.some.inj (h2.symm.trans hc6)
        exact Or.inr ⟨hz0, _, hcl6, h3⟩) hx (Or.inr ⟨h0, c4, hcl5, hasg⟩)
  obtain ⟨t, a1, b1⟩ := kk (T.setVm vm') hT X'
  exact ⟨t, st.trans a1, b1⟩
end Rows
section Ends
variable {p : Program} {l : Launch} {e : Env} {R : Room} {s : State} {m : MethodId} {args : Array Value} {below : List Frame} {meth : Method} {c : Code} {H : Heap} {locs : List Loc} {cells slots : Nat} {Q : State → Prop}
variable {mc ms : Nat} {free : Addr → Prop} {A0 A1 : Nat → Prop} {H0 : Heap} {a : Array Value} {ls : Array Slot} {st0 rest : List Value}
variable {Qc : Array Value → State → Outcome → State → Prop} {XC : String → State → State → Prop}
/-- what a body that may throw owes at its end -/
def vx_MQ (below : List Frame) (Qc : Array Value → State → Outcome → State → Prop) (XC : String → State → State → Prop) (a : Array Value) (s : State) (mc ms : Nat) (free : Addr → Prop) : State → Prop := fun t =>
  ∃ o, t.status = .running ∧ Ended t below o ∧ vx_Q Qc XC mc ms free a s o t
theorem vx_ret {g : JFrame} {mc ms : Nat} (k : W p l e R s m args below meth c H locs cells slots (MQ below Qc args s mc ms free) g) : W p l e R s m args below meth c H locs cells slots (vx_MQ below Qc XC args s mc ms free) g := by
  intro T hT X
  obtain ⟨t, a1, o, b1, b2, b3, b4⟩ := k T hT X
  exact ⟨t, a1, o, b1, b2, Or.inl ⟨b3, b4⟩⟩
/-- not caught here: it goes on to the caller -/
theorem vx_widen {g : JFrame} {q : Addr} {k n : Nat} (h1 : cells ≤ k) (h2 : slots ≤ n) (kk : vx_W p l e R s m args below meth c H locs k n Q g q) : vx_W p l e R s m args below meth c H locs cells slots Q g q := fun T hT X => kk T hT (stand_widen X h1 h2)
theorem vx_out {pc : Nat} {E : String} {ce : Cell} {q : Addr} {mc ms : Nat} (hout : ∀ x ∈ c.exceptionTable.toList, covers x pc = false) (hlocks : meth.locks = false) (hcell : H[q]? = some ce) (hv : ce.vm = .none) (hcl : s.vm.findClass E = some ce.cls)
    (hx : ∀ t : State, t.heap = H → s.vm.Alike t.vm → XC E s t) (hf : ∀ z ∈ locs, free z.base) (hc : cells ≤ mc) (hs : slots ≤ ms) :
    vx_W p l e R s m args below meth c H locs cells slots (vx_MQ below Qc XC args s mc ms free) (F0 m pc ls rest) q := by
  intro T hT X
  obtain ⟨st1, hrun, hend, hW, hsm⟩ := X.leaveThrown q (g := F0 m pc ls rest) rfl rfl rfl hout hlocks
  have hcell9 : (T.setFrames (.throwing q :: below)).heap[q]? = some ce := by
    show T.heap[q]? = some ce
    rw [hT]; exact hcell
  exact ⟨_, st1, .threw q, hrun, hend, Or.inr ⟨q, rfl, E, ce, locs, hx _ hT hW.alike, hcell9, hv, hcl, hW, hsm.mono hc hs, hf⟩⟩
theorem vx_frame {U : State} {k n : Nat} (h : s.sameButNew ({ U with vm := s.vm } : State) locs k n) : s.heap.size ≤ U.heap.size ∧ ∀ q : Nat, q < s.heap.size → (∀ z ∈ locs, z.base ≠ q) → U.heap[q]? = s.heap[q]? := by
  obtain ⟨-, h2, -, -, -, h6⟩ := h
  refine ⟨h2, fun q hq hz => ?_⟩
  obtain ⟨c9, e1, e2, e3, e4⟩ := h6 q _ (Array.getElem?_eq_getElem hq)
  have hs : c9.slots = (s.heap[q]).slots := Array.ext_getElem? fun i => e4 i fun hm => hz _ hm rfl
  have h9 : c9 = s.heap[q] := by
    rw [hs] at e2
    exact e2
  have e5 : U.heap[q]? = some c9 := e1
  rw [e5, h9, Array.getElem?_eq_getElem hq]
/-- the words of a throw but the four that speak of the heap -/
def vx_no (w : Cond) : Bool := decide (w ≠ .isRef (.static Bundle.tN "UNASSIGNED_STACK" Bundle.steD)) && decide (w ≠ .isRef (.static Bundle.tN "SUPPRESSED_SENTINEL" Bundle.listD)) && decide (w ≠ .laysStatic Bundle.tN "UNASSIGNED_STACK" Bundle.steD) && decide (w ≠ .laysStatic Bundle.tN "SUPPRESSED_SENTINEL" Bundle.listD)
def vx_at0 (own : String) (ic : Nat) (X : String) (names : List String) : List Cond := (Bundle.ownAtoms0 own ic X names).filter vx_no
def vx_atS (own : String) (ic : Nat) (X : String) (names : List String) : List Cond := (Bundle.ownAtoms own ic X names).filter vx_no
/-- a word that the tables alone decide, or a good one -/
def vx_ot (w : Cond) : Bool := w.onTables || goodWord w
theorem vx_ot_at {args a' : Array Value} {s U : State} {w : Cond} (hW : s.WarmedH U.vm) (hvm : s.vm = U.vm) (hg : vx_ot w = true) (h : w.before args s = true) : w.before a' U = true := by
  simp only [vx_ot, Bool.or_eq_true] at hg
  rcases hg with hg | hg
  · exact va_tabs hg hvm h
  · exact word_at hW (good_of_word hg) h
/-- a list's words: the good ones out of the method's own list, the others by premises of their own -/
theorem vx_hat {args : Array Value} {s : State} {L B : List Cond} (h1 : ∀ w ∈ L.filter goodWord, w.before args s = true) (h2 : ∀ w ∈ L.filter (fun w => !goodWord w), w ∈ B) (h3 : ∀ w ∈ B, w.before args s = true) : ∀ w ∈ L, w.before args s = true := by
  intro w hw
  by_cases g : goodWord w = true
  · exact h1 w (List.mem_filter.mpr ⟨hw, g⟩)
  · refine h3 w (h2 w (List.mem_filter.mpr ⟨hw, ?_⟩))
    show (!goodWord w) = true
    cases hgw : goodWord w
    · rfl
    · exact absurd hgw g
theorem vx_c {args : Array Value} {s : State} {w : Cond} {B : List Cond} (h : w.before args s = true) (t : ∀ w ∈ B, w.before args s = true) : ∀ w' ∈ w :: B, w'.before args s = true := fun w' h' => (List.mem_cons.mp h').elim (fun e => by rw [e]; exact h) (t w')
theorem vx_n {args : Array Value} {s : State} : ∀ w ∈ ([] : List Cond), w.before args s = true := fun _ h => nomatch h
theorem vx_own {args : Array Value} {s : State} {L : List Cond} (h1 : ∀ w ∈ L.filter vx_no, w.before args s = true)
    (hU : (Cond.isRef (.static Bundle.tN "UNASSIGNED_STACK" Bundle.steD)).before args s = true) (hN : (Cond.isRef (.static Bundle.tN "SUPPRESSED_SENTINEL" Bundle.listD)).before args s = true)
    (lU : (Cond.laysStatic Bundle.tN "UNASSIGNED_STACK" Bundle.steD).before args s = true) (lN : (Cond.laysStatic Bundle.tN "SUPPRESSED_SENTINEL" Bundle.listD).before args s = true) : ∀ w ∈ L, w.before args s = true := by
  intro w hw
  by_cases e1 : w = .isRef (.static Bundle.tN "UNASSIGNED_STACK" Bundle.steD)
  · rw [e1]; exact hU
  · by_cases e2 : w = .isRef (.static Bundle.tN "SUPPRESSED_SENTINEL" Bundle.listD)
    · rw [e2]; exact hN
    · by_cases e3 : w = .laysStatic Bundle.tN "UNASSIGNED_STACK" Bundle.steD
      · rw [e3]; exact lU
      · by_cases e4 : w = .laysStatic Bundle.tN "SUPPRESSED_SENTINEL" Bundle.listD
        · rw [e4]; exact lN
        · exact h1 w (List.mem_filter.mpr ⟨hw, by unfold vx_no; rw [decide_eq_true e1, decide_eq_true e2, decide_eq_true e3, decide_eq_true e4]; rfl⟩)
/-- where a static field lies, its class's statics cell in H -/
def vx_L (C n d : String) (A : Nat → Prop) (U : State) (H : Heap) : Prop := ∃ (c : ClassId) (k : Class) (i : Nat) (f : Field) (a : Nat) (cell : Cell), U.vm.findClass C = some c ∧ U.fieldFound? C n d = some (c, k, i, f) ∧ f.isStatic = true ∧ k.statics = some a ∧ H[a]? = some cell ∧ cell.vm.isStatics = true ∧ cell.cls = c ∧ f.slot < cell.slots.size ∧ k.staticTypes[f.slot]? = some f.type ∧ ¬ A a
theorem vx_L.moved {C n d : String} {A : Nat → Prop} {u U : State} {H : Heap} (hvm : u.vm.Alike U.vm) (h : vx_L C n d A u H) : vx_L C n d A U H := by
  obtain ⟨c, k, i, f, a, cell, h1, h2, h3, h4, h5, h6, h7, h8, h9, h10⟩ := h
  obtain ⟨k', hi', he⟩ := State.fieldFound?_setVm hvm h2
  exact ⟨c, k', i, f, a, cell, by rw [hvm.findClass]; exact h1, hi', h3, by rw [he]; exact h4, h5, h6, h7, h8, by rw [he]; exact h9, h10⟩
theorem vx_L.kept {C n d : String} {A : Nat → Prop} {U : State} {H H1 : Heap} (h : vx_L C n d A U H) (hq : ∀ a : Nat, a < H.size → ¬ A a → H1[a]? = H[a]?) : vx_L C n d A U H1 := by
  obtain ⟨c, k, i, f, a, cell, h1, h2, h3, h4, h5, h6, h7, h8, h9, h10⟩ := h
  exact ⟨c, k, i, f, a, cell, h1, h2, h3, h4, by rw [hq a (Array.getElem?_eq_some_iff.mp h5).1 h10]; exact h5, h6, h7, h8, h9, h10⟩
theorem vx_L.narrow {C n d : String} {A B : Nat → Prop} {U : State} {H : Heap} (h : vx_L C n d A U H) (hAB : ∀ q, B q → A q) : vx_L C n d B U H := by
  obtain ⟨c, k, i, f, a, cell, h1, h2, h3, h4, h5, h6, h7, h8, h9, h10⟩ := h
  exact ⟨c, k, i, f, a, cell, h1, h2, h3, h4, h5, h6, h7, h8, h9, fun z => h10 (hAB _ z)⟩
theorem vx_L.word {C n d : String} {A : Nat → Prop} {s : State} {args : Array Value} (h : vx_L C n d A s s.heap) : (Cond.laysStatic C n d).before args s = true := by
  obtain ⟨c, k, i, f, a, cell, h1, h2, h3, h4, h5, h6, h7, h8, h9, -⟩ := h
  show (Cond.laysStatic C n d).holds args s none s [] = true
  exact Cond.laysStatic_of h1 h2 h3 h4 h5 h6 h7 h8 h9
/-- .. and what it holds: null or some reference -/
def vx_Zq (C n d : String) (A : Nat → Prop) (U : State) (H : Heap) : Prop := va_Zq C n d A U H ∧ vx_L C n d A U H
theorem vx_Zq.moved {C n d : String} {A : Nat → Prop} {u U : State} {H : Heap} (hvm : u.vm.Alike U.vm) (h : vx_Zq C n d A u H) : vx_Zq C n d A U H := ⟨va_Zq.moved hvm h.1, vx_L.moved hvm h.2⟩
theorem vx_Zq.kept {C n d : String} {A : Nat → Prop} {U : State} {H H1 : Heap} (h : vx_Zq C n d A U H) (hq : ∀ a : Nat, a < H.size → ¬ A a → H1[a]? = H[a]?) : vx_Zq C n d A U H1 := ⟨va_Zq.kept h.1 hq, vx_L.kept h.2 hq⟩
theorem vx_Zq.narrow {C n d : String} {A B : Nat → Prop} {U : State} {H : Heap} (h : vx_Zq C n d A U H) (hAB : ∀ q, B q → A q) : vx_Zq C n d B U H := ⟨va_Zq.narrow h.1 hAB, vx_L.narrow h.2 hAB⟩
theorem vx_Zqof {args : Array Value} {s : State} {C n d : String} {A : Nat → Prop} (hl : (Cond.laysStatic C n d).before args s = true) (hini : (Cond.initialized C).before args s = true) (h : (Cond.isRef (.static C n d)).before args s = true) (hA : ∀ a : Nat, a < s.heap.size → ¬ A a) : vx_Zq C n d A s s.heap := by
  refine ⟨va_Zqof hl hini h hA, ?_⟩
  obtain ⟨c, k, i, f, a, cell, h1, h2, h3, h4, h5, h6, h7, h8, h9⟩ := Cond.laysStatic_spec hl
  exact ⟨c, k, i, f, a, cell, h1, h2, h3, h4, h5, h6, h7, h8, h9, hA a (Array.getElem?_eq_some_iff.mp h5).1⟩
theorem vx_isRef {C n d : String} {v : Value} {A : Nat → Prop} {s : State} {args : Array Value} (h : va_Z C n d v A s s.heap) (hv : v.isRef = true) : (Cond.isRef (.static C n d)).before args s = true := by
  obtain ⟨cf, kf, fi, f, a, cell, h1, h2, h3, h4, h5, h6, h7, -⟩ := h
  have he : (Term.static C n d).eval args s none [] s = some v := by
    simp [Term.eval, State.fieldNamed?, h1, h2, h4, h5, h6, h7]
  simp only [Cond.before, Cond.holds, Cond.value, he]
  cases v <;> simp_all [Value.isRef]
theorem vx_isRefq {C n d : String} {A : Nat → Prop} {s : State} {args : Array Value} (h : va_Zq C n d A s s.heap) : (Cond.isRef (.static C n d)).before args s = true := by
  rcases h with h | ⟨t, h⟩
  · exact vx_isRef h rfl
  · exact vx_isRef h rfl
/-- the same frame, seen from here: as if the method were called anew in this heap -/
theorem vx_rebase {T : State} (X : Stand p l e R s m args below meth c T locs cells slots) {R' : Room} (hf : R'.frames ≤ R.frames) (hl : R'.locals ≤ R.locals) (hc : cells + R'.cells ≤ R.cells) (hs : slots + R'.slots ≤ R.slots) :
    Stand p l e R' ((T.setVm s.vm).setFrames (.invoking m args :: below)) m args below meth c T [] 0 0 := by
  have htop : (T.setVm s.vm).topJava?.isSome := X.here.top
  have hF : ((T.setVm s.vm).setFrames (.invoking m args :: below)).frames = .invoking m args :: below := State.frames_setFrames _ (State.cur_lt_of_top htop)
  obtain ⟨g₀, hg0⟩ := Option.isSome_iff_exists.mp htop
  obtain ⟨r, hr⟩ := State.topJava?_eq_some.mp hg0
  have hl9 : e.platform.stackLimits (T.setVm s.vm).me = e.platform.stackLimits s.me := X.limits
  have hb9 : (T.setVm s.vm).me.stackBytes = s.me.stackBytes := X.bytes
  refine ⟨X.admits, X.cas, X.clock, hF, ?_, X.hears, X.method, X.code, X.here, X.tail, X.warmed, ?_, ?_, ?_⟩
  · have h := X.room
    have hU : ((T.setVm s.vm).setFrames (.invoking m args :: below)).localsInUse = s.localsInUse := by
      rw [State.localsInUse_invoking hF (meth := meth) (c := c) X.method X.code, State.localsInUse_invoking X.frames X.method X.code]
    simp only [State.hasRoom, Bool.and_eq_true, decide_eq_true_eq] at h ⊢
    obtain ⟨⟨⟨⟨h1, h2, h3, h4, h5, h6⟩, h7⟩, h8⟩, h9⟩ := h
    rw [X.frames, List.length_cons] at h2 h3
    have q1 := X.heapSize
    have q2 := X.used
    simp only [hF, hU, List.length_cons, State.stackLimits_setFrames, State.stackBytes_setFrames, hl9, hb9]
    refine ⟨⟨⟨⟨by omega, by omega, by omega, by omega, by omega, h6⟩, ?_⟩, ?_⟩, X.book⟩
    · show T.heap.size + R'.cells ≤ e.platform.maxCells
      omega
    · show T.slotsUsed + R'.slots ≤ e.platform.maxSlots
      omega
  · rw [State.stackLimits_setFrames]; rfl
  · rw [State.stackBytes_setFrames]; rfl
  · refine ⟨?_, Nat.le_refl _, Nat.le_refl _, ?_, ?_, fun a c9 h9 => ⟨c9, h9, rfl, rfl, fun _ _ => rfl⟩⟩
    · obtain ⟨t, ht, -⟩ := State.frames_cons hr
      show T.setVm s.vm = { ((T.setVm s.vm).setFrames (.invoking m args :: below)).setFrames (T.setVm s.vm).frames with heap := T.heap, slotsUsed := T.slotsUsed }
      rw [State.setFrames_setFrames, State.setFrames_self ht]
      rfl
    · show T.slotsUsed = T.slotsUsed + ((T.heap.toList.drop T.heap.size).map (·.slots.size)).sum
      rw [List.drop_eq_nil_of_le (Nat.le_of_eq Array.length_toList)]
      rfl
    · show ((T.heap.toList.drop T.heap.size).map (·.slots.size)).sum ≤ 0
      rw [List.drop_eq_nil_of_le (Nat.le_of_eq Array.length_toList)]
      exact Nat.le_refl _
/-- 'throw new E()': new; dup; invokespecial; athrow -/
theorem vx_throw0 {cc : ByteArray} {pc : Nat} (hexec : p.tables.exec = Jvm.exec) (hb : c.code = cc) (hl : l.stackTraces = false) {own cls : String} {names : List String} {ik ic mc ms : Nat} {A : Nat → Prop}
    (hown : s.vm.findClass own = some m.cls) (hcls : Bundle.fit cls = true) (hnames : ∀ n ∈ names, Bundle.fit n = true)
    (hk : (Cond.classLink own ik cls).before args s = true) (hini : (Cond.initialized cls).before args s = true) (hat : ∀ w ∈ vx_at0 own ic cls names, w.before args s = true)
    (hgood : ∀ w ∈ Cond.classLink own ik cls :: Cond.initialized cls :: vx_at0 own ic cls names, vx_ot w = true)
    (hU : vx_Zq Bundle.tN "UNASSIGNED_STACK" Bundle.steD A s s.heap) (hN : vx_Zq Bundle.tN "SUPPRESSED_SENTINEL" Bundle.listD A s s.heap) (hS : va_S A s.heap H locs) (hsize : ls.size = c.maxLocals)
    (d0 : decode cc pc = .ok (.new ik, 3)) (d3 : decode cc (pc + 3) = .ok (.dup, 1)) (d4 : decode cc (pc + 4) = .ok (.invokespecial ic, 3)) (d7 : decode cc (pc + 7) = .ok (.athrow, 1))
    (hout : ∀ x ∈ c.exceptionTable.toList, covers x (pc + 7) = false)
    (hRframes : names.length + 3 < R.frames) (hRlocals : (rest.map fun v => v.category).sum + (13 * (names.length + 1) + 42) ≤ R.locals) (hRcells : cells + 1 ≤ R.cells) (hRslots : slots + 6 ≤ R.slots) (hlocks : meth.locks = false)
    (hx : ∀ t : State, s.vm.Alike t.vm → H.size ≤ t.heap.size → (∀ q : Nat, q < H.size → t.heap[q]? = H[q]?) → XC cls s t)
    (hf : ∀ z ∈ locs, free z.base) (hc : cells + 1 ≤ mc) (hs : slots + 6 ≤ ms) :
    W p l e R s m args below meth c H locs cells slots (vx_MQ below Qc XC args s mc ms free) (F0 m pc ls rest) := by
  intro T hT X
  have htr : e.platform.stackTraces = false := (show e.platform.stackTraces = l.stackTraces by rw [X.admits.platform]).trans hl
  have Y := vx_rebase X (R' := { frames := R.frames, locals := R.locals, cells := 1, slots := 6 }) (Nat.le_refl _) (Nat.le_refl _) hRcells hRslots
  obtain ⟨s', hA⟩ : ∃ z, z = (T.setVm s.vm).setFrames (.invoking m args :: below) := ⟨_, rfl⟩
  rw [← hA] at Y
  have hvm : s'.vm = s.vm := by rw [hA]; rfl
  have hhp : s'.heap = H := by rw [hA]; exact hT
  have hW0 : s.WarmedH s'.vm := by rw [hvm]; exact State.WarmedH.refl s
  have hat' : ∀ w ∈ vx_at0 own ic cls names, w.before args s' = true := fun w hw => vx_ot_at hW0 hvm.symm (hgood w (List.mem_cons_of_mem _ (List.mem_cons_of_mem _ hw))) (hat w hw)
  have hk' : (Cond.classLink own ik cls).before args s' = true := vx_ot_at hW0 hvm.symm (hgood _ List.mem_cons_self) hk
  have hini' : (Cond.initialized cls).before args s' = true := vx_ot_at hW0 hvm.symm (hgood _ (List.mem_cons_of_mem _ List.mem_cons_self)) hini
  have hU' : vx_Zq Bundle.tN "UNASSIGNED_STACK" Bundle.steD A s' s'.heap := by rw [hhp]; exact vx_Zq.moved hW0.alike (hU.kept hS.2.1)
  have hN' : vx_Zq Bundle.tN "SUPPRESSED_SENTINEL" Bundle.listD A s' s'.heap := by rw [hhp]; exact vx_Zq.moved hW0.alike (hN.kept hS.2.1)
  have h : ∀ w ∈ Bundle.ownAtoms0 own ic cls names, w.before args s' = true := vx_own hat' (vx_isRefq hU'.1) (vx_isRefq hN'.1) hU'.2.word hN'.2.word
  have hown' : s'.vm.findClass own = some m.cls := by rw [hvm]; exact hown
  have hins : (Cond.instantiable cls 6).before args s' = true := h _ (by simp [Bundle.ownAtoms0])
  obtain ⟨vm₁, cX, kX, hfX, hkX, -, -, X₁, st1⟩ := Y.newCold hexec (own := own) (C := cls) (index := ik) (n := 6) hown' hk' hins hini'
    (g := F0 m pc ls rest) rfl (by rw [hb]; exact d0) (Nat.le_refl _) (Nat.le_refl _)
  generalize hT1 : (T.setVm vm₁).pushCell { cls := cX, slots := kX.instanceTypes.map defaultValue, vm := .none } = T1 at X₁ st1
  have hcat : (Value.ref T.heap.size).category = 1 := rfl
  have hcellA : T1.heap[T.heap.size]? = some (freshCell cX kX) := by rw [← hT1]; exact State.heap_pushCell_size _ _
  have d3' : decode c.code (pc + 3) = .ok (.dup, 1) := by rw [hb]; exact d3
  obtain ⟨U, hsteps, hrun, hend, hW, hsame, ce, hce, hO⟩ := X₁.ctorThrow0 hexec htr (own := own) (cls := cls) (names := names) (ic := ic) hown' hcls hnames h (fun x hx => nomatch hx) hfX hkX hcellA (by rw [hhp, hT]; exact Nat.le_refl _)
    (g := { method := m, pc := pc + 4, locals := ls, stack := .ref T.heap.size :: .ref T.heap.size :: rest, locked := none }) rfl hsize rfl rfl (rest := rest) rfl
    (by rw [hb]; exact d4) (by rw [hb]; exact d7) hout hRframes (by simp only [List.map_cons, List.sum_cons, hcat]; omega) hlocks
  obtain ⟨f1, f2⟩ := vx_frame hsame
  rw [hhp] at f1 f2
  have hWs : s.WarmedH U.vm := State.WarmedH.trans hW0 hW
  have hcl : s.vm.findClass cls = some ce.cls := by
    have h9 := hO.cls
    rw [hvm] at h9
    exact h9
  have hall : s.sameButNew ({ U with vm := s.vm } : State) locs mc ms := by
    subst hA
    obtain ⟨e1, e2⟩ := hsame
    rw [State.setFrames_setFrames] at e1
    have h2 : (T.setVm s.vm).sameButNew ({ U with vm := s.vm } : State) [] (0 + 1) (0 + 6) := ⟨e1, e2⟩
    have h3 := X.same.trans h2
    rw [List.append_nil] at h3
    exact h3.mono hc hs
  refine ⟨U, ?_, .threw T.heap.size, hrun, hend, Or.inr ⟨T.heap.size, rfl, cls, ce, locs, hx U hWs.alike f1 (fun q hq => f2 q hq (fun z hz => nomatch hz)), hce, hO.vm, hcl, hWs, hall, hf⟩⟩
  refine st1 _ ?_
  show Steps p.tables e below (T1.setTop { method := m, pc := pc + 3, locals := ls, stack := .ref T.heap.size :: rest, locked := none }) _
  jvm_step X₁.here [X₁.here.top, hexec, d3', Value.category]
  exact hsteps
/-- 'throw new E("text")': new; dup; ldc; invokespecial; athrow -/
theorem vx_throwS {cc : ByteArray} {pc : Nat} (hexec : p.tables.exec = Jvm.exec) (hb : c.code = cc) (hl : l.stackTraces = false) {own cls text : String} {names : List String} {ik is ic mc ms sa : Nat} {A : Nat → Prop}
    (hown : s.vm.findClass own = some m.cls) (hcls : Bundle.fit cls = true) (hnames : ∀ n ∈ names, Bundle.fit n = true)
    (hk : (Cond.classLink own ik cls).before args s = true) (hini : (Cond.initialized cls).before args s = true) (hstr : vk_R own is text sa s) (hat : ∀ w ∈ vx_atS own ic cls names, w.before args s = true)
    (hgood : ∀ w ∈ Cond.classLink own ik cls :: Cond.initialized cls :: vx_atS own ic cls names, vx_ot w = true)
    (hU : vx_Zq Bundle.tN "UNASSIGNED_STACK" Bundle.steD A s s.heap) (hN : vx_Zq Bundle.tN "SUPPRESSED_SENTINEL" Bundle.listD A s s.heap) (hS : va_S A s.heap H locs) (hsize : ls.size = c.maxLocals)
    (d0 : decode cc pc = .ok (.new ik, 3)) (d3 : decode cc (pc + 3) = .ok (.dup, 1)) (d4 : decode cc (pc + 4) = .ok (.ldc is, 2)) (d6 : decode cc (pc + 6) = .ok (.invokespecial ic, 3)) (d9 : decode cc (pc + 9) = .ok (.athrow, 1))
    (hout : ∀ x ∈ c.exceptionTable.toList, covers x (pc + 9) = false)
    (hRframes : names.length + 3 < R.frames) (hRlocals : (rest.map fun v => v.category).sum + (13 * (names.length + 1) + 43) ≤ R.locals) (hRcells : cells + 1 ≤ R.cells) (hRslots : slots + 6 ≤ R.slots) (hlocks : meth.locks = false)
    (hx : ∀ t : State, s.vm.Alike t.vm → H.size ≤ t.heap.size → (∀ q : Nat, q < H.size → t.heap[q]? = H[q]?) → XC cls s t)
    (hf : ∀ z ∈ locs, free z.base) (hc : cells + 1 ≤ mc) (hs : slots + 6 ≤ ms) :
    W p l e R s m args below meth c H locs cells slots (vx_MQ below Qc XC args s mc ms free) (F0 m pc ls rest) := by
  intro T hT X
  have htr : e.platform.stackTraces = false := (show e.platform.stackTraces = l.stackTraces by rw [X.admits.platform]).trans hl
  have Y := vx_rebase X (R' := { frames := R.frames, locals := R.locals, cells := 1, slots := 6 }) (Nat.le_refl _) (Nat.le_refl _) hRcells hRslots
  obtain ⟨s', hA⟩ : ∃ z, z = (T.setVm s.vm).setFrames (.invoking m args :: below) := ⟨_, rfl⟩
  rw [← hA] at Y
  have hvm : s'.vm = s.vm := by rw [hA]; rfl
  have hhp : s'.heap = H := by rw [hA]; exact hT
  have hW0 : s.WarmedH s'.vm := by rw [hvm]; exact State.WarmedH.refl s
  have hat' : ∀ w ∈ vx_atS own ic cls names, w.before args s' = true := fun w hw => vx_ot_at hW0 hvm.symm (hgood w (List.mem_cons_of_mem _ (List.mem_cons_of_mem _ hw))) (hat w hw)
  have hk' : (Cond.classLink own ik cls).before args s' = true := vx_ot_at hW0 hvm.symm (hgood _ List.mem_cons_self) hk
  have hini' : (Cond.initialized cls).before args s' = true := vx_ot_at hW0 hvm.symm (hgood _ (List.mem_cons_of_mem _ List.mem_cons_self)) hini
  have hU' : vx_Zq Bundle.tN "UNASSIGNED_STACK" Bundle.steD A s' s'.heap := by rw [hhp]; exact vx_Zq.moved hW0.alike (hU.kept hS.2.1)
  have hN' : vx_Zq Bundle.tN "SUPPRESSED_SENTINEL" Bundle.listD A s' s'.heap := by rw [hhp]; exact vx_Zq.moved hW0.alike (hN.kept hS.2.1)
  have h : ∀ w ∈ Bundle.ownAtoms own ic cls names, w.before args s' = true := vx_own hat' (vx_isRefq hU'.1) (vx_isRefq hN'.1) hU'.2.word hN'.2.word
  have hown' : s'.vm.findClass own = some m.cls := by rw [hvm]; exact hown
  have hins : (Cond.instantiable cls 6).before args s' = true := h _ (by simp [Bundle.ownAtoms])
  obtain ⟨vm₁, cX, kX, hfX, hkX, -, -, X₁, st1⟩ := Y.newCold hexec (own := own) (C := cls) (index := ik) (n := 6) hown' hk' hins hini'
    (g := F0 m pc ls rest) rfl (by rw [hb]; exact d0) (Nat.le_refl _) (Nat.le_refl _)
  generalize hT1 : (T.setVm vm₁).pushCell { cls := cX, slots := kX.instanceTypes.map defaultValue, vm := .none } = T1 at X₁ st1
  have hcat : (Value.ref T.heap.size).category = 1 := rfl
  have hcellA : T1.heap[T.heap.size]? = some (freshCell cX kX) := by rw [← hT1]; exact State.heap_pushCell_size _ _
  have d3' : decode c.code (pc + 3) = .ok (.dup, 1) := by rw [hb]; exact d3
  have d4' : decode c.code (pc + 4) = .ok (.ldc is, 2) := by rw [hb]; exact d4
  have hstr' : vk_R own is text sa s' := vk_R.warm hW0 hstr
  obtain ⟨U, hsteps, hrun, hend, hW, hsame, ce, hce, hO⟩ := X₁.ctorThrowS hexec htr (own := own) (cls := cls) (names := names) (ic := ic) hown' hcls hnames h (fun x hx => nomatch hx) hfX hkX hcellA (by rw [hhp, hT]; exact Nat.le_refl _) (msg := .ref sa) rfl
    (g := { method := m, pc := pc + 6, locals := ls, stack := .ref sa :: .ref T.heap.size :: .ref T.heap.size :: rest, locked := none }) rfl hsize rfl rfl (rest := rest) rfl
    (by rw [hb]; exact d6) (by rw [hb]; exact d9) hout hRframes (by simp only [List.map_cons, List.sum_cons, hcat]; omega) hlocks
  obtain ⟨f1, f2⟩ := vx_frame hsame
  rw [hhp] at f1 f2
  have hWs : s.WarmedH U.vm := State.WarmedH.trans hW0 hW
  have hcl : s.vm.findClass cls = some ce.cls := by
    have h9 := hO.cls
    rw [hvm] at h9
    exact h9
  have hall : s.sameButNew ({ U with vm := s.vm } : State) locs mc ms := by
    subst hA
    obtain ⟨e1, e2⟩ := hsame
    rw [State.setFrames_setFrames] at e1
    have h2 : (T.setVm s.vm).sameButNew ({ U with vm := s.vm } : State) [] (0 + 1) (0 + 6) := ⟨e1, e2⟩
    have h3 := X.same.trans h2
    rw [List.append_nil] at h3
    exact h3.mono hc hs
  refine ⟨U, ?_, .threw T.heap.size, hrun, hend, Or.inr ⟨T.heap.size, rfl, cls, ce, locs, hx U hWs.alike f1 (fun q hq => f2 q hq (fun z hz => nomatch hz)), hce, hO.vm, hcl, hWs, hall, hf⟩⟩
  refine st1 _ ?_
  show Steps p.tables e below (T1.setTop { method := m, pc := pc + 3, locals := ls, stack := .ref T.heap.size :: rest, locked := none }) _
  jvm_step X₁.here [X₁.here.top, hexec, d3', Value.category]
  exact X₁.ldcString hexec (own := own) (text := text) (index := is) (a := sa) hown' hstr'.1 hstr'.2
    (g := { method := m, pc := pc + 4, locals := ls, stack := .ref T.heap.size :: .ref T.heap.size :: rest, locked := none }) rfl d4' _ hsteps
/-- 'throw new E("text")', the text by a wide index -/
theorem vx_throwSW {cc : ByteArray} {pc : Nat} (hexec : p.tables.exec = Jvm.exec) (hb : c.code = cc) (hl : l.stackTraces = false) {own cls text : String} {names : List String} {ik is ic mc ms sa : Nat} {A : Nat → Prop}
    (hown : s.vm.findClass own = some m.cls) (hcls : Bundle.fit cls = true) (hnames : ∀ n ∈ names, Bundle.fit n = true)
    (hk : (Cond.classLink own ik cls).before args s = true) (hini : (Cond.initialized cls).before args s = true) (hstr : vk_R own is text sa s) (hat : ∀ w ∈ vx_atS own ic cls names, w.before args s = true)
    (hgood : ∀ w ∈ Cond.classLink own ik cls :: Cond.initialized cls :: vx_atS own ic cls names, vx_ot w = true)
    (hU : vx_Zq Bundle.tN "UNASSIGNED_STACK" Bundle.steD A s s.heap) (hN : vx_Zq Bundle.tN "SUPPRESSED_SENTINEL" Bundle.listD A s s.heap) (hS : va_S A s.heap H locs) (hsize : ls.size = c.maxLocals)
    (d0 : decode cc pc = .ok (.new ik, 3)) (d3 : decode cc (pc + 3) = .ok (.dup, 1)) (d4 : decode cc (pc + 4) = .ok (.ldc_w is, 3)) (d7 : decode cc (pc + 7) = .ok (.invokespecial ic, 3)) (d10 : decode cc (pc + 10) = .ok (.athrow, 1))
    (hout : ∀ x ∈ c.exceptionTable.toList, covers x (pc + 10) = false)
    (hRframes : names.length + 3 < R.frames) (hRlocals : (rest.map fun v => v.category).sum + (13 * (names.length + 1) + 43) ≤ R.locals) (hRcells : cells + 1 ≤ R.cells) (hRslots : slots + 6 ≤ R.slots) (hlocks : meth.locks = false)
    (hx : ∀ t : State, s.vm.Alike t.vm → H.size ≤ t.heap.size → (∀ q : Nat, q < H.size → t.heap[q]? = H[q]?) → XC cls s t)
    (hf : ∀ z ∈ locs, free z.base) (hc : cells + 1 ≤ mc) (hs : slots + 6 ≤ ms) :
    W p l e R s m args below meth c H locs cells slots (vx_MQ below Qc XC args s mc ms free) (F0 m pc ls rest) := by
  intro T hT X
  have htr : e.platform.stackTraces = false := (show e.platform.stackTraces = l.stackTraces by rw [X.admits.platform]).trans hl
  have Y := vx_rebase X (R' := { frames := R.frames, locals := R.locals, cells := 1, slots := 6 }) (Nat.le_refl _) (Nat.le_refl _) hRcells hRslots
  obtain ⟨s', hA⟩ : ∃ z, z = (T.setVm s.vm).setFrames (.invoking m args :: below) := ⟨_, rfl⟩
  rw [← hA] at Y
  have hvm : s'.vm = s.vm := by rw [hA]; rfl
  have hhp : s'.heap = H := by rw [hA]; exact hT
  have hW0 : s.WarmedH s'.vm := by rw [hvm]; exact State.WarmedH.refl s
  have hat' : ∀ w ∈ vx_atS own ic cls names, w.before args s' = true := fun w hw => vx_ot_at hW0 hvm.symm (hgood w (List.mem_cons_of_mem _ (List.mem_cons_of_mem _ hw))) (hat w hw)
  have hk' : (Cond.classLink own ik cls).before args s' = true := vx_ot_at hW0 hvm.symm (hgood _ List.mem_cons_self) hk
  have hini' : (Cond.initialized cls).before args s' = true := vx_ot_at hW0 hvm.symm (hgood _ (List.mem_cons_of_mem _ List.mem_cons_self)) hini
  have hU' : vx_Zq Bundle.tN "UNASSIGNED_STACK" Bundle.steD A s' s'.heap := by rw [hhp]; exact vx_Zq.moved hW0.alike (hU.kept hS.2.1)
  have hN' : vx_Zq Bundle.tN "SUPPRESSED_SENTINEL" Bundle.listD A s' s'.heap := by rw [hhp]; exact vx_Zq.moved hW0.alike (hN.kept hS.2.1)
  have h : ∀ w ∈ Bundle.ownAtoms own ic cls names, w.before args s' = true := vx_own hat' (vx_isRefq hU'.1) (vx_isRefq hN'.1) hU'.2.word hN'.2.word
  have hown' : s'.vm.findClass own = some m.cls := by rw [hvm]; exact hown
  have hins : (Cond.instantiable cls 6).before args s' = true := h _ (by simp [Bundle.ownAtoms])
  obtain ⟨vm₁, cX, kX, hfX, hkX, -, -, X₁, st1⟩ := Y.newCold hexec (own := own) (C := cls) (index := ik) (n := 6) hown' hk' hins hini'
    (g := F0 m pc ls rest) rfl (by rw [hb]; exact d0) (Nat.le_refl _) (Nat.le_refl _)
  generalize hT1 : (T.setVm vm₁).pushCell { cls := cX, slots := kX.instanceTypes.map defaultValue, vm := .none } = T1 at X₁ st1
  have hcat : (Value.ref T.heap.size).category = 1 := rfl
  have hcellA : T1.heap[T.heap.size]? = some (freshCell cX kX) := by rw [← hT1]; exact State.heap_pushCell_size _ _
  have d3' : decode c.code (pc + 3) = .ok (.dup, 1) := by rw [hb]; exact d3
  have d4' : decode c.code (pc + 4) = .ok (.ldc_w is, 3) := by rw [hb]; exact d4
  have hstr' : vk_R own is text sa s' := vk_R.warm hW0 hstr
  obtain ⟨U, hsteps, hrun, hend, hW, hsame, ce, hce, hO⟩ := X₁.ctorThrowS hexec htr (own := own) (cls := cls) (names := names) (ic := ic) hown' hcls hnames h (fun x hx => nomatch hx) hfX hkX hcellA (by rw [hhp, hT]; exact Nat.le_refl _) (msg := .ref sa) rfl
    (g := { method := m, pc := pc + 7, locals := ls, stack := .ref sa :: .ref T.heap.size :: .ref T.heap.size :: rest, locked := none }) rfl hsize rfl rfl (rest := rest) rfl
    (by rw [hb]; exact d7) (by rw [hb]; exact d10) hout hRframes (by simp only [List.map_cons, List.sum_cons, hcat]; omega) hlocks
  obtain ⟨f1, f2⟩ := vx_frame hsame
  rw [hhp] at f1 f2
  have hWs : s.WarmedH U.vm := State.WarmedH.trans hW0 hW
  have hcl : s.vm.findClass cls = some ce.cls := by
    have h9 := hO.cls
    rw [hvm] at h9
    exact h9
  have hall : s.sameButNew ({ U with vm := s.vm } : State) locs mc ms := by
    subst hA
    obtain ⟨e1, e2⟩ := hsame
    rw [State.setFrames_setFrames] at e1
    have h2 : (T.setVm s.vm).sameButNew ({ U with vm := s.vm } : State) [] (0 + 1) (0 + 6) := ⟨e1, e2⟩
    have h3 := X.same.trans h2
    rw [List.append_nil] at h3
    exact h3.mono hc hs
  refine ⟨U, ?_, .threw T.heap.size, hrun, hend, Or.inr ⟨T.heap.size, rfl, cls, ce, locs, hx U hWs.alike f1 (fun q hq => f2 q hq (fun z hz => nomatch hz)), hce, hO.vm, hcl, hWs, hall, hf⟩⟩
  refine st1 _ ?_
  show Steps p.tables e below (T1.setTop { method := m, pc := pc + 3, locals := ls, stack := .ref T.heap.size :: rest, locked := none }) _
  jvm_step X₁.here [X₁.here.top, hexec, d3', Value.category]
  exact X₁.ldcStringW hexec (own := own) (text := text) (index := is) (a := sa) hown' hstr'.1 hstr'.2
    (g := { method := m, pc := pc + 4, locals := ls, stack := .ref T.heap.size :: .ref T.heap.size :: rest, locked := none }) rfl d4' _ hsteps
end Ends
section Bodies
variable {l : Launch}
theorem vx_ofW {y : MethodName} {ws ws' : List Cond} {rm : Room} {Pc : Array Value → State → Prop} {Qc : Array Value → State → Outcome → State → Prop} {XC : String → State → State → Prop} {mc ms : Nat} {free : Addr → Prop} {cc : ByteArray} {maxL : Nat} {ret : Option FieldType}
    (hy : plainName y.cls = true) (hw : ws = Cond.code y cc maxL ret :: ws')
    (body : ∀ p e s m args below meth c s₁, BodyLoose p l y (headSpec ws rm) cc maxL ret e s m args below meth c s₁ → c.maxLocals = maxL → (∀ x ∈ c.exceptionTable.toList, False) → Pc args s →
      W p l e (headSpec ws rm).room s m args below meth c s.heap [] 0 0 (vx_MQ below Qc XC args s mc ms free) (entryFrame m args maxL)) : vx_Met l y ws rm Pc Qc XC mc ms free := by
  refine MetFree.of_bodyS (code := cc) (maxLocals := maxL) (ret := ret) hy ?_ ?_
  · intro args s m h hn
    obtain ⟨meth, c, h1, h2, h3, h4, h5, h6, -, -⟩ := Cond.code_spec hn (atoms_spec (ws := ws) h _ (by rw [hw]; exact List.mem_cons_self))
    exact ⟨meth, c, h1, h2, h3, h4, h5, h6⟩
  · intro p e s m args below meth c s₁ B hml hP _
    have hh0 : s₁.heap = s.heap := by rw [B.state]; rfl
    have ht : ∀ x ∈ c.exceptionTable.toList, False := by
      obtain ⟨meth9, c9, h1, h2, -, -, -, -, h7, -⟩ := Cond.code_spec B.named (atoms_spec (ws := ws) B.pre _ (by rw [hw]; exact List.mem_cons_self))
      cases Option.some.inj (h1.symm.trans B.method)
      cases Option.some.inj (h2.symm.trans (Stand.of_body B).code)
      intro x hx
      rw [Array.isEmpty_iff.mp h7] at hx
      cases hx
    obtain ⟨t, a1, o, b1, b2, b3⟩ := body p e s m args below meth c s₁ B hml ht hP s₁ hh0 (Stand.of_body B)
    exact ⟨t, o, a1, b1, b2, b3⟩
/-- the table of a body with handlers -/
theorem vx_table {p : Program} {x y : MethodName} {S : Spec} {cc bytes : ByteArray} {maxL maxL' : Nat} {ret ret' : Option FieldType} {e : Env} {s s₁ : State} {m : MethodId} {args : Array Value} {below : List Frame} {meth : Method} {c : Code} {hh : List (Nat × Nat × Nat × Nat)}
    (B : BodyLoose p l y S cc maxL ret e s m args below meth c s₁) (h : (Cond.codeWith y bytes maxL' ret' hh).before args s = true) : c.exceptionTable.toList = tableOf hh := by
  obtain ⟨m9, meth9, c9, hn9, h1, h2, -, -, h6, -⟩ := Cond.codeWith_spec h
  cases Option.some.inj (hn9.symm.trans B.named)
  cases Option.some.inj (h1.symm.trans B.method)
  cases Option.some.inj (h2.symm.trans (Stand.of_body B).code)
  rw [← h6, table_eq]
end Bodies
end VXA
/-! ===== END ===== -/
/-! ===== BEGIN a static call of a method with an exception table ===== -/
section VXS
variable {p : Program} {l : Launch} {e : Env} {R : Room} {s : State} {m : MethodId} {args : Array Value} {below : List Frame} {meth : Method} {c : Code} {T : State} {H : Heap} {locs : List Loc} {cells slots : Nat}
abbrev vx_CSW (R : Room) (s : State) (args : Array Value) (own : String) (index : Nat) (y : MethodName) (bytes : ByteArray) (maxL : Nat) (ret : Option FieldType) (hh : List (Nat × Nat × Nat × Nat)) (ws : List Cond) (rm : Room) (mc ms n : Nat) : Prop :=
  (rm.cells = mc ∧ rm.slots = ms ∧ rm.frames + 1 ≤ R.frames ∧ 8 + (maxL + 11) + rm.locals ≤ R.locals ∧ (∀ w ∈ ws, ∀ (a' : Array Value) (U : State), s.WarmedH U.vm → w.before a' U = true) ∧ Cond.codeWith y bytes maxL ret hh ∈ ws) ∧
  (Cond.codeWith y bytes maxL ret hh).before args s = true ∧ (Cond.initialized y.cls).before args s = true ∧ (y.cls ≠ "java/lang/invoke/MethodHandle" ∧ y.cls ≠ "java/lang/invoke/VarHandle") ∧
  (∀ sig, parseMethodDescriptor y.desc = some sig → n = sig.parameters.length) ∧ (Cond.methodLink own index y).before args s = true ∧ (Cond.static y).before args s = true
theorem vx_cwSW {own : String} {index maxL mc ms : Nat} {y : MethodName} {bytes : ByteArray} {ret : Option FieldType} {hh : List (Nat × Nat × Nat × Nat)} {Ts ws ws' : List Cond} {rm : Room} (n : Nat) (ht : ∀ w ∈ Ts, w.before args s = true) (hT : GoodIn Ts (va_wsS own index y ws)) (hw : ws = Cond.codeWith y bytes maxL ret hh :: ws') (hrc : rm.cells = mc) (hrs : rm.slots = ms)
    (hd : y.cls ≠ "java/lang/invoke/MethodHandle" ∧ y.cls ≠ "java/lang/invoke/VarHandle" ∧ (parseMethodDescriptor y.desc).map (fun d => d.parameters.length) = some n) (hR : rm.frames + 1 ≤ R.frames ∧ 8 + (maxL + 11) + rm.locals ≤ R.locals) :
    vx_CSW R s args own index y bytes maxL ret hh ws rm mc ms n := by
  have ok : ∀ w ∈ va_wsS own index y ws, w.before args s = true := fun w h => ht w (hT w h).1
  have hG : GoodIn Ts ws := fun w h => hT w (by unfold va_wsS; exact List.mem_append_right _ h)
  have hc : Cond.codeWith y bytes maxL ret hh ∈ ws := by rw [hw]; exact List.mem_cons_self
  refine ⟨⟨hrc, hrs, hR.1, hR.2, pay_in ht hG, hc⟩, ht _ (hG _ hc).1, ok _ (by simp [va_wsS]), ⟨hd.1, hd.2.1⟩, fun sig h => ?_, ok _ (by simp [va_wsS]), ok _ (by simp [va_wsS])⟩
  have h2 := hd.2.2
  rw [h] at h2
  exact (Option.some.inj h2).symm
theorem vx_callSW (X : Stand p l e R s m args below meth c T locs cells slots) (hexec : p.tables.exec = Jvm.exec) {own : String} {index : Nat} {y : MethodName} {bytes : ByteArray} {maxL : Nat} {ret : Option FieldType} {hh : List (Nat × Nat × Nat × Nat)}
    (hown : s.vm.findClass own = some m.cls) (hlink : (Cond.methodLink own index y).before args s = true) (hstat : (Cond.static y).before args s = true) (hinit : (Cond.initialized y.cls).before args s = true)
    (hcode : (Cond.codeWith y bytes maxL ret hh).before args s = true) (hy : y.cls ≠ "java/lang/invoke/MethodHandle" ∧ y.cls ≠ "java/lang/invoke/VarHandle")
    {W9 : Nat} {Pre : Pt → Array Value → Prop} {Post : Pt → Array Value → Option Value → Pt → Prop} (hK : Back l R p e below s args y 3 W9 Pre Post)
    {g : JFrame} (hg : g.method = m) (hsize : g.locals.size = c.maxLocals) {argsL rest : List Value} (hlen : ∀ sig, parseMethodDescriptor y.desc = some sig → argsL.length = sig.parameters.length)
    (hstack : g.stack = argsL.reverse ++ rest) (hW : 2 * g.monitorRoom + (rest.map fun v => v.category).sum ≤ W9) (hdg : decode c.code g.pc = .ok (.invokestatic index, 3))
    (hpre : ∀ vm₁, s.WarmedH vm₁ → Pre ⟨T.setVm vm₁, locs, cells, slots⟩ argsL.toArray) :
    ∃ (v : Option Value) (vm₁ : Vm) (B : Pt), s.WarmedH vm₁ ∧ Stand p l e R s m args below meth c B.U B.locs B.cells B.slots ∧ Post ⟨T.setVm vm₁, locs, cells, slots⟩ argsL.toArray v B ∧
      ∀ target, Steps p.tables e below (B.U.setTop { g with pc := g.pc + 3, stack := v.toList ++ rest }) target → Steps p.tables e below (T.setTop g) target := by
  obtain ⟨mk, methM, cM, hnamed, hmethM, -, -, -, -, -, -, hsigM⟩ := Cond.codeWith_spec hcode
  have hstatic : methM.isStatic = true := Cond.static_spec hnamed hmethM hstat
  obtain ⟨kP, hkP, -⟩ := className_of_methodNamed hnamed
  have hinitP : kP.init = .initialized := Cond.initialized_spec (findClass_of_methodNamed hnamed) hkP hinit
  obtain ⟨vm₁, X₁, hstep₁⟩ := X.invokestatic hexec hown hlink hnamed hmethM hstatic hkP hinitP hy (g := g) hg (argsL := argsL) (rest := rest) (hlen _ hsigM) hstack hdg
  obtain ⟨v, B, X', hpost, hsteps⟩ := hK m meth c ⟨T.setVm vm₁, locs, cells, slots⟩ { g with stack := rest } (.invokestatic index) mk argsL.toArray X₁ hg hsize hdg hW (X₁.named hnamed) (hpre vm₁ X₁.warmed)
  exact ⟨v, vm₁, B, X₁.warmed, X', hpost, fun target h => hstep₁ _ fun acts => by rw [doInvoke_state]; exact hsteps.trans h⟩
theorem vx_runSW {y : MethodName} {bytes cc : ByteArray} {maxL nL mc ms n index : Nat} {ret : Option FieldType} {hh : List (Nat × Nat × Nat × Nat)} {ws : List Cond} {rm : Room} {Pc : Array Value → State → Prop} {Qc : Array Value → State → Outcome → State → Prop} {free : Addr → Prop} {Ts : List Cond} {own : String} {As rest : List Value} {g : JFrame}
    (S : CallFix p m c cc nL s args Ts own) (hM : Met l y ws rm Pc Qc mc ms free) (cw : vx_CSW R s args own index y bytes maxL ret hh ws rm mc ms n) (hp : PreS s H Pc As)
    (hg : g.method = m) (hn : As.length = n) (hsize : g.locals.size = nL) (hstack : g.stack = As.reverse ++ rest) (hW : 2 * g.monitorRoom + (rest.map fun v => v.category).sum ≤ 8) (hdg : decode cc g.pc = .ok (.invokestatic index, 3)) (hf : cells + mc ≤ R.cells ∧ slots + ms ≤ R.slots) :
    va_Run p l e R s m args below meth c H locs cells slots mc ms g rest (Qc As.toArray) (free) := by
  obtain ⟨⟨hrc, hrs, hfr, hlo, hws, hcw⟩, hcode, hini, hy, hlen, hl, hstt⟩ := cw
  have hK : Back l R p e below s args y 3 8 (PreOf R mc ms Pc) (PostOf Qc mc ms free) := va_backW (hh := hh) (bytes := bytes) (maxL := maxL) (ret := ret) hM hp.1 hrc hrs hfr hlo hws hcw (fun a' U hW => word_at hW (Or.inl (by first | rfl | simp [Cond.onTables, Cond.keeps, Cond.steady])) hini)
  obtain ⟨hx, hb, hml, ho, -⟩ := S
  intro T hT X
  obtain ⟨v, vm₁, ⟨U', l2, c2, s2⟩, hW₁, X', ⟨g', mk, t, L, e1, e2, hq, h1, hL, h2, h3⟩, st⟩ := vx_callSW X hx (hh := hh) (bytes := bytes) (maxL := maxL) (ret := ret) ho hl hstt hini hcode hy hK hg (hsize.trans hml.symm) (argsL := As) (rest := rest) (fun sig h => hn.trans (hlen sig h)) hstack hW (by rw [hb]; exact hdg)
    (fun vm₁ hW₁ => ⟨hf.1, hf.2, hp.2 (T.setVm vm₁) hT hW₁⟩)
  dsimp only [Pt.U, Pt.locs, Pt.cells, Pt.slots] at X' e1 e2 h1 h2 h3 st
  subst h1; subst h2; subst h3
  exact ⟨v, (T.setVm vm₁).calling g' mk As.toArray, t, U', L, hT, X', hL, e1, e2, hq, st⟩
/-- not caught here, past rows that name other classes: it goes on to the caller -/
theorem vx_outP {p : Program} {l : Launch} {e : Env} {R : Room} {s : State} {m : MethodId} {args : Array Value} {below : List Frame} {meth : Method} {c : Code} {H : Heap} {locs : List Loc} {cells slots : Nat} {free : Addr → Prop} {ls : Array Slot} {rest : List Value} {Qc : Array Value → State → Outcome → State → Prop} {XC : String → State → State → Prop}
    {pc : Nat} {own E : String} {ce : Cell} {q : Addr} {mc ms : Nat} (hown : s.vm.findClass own = some m.cls) (hlocks : meth.locks = false)
    (hpass : ∀ z ∈ c.exceptionTable.toList, covers z pc = false ∨ (z.catchType ≠ 0 ∧ ∃ nm : String, (Cond.classLink own z.catchType nm).before args s = true ∧ va_Nc E nm s)) (hcell : H[q]? = some ce) (hv : ce.vm = .none) (hcl : s.vm.findClass E = some ce.cls)
    (hx : ∀ t : State, t.heap = H → s.vm.Alike t.vm → XC E s t) (hf : ∀ z ∈ locs, free z.base) (hc : cells ≤ mc) (hs : slots ≤ ms) :
    vx_W p l e R s m args below meth c H locs cells slots (vx_MQ below Qc XC args s mc ms free) (F0 m pc ls rest) q := by
  intro T hT X
  have hpl : e.platform.magicAccessors = ({} : Platform).magicAccessors := by rw [X.admits.platform]
  obtain ⟨vm', hW', X', st⟩ := X.outThrough hlocks q (g := F0 m pc ls rest) rfl rfl rfl (cell := ce) (by rw [hT]; exact hcell) (by rw [hv]; rfl)
    (by obtain ⟨k9, h9, -⟩ := Vm.findClass_spec hcl; exact ⟨k9, h9⟩) (fun z hz => by
      rcases hpass z hz with h | ⟨hz0, nm, hl1, hn1⟩
      · exact Or.inl h
      · obtain ⟨c6, hc6, hcl6⟩ := Cond.classLink_spec hown hl1 e.platform hpl
        obtain ⟨a8, b8, h1, h2, h3⟩ := hn1
        cases Option.some.inj (h1.symm.trans hcl)
        cases Option.some.inj (h2.symm.trans hc6)
        exact Or.inr ⟨hz0, _, hcl6, h3⟩)
  obtain ⟨g₀, hfr⟩ := X'.frames_eq
  have hcell9 : ((T.setVm vm').setFrames (.throwing q :: below)).heap[q]? = some ce := by
    show T.heap[q]? = some ce
    rw [hT]; exact hcell
  have hend : Ended ((T.setVm vm').setFrames (.throwing q :: below)) below (.threw q) := State.frames_setFrames _ (State.cur_lt_of_frames hfr)
  refine ⟨(T.setVm vm').setFrames (.throwing q :: below), ?_, .threw q, X'.here.running, hend, Or.inr ⟨q, rfl, E, ce, locs, hx _ hT (X'.ends _).1.alike, hcell9, hv, hcl, (X'.ends _).1, (X'.ends _).2.mono hc hs, hf⟩⟩
  rw [X.pushThrowing_eq]
  exact st
/-- a thing of a world lies in the heap -/
theorem vx_lt {D : va_G} {cl : List vw_C} {ws : va_W} {H1 : Heap} (h : va_P D cl ws H1) {k : Nat} {q : Nat × va_E} (hk : ws[k]? = some q) : q.1 < H1.size := (h k q hk).lt
end VXS
/-! ===== END ===== -/
/-! ===== BEGIN methods with a table of their own: called by a name, returning or throwing ===== -/
section VXH
/-! vx_backW, vx_callVX, vx_callSX, vx_callVW, vx_runVW, vx_runVX, vx_runSX, vx_ofWH follow the same proofs as their sisters above (Free/Laws.lean, Shelf42/LK1.lean); vx_outP calls Shelf42/NT130.lean (outThrough). -/
section
variable {l : Launch} {R : Room} {p : Program} {e : Env} {below : List Frame} {s : State} {sargs : Array Value} {y : MethodName} {len W9 : Nat}
theorem vx_backW {ws : List Cond} {rm : Room} {Pc : Array Value → State → Prop} {Qc : Array Value → State → Outcome → State → Prop} {XC : String → State → State → Prop} {mc ms : Nat} {free : Addr → Prop} {bytes : ByteArray} {maxL : Nat} {ret : Option FieldType} {hh : List (Nat × Nat × Nat × Nat)}
    (hM : vx_Met l y ws rm Pc Qc XC mc ms free) (hblind : FrameBlind Pc) (hrc : rm.cells = mc) (hrs : rm.slots = ms)
    (hframes : rm.frames + 1 ≤ R.frames) (hlocals : W9 + (maxL + 11) + rm.locals ≤ R.locals)
    (hws : ∀ w ∈ ws, ∀ a' U, s.WarmedH U.vm → w.before a' U = true) (hcode : Cond.codeWith y bytes maxL ret hh ∈ ws) (hinit : ∀ a' U, s.WarmedH U.vm → (Cond.initialized y.cls).before a' U = true) :
    vx_Back l R p e below s sargs y len W9 (PreOf R mc ms Pc) (PostOf Qc mc ms free) (vx_Post XC mc ms free) := by
  intro m meth c A g ig mk a X hg hsize hdg hW hn hp
  have h1 : (headSpec ws rm).pre.before a A.U = true := atoms_intro fun w hw => hws w hw _ _ X.warmed
  have h2 : (Cond.codeWith y bytes maxL ret hh).before a A.U = true := hws _ hcode _ _ X.warmed
  have h3 : (Cond.initialized y.cls).before a A.U = true := hinit _ _ X.warmed
  have h4 : A.cells + (headSpec ws rm).room.cells ≤ R.cells := by rw [show (headSpec ws rm).room.cells = mc from hrc]; exact hp.1
  have h5 : A.slots + (headSpec ws rm).room.slots ≤ R.slots := by rw [show (headSpec ws rm).room.slots = ms from hrs]; exact hp.2.1
  have hPc : Pc a (A.U.calling g mk a) := hblind _ _ _ _ hp.2.2
  obtain ⟨U, Ls, c0, s0⟩ := A
  dsimp only [Pt.U, Pt.locs, Pt.cells, Pt.slots] at h1 h2 h3 h4 h5 X hn hPc ⊢
  obtain ⟨m9, methY, cY, hn9, hmY, hcY, -, hlY, -⟩ := Cond.codeWith_spec h2
  cases Option.some.inj (hn9.symm.trans hn)
  obtain ⟨kY, hkY, -⟩ := className_of_methodNamed hn
  have hinitY : kY.init = .initialized := Cond.initialized_spec (findClass_of_methodNamed hn) hkY h3
  have h : At U g.method c below := by rw [hg]; exact X.here
  have hlocals9 : W9 + (maxL + 11) + (headSpec ws rm).room.locals ≤ R.locals := hlocals
  have happ : (headSpec ws rm).appliesLoose y e.platform (U.calling g mk a) = true :=
    Spec.appliesLoose_calling (g := g) h hdg hn hkY hinitY
      (X.room_calling (g := g) (R' := (headSpec ws rm).room) hsize hmY hcY hframes (by rw [hlY]; omega) h4 h5) h1
  obtain ⟨mid, hmid⟩ := h.above
  have hfr : (U.setTop g).frames = (.java g :: mid) ++ below := by rw [State.frames_setTop' g h.top, hmid]; rfl
  obtain ⟨o, s₂, hsteps, -, hend, hq⟩ := Steps.callFree hM p X.admits X.cas X.clock (acts := []) hfr happ hPc trivial
  have hq' : vx_Q Qc XC mc ms free a (U.calling g mk a) o s₂ := hq
  rw [State.frames_setTop' g h.top] at hend
  obtain ⟨g₀, hg0⟩ := Option.isSome_iff_exists.mp h.top
  obtain ⟨r, hr⟩ := State.topJava?_eq_some.mp hg0
  have hr' : (({ U with heap := s₂.heap, slotsUsed := s₂.slotsUsed } : State).setVm s₂.vm).frames = .java g₀ :: r := hr
  rcases hq' with ⟨hqc, L, hfe, hL⟩ | ⟨q, rfl, E, ce, L, hx, hce, hcv, hcl, hW₂, hsm, hL⟩
  · obtain ⟨⟨v, rfl⟩, hW₂, e2, q2, q3, q4, q5, q6⟩ := id hfe
    have e3 : s₂ = ({ (U.calling g mk a).setFrames s₂.frames with heap := s₂.heap, slotsUsed := s₂.slotsUsed } : State).setVm s₂.vm := by
      have : s₂ = ({ s₂ with vm := (U.calling g mk a).vm } : State).setVm s₂.vm := rfl
      rw [e2] at this
      exact this
    obtain ⟨c₂, i₂, len₂, hc₂, hd₂, hf₂⟩ := hend
    have hW' : U.WarmedH s₂.vm := hW₂
    have hcc : c₂ = c := by
      have h1 : s₂.code? g.method = U.code? g.method := by
        rw [State.code?_eq, State.code?_eq, hW'.alike.method?]
      exact Option.some.inj (hc₂.symm.trans (h1.trans h.code))
    subst hcc
    have hlen : len₂ = len := by rw [hdg] at hd₂; cases hd₂; rfl
    subst hlen
    have hs₂ : s₂ = (({ U with heap := s₂.heap, slotsUsed := s₂.slotsUsed } : State).setVm s₂.vm).setTop { g with pc := g.pc + len₂, stack := v.toList ++ g.stack } := by
      refine e3.trans ?_
      rw [hf₂, State.calling_eq h.top, State.setFrames_setFrames, State.setTop_of_frames _ hr', hr]
      rfl
    have hsame : U.sameButNew ({ U with heap := s₂.heap, slotsUsed := s₂.slotsUsed } : State) L mc ms := by
      refine ⟨?_, q2, q3, q4, q5, q6⟩
      obtain ⟨t, ht, -⟩ := State.frames_cons hr
      show ({ U with heap := s₂.heap, slotsUsed := s₂.slotsUsed } : State) = { U.setFrames U.frames with heap := s₂.heap, slotsUsed := s₂.slotsUsed }
      rw [State.setFrames_self ht]
    subst hg
    refine Or.inl ⟨v, ⟨(({ U with heap := s₂.heap, slotsUsed := s₂.slotsUsed } : State).setVm s₂.vm), Ls ++ L, c0 + mc, s0 + ms⟩,
      ⟨X.admits, X.cas, X.clock, X.frames, X.room, X.hears, X.method, X.code, (X.here.setHeapUsed s₂.heap s₂.slotsUsed).setVm hW'.alike, X.tail, State.WarmedH.trans X.warmed hW', X.limits, X.bytes, X.same.trans (hsame.setVm s.vm)⟩,
      ⟨g, mk, s₂, L, rfl, rfl, hqc, rfl, hL, rfl, rfl⟩, ?_⟩
    show Steps p.tables e below _ ((({ U with heap := s₂.heap, slotsUsed := s₂.slotsUsed } : State).setVm s₂.vm).setTop { g with pc := g.pc + len₂, stack := v.toList ++ g.stack })
    rw [← hs₂]
    exact hsteps
  · obtain ⟨e2, q2, q3, q4, q5, q6⟩ := id hsm
    have e3 : s₂ = ({ (U.calling g mk a).setFrames s₂.frames with heap := s₂.heap, slotsUsed := s₂.slotsUsed } : State).setVm s₂.vm := by
      have : s₂ = ({ s₂ with vm := (U.calling g mk a).vm } : State).setVm s₂.vm := rfl
      rw [e2] at this
      exact this
    have hf₂ : s₂.frames = .throwing q :: .java g :: U.frames.tail := hend
    have hW' : U.WarmedH s₂.vm := hW₂
    have hs₂ : s₂ = ((({ U with heap := s₂.heap, slotsUsed := s₂.slotsUsed } : State).setVm s₂.vm).setTop g).pushFrame (.throwing q) := by
      refine e3.trans ?_
      rw [hf₂, State.calling_eq h.top, State.setFrames_setFrames, State.pushFrame, State.frames_setTop _ hr', State.setTop_of_frames _ hr', State.setFrames_setFrames, hr]
      rfl
    have hsame : U.sameButNew ({ U with heap := s₂.heap, slotsUsed := s₂.slotsUsed } : State) L mc ms := by
      refine ⟨?_, q2, q3, q4, q5, q6⟩
      obtain ⟨t, ht, -⟩ := State.frames_cons hr
      show ({ U with heap := s₂.heap, slotsUsed := s₂.slotsUsed } : State) = { U.setFrames U.frames with heap := s₂.heap, slotsUsed := s₂.slotsUsed }
      rw [State.setFrames_self ht]
    subst hg
    refine Or.inr ⟨q, ⟨(({ U with heap := s₂.heap, slotsUsed := s₂.slotsUsed } : State).setVm s₂.vm), Ls ++ L, c0 + mc, s0 + ms⟩,
      ⟨X.admits, X.cas, X.clock, X.frames, X.room, X.hears, X.method, X.code, (X.here.setHeapUsed s₂.heap s₂.slotsUsed).setVm hW'.alike, X.tail, State.WarmedH.trans X.warmed hW', X.limits, X.bytes, X.same.trans (hsame.setVm s.vm)⟩,
      ⟨g, mk, s₂, L, E, ce, rfl, rfl, hx, hce, hcv, hcl, rfl, hL, rfl, rfl⟩, ?_⟩
    show Steps p.tables e below _ (((({ U with heap := s₂.heap, slotsUsed := s₂.slotsUsed } : State).setVm s₂.vm).setTop g).pushFrame (.throwing q))
    rw [← hs₂]
    exact hsteps
end
variable {p : Program} {l : Launch} {e : Env} {R : Room} {s : State} {m : MethodId} {args : Array Value} {below : List Frame} {meth : Method} {c : Code} {T : State} {H : Heap} {locs : List Loc} {cells slots : Nat}
theorem vx_callVX (X : Stand p l e R s m args below meth c T locs cells slots) (hexec : p.tables.exec = Jvm.exec) {own C : String} {index : Nat} {y : MethodName} {bytes : ByteArray} {maxL : Nat} {ret : Option FieldType} {hh : List (Nat × Nat × Nat × Nat)}
    (hown : s.vm.findClass own = some m.cls) (hlink : (Cond.methodLink own index y).before args s = true) (hinst : (Cond.instanceMethod y).before args s = true) (hsel : (Cond.selects C y y).before args s = true)
    (hcode : (Cond.codeWith y bytes maxL ret hh).before args s = true) (hy : y.cls ≠ "java/lang/invoke/MethodHandle" ∧ y.cls ≠ "java/lang/invoke/VarHandle")
    {W9 : Nat} {Pre : Pt → Array Value → Prop} {Post : Pt → Array Value → Option Value → Pt → Prop} {PostX : Pt → Array Value → Addr → Pt → Prop} (hK : vx_Back l R p e below s args y 3 W9 Pre Post PostX)
    {b : Addr} {cellB : Cell} (hcell : T.heap[b]? = some cellB) (hobj : cellB.vm.isStatics = false) (hcls : s.vm.findClass C = some cellB.cls)
    {g : JFrame} (hg : g.method = m) (hsize : g.locals.size = c.maxLocals) {argsL rest : List Value} (hlen : ∀ sig, parseMethodDescriptor y.desc = some sig → argsL.length = sig.parameters.length)
    (hstack : g.stack = argsL.reverse ++ .ref b :: rest) (hW : 2 * g.monitorRoom + (rest.map fun v => v.category).sum ≤ W9) (hdg : decode c.code g.pc = .ok (.invokevirtual index, 3))
    (hpre : ∀ vm₁, s.WarmedH vm₁ → Pre ⟨T.setVm vm₁, locs, cells, slots⟩ (Value.ref b :: argsL).toArray) :
    (∃ (v : Option Value) (vm₁ : Vm) (B : Pt), s.WarmedH vm₁ ∧ Stand p l e R s m args below meth c B.U B.locs B.cells B.slots ∧ Post ⟨T.setVm vm₁, locs, cells, slots⟩ (Value.ref b :: argsL).toArray v B ∧
      ∀ target, Steps p.tables e below (B.U.setTop { g with pc := g.pc + 3, stack := v.toList ++ rest }) target → Steps p.tables e below (T.setTop g) target) ∨
    (∃ (q : Addr) (vm₁ : Vm) (B : Pt), s.WarmedH vm₁ ∧ Stand p l e R s m args below meth c B.U B.locs B.cells B.slots ∧ PostX ⟨T.setVm vm₁, locs, cells, slots⟩ (Value.ref b :: argsL).toArray q B ∧
      Steps p.tables e below (T.setTop g) ((B.U.setTop { g with stack := rest }).pushFrame (.throwing q))) := by
  obtain ⟨mk, methM, hnamed, hmethM, hstM, habM⟩ := Cond.instanceMethod_spec hinst
  obtain ⟨m8, methM', cM, hn8, hmethM', -, -, -, -, -, -, hsigM⟩ := Cond.codeWith_spec hcode
  cases Option.some.inj (hn8.symm.trans hnamed)
  cases hmethM.symm.trans hmethM'
  obtain ⟨c2, r2, m2, q1, q2, q3, q4, kP, hkP, hkPi⟩ := Cond.selects_spec hsel
  cases hcls.symm.trans q1
  cases (State.methodFound?_of_named hnamed hy).symm.trans q2
  cases hnamed.symm.trans q3
  have hselP : selectMethod e.platform s.vm cellB.cls mk = .method mk := by rw [Launch.admits_selectMethod X.admits]; exact q4
  obtain ⟨vm₁, X₁, hstep₁⟩ := X.invokevirtual hexec hown hlink hnamed hmethM hstM hkP hkPi hy (a := b) (cell := cellB) hcell
    (fun z h => by rw [h] at hobj; cases hobj) hselP hmethM habM hkP hkPi (g := g) hg (argsL := argsL) (rest := rest) (hlen _ hsigM) hstack hdg
  rcases hK m meth c ⟨T.setVm vm₁, locs, cells, slots⟩ { g with stack := rest } (.invokevirtual index) mk (Value.ref b :: argsL).toArray X₁ hg hsize hdg hW (X₁.named hnamed) (hpre vm₁ X₁.warmed) with ⟨v, B, X', hpost, hsteps⟩ | ⟨q, B, X', hpost, hsteps⟩
  · exact Or.inl ⟨v, vm₁, B, X₁.warmed, X', hpost, fun target h => hstep₁ _ fun acts => by rw [doInvoke_state]; exact hsteps.trans h⟩
  · exact Or.inr ⟨q, vm₁, B, X₁.warmed, X', hpost, hstep₁ _ fun acts => by rw [doInvoke_state]; exact hsteps⟩
theorem vx_callSX (X : Stand p l e R s m args below meth c T locs cells slots) (hexec : p.tables.exec = Jvm.exec) {own : String} {index : Nat} {y : MethodName} {bytes : ByteArray} {maxL : Nat} {ret : Option FieldType} {hh : List (Nat × Nat × Nat × Nat)}
    (hown : s.vm.findClass own = some m.cls) (hlink : (Cond.methodLink own index y).before args s = true) (hstat : (Cond.static y).before args s = true) (hinit : (Cond.initialized y.cls).before args s = true)
    (hcode : (Cond.codeWith y bytes maxL ret hh).before args s = true) (hy : y.cls ≠ "java/lang/invoke/MethodHandle" ∧ y.cls ≠ "java/lang/invoke/VarHandle")
    {W9 : Nat} {Pre : Pt → Array Value → Prop} {Post : Pt → Array Value → Option Value → Pt → Prop} {PostX : Pt → Array Value → Addr → Pt → Prop} (hK : vx_Back l R p e below s args y 3 W9 Pre Post PostX)
    {g : JFrame} (hg : g.method = m) (hsize : g.locals.size = c.maxLocals) {argsL rest : List Value} (hlen : ∀ sig, parseMethodDescriptor y.desc = some sig → argsL.length = sig.parameters.length)
    (hstack : g.stack = argsL.reverse ++ rest) (hW : 2 * g.monitorRoom + (rest.map fun v => v.category).sum ≤ W9) (hdg : decode c.code g.pc = .ok (.invokestatic index, 3))
    (hpre : ∀ vm₁, s.WarmedH vm₁ → Pre ⟨T.setVm vm₁, locs, cells, slots⟩ argsL.toArray) :
    (∃ (v : Option Value) (vm₁ : Vm) (B : Pt), s.WarmedH vm₁ ∧ Stand p l e R s m args below meth c B.U B.locs B.cells B.slots ∧ Post ⟨T.setVm vm₁, locs, cells, slots⟩ argsL.toArray v B ∧
      ∀ target, Steps p.tables e below (B.U.setTop { g with pc := g.pc + 3, stack := v.toList ++ rest }) target → Steps p.tables e below (T.setTop g) target) ∨
    (∃ (q : Addr) (vm₁ : Vm) (B : Pt), s.WarmedH vm₁ ∧ Stand p l e R s m args below meth c B.U B.locs B.cells B.slots ∧ PostX ⟨T.setVm vm₁, locs, cells, slots⟩ argsL.toArray q B ∧
      Steps p.tables e below (T.setTop g) ((B.U.setTop { g with stack := rest }).pushFrame (.throwing q))) := by
  obtain ⟨mk, methM, cM, hnamed, hmethM, -, -, -, -, -, -, hsigM⟩ := Cond.codeWith_spec hcode
  have hstatic : methM.isStatic = true := Cond.static_spec hnamed hmethM hstat
  obtain ⟨kP, hkP, -⟩ := className_of_methodNamed hnamed
  have hinitP : kP.init = .initialized := Cond.initialized_spec (findClass_of_methodNamed hnamed) hkP hinit
  obtain ⟨vm₁, X₁, hstep₁⟩ := X.invokestatic hexec hown hlink hnamed hmethM hstatic hkP hinitP hy (g := g) hg (argsL := argsL) (rest := rest) (hlen _ hsigM) hstack hdg
  rcases hK m meth c ⟨T.setVm vm₁, locs, cells, slots⟩ { g with stack := rest } (.invokestatic index) mk argsL.toArray X₁ hg hsize hdg hW (X₁.named hnamed) (hpre vm₁ X₁.warmed) with ⟨v, B, X', hpost, hsteps⟩ | ⟨q, B, X', hpost, hsteps⟩
  · exact Or.inl ⟨v, vm₁, B, X₁.warmed, X', hpost, fun target h => hstep₁ _ fun acts => by rw [doInvoke_state]; exact hsteps.trans h⟩
  · exact Or.inr ⟨q, vm₁, B, X₁.warmed, X', hpost, hstep₁ _ fun acts => by rw [doInvoke_state]; exact hsteps⟩
theorem vx_callVW (X : Stand p l e R s m args below meth c T locs cells slots) (hexec : p.tables.exec = Jvm.exec) {own C : String} {index : Nat} {y : MethodName} {bytes : ByteArray} {maxL : Nat} {ret : Option FieldType} {hh : List (Nat × Nat × Nat × Nat)}
    (hown : s.vm.findClass own = some m.cls) (hlink : (Cond.methodLink own index y).before args s = true) (hinst : (Cond.instanceMethod y).before args s = true) (hsel : (Cond.selects C y y).before args s = true)
    (hcode : (Cond.codeWith y bytes maxL ret hh).before args s = true) (hy : y.cls ≠ "java/lang/invoke/MethodHandle" ∧ y.cls ≠ "java/lang/invoke/VarHandle")
    {W9 : Nat} {Pre : Pt → Array Value → Prop} {Post : Pt → Array Value → Option Value → Pt → Prop} (hK : Back l R p e below s args y 3 W9 Pre Post)
    {b : Addr} {cellB : Cell} (hcell : T.heap[b]? = some cellB) (hobj : cellB.vm.isStatics = false) (hcls : s.vm.findClass C = some cellB.cls)
    {g : JFrame} (hg : g.method = m) (hsize : g.locals.size = c.maxLocals) {argsL rest : List Value} (hlen : ∀ sig, parseMethodDescriptor y.desc = some sig → argsL.length = sig.parameters.length)
    (hstack : g.stack = argsL.reverse ++ .ref b :: rest) (hW : 2 * g.monitorRoom + (rest.map fun v => v.category).sum ≤ W9) (hdg : decode c.code g.pc = .ok (.invokevirtual index, 3))
    (hpre : ∀ vm₁, s.WarmedH vm₁ → Pre ⟨T.setVm vm₁, locs, cells, slots⟩ (Value.ref b :: argsL).toArray) :
    ∃ (v : Option Value) (vm₁ : Vm) (B : Pt), s.WarmedH vm₁ ∧ Stand p l e R s m args below meth c B.U B.locs B.cells B.slots ∧ Post ⟨T.setVm vm₁, locs, cells, slots⟩ (Value.ref b :: argsL).toArray v B ∧
      ∀ target, Steps p.tables e below (B.U.setTop { g with pc := g.pc + 3, stack := v.toList ++ rest }) target → Steps p.tables e below (T.setTop g) target := by
  obtain ⟨mk, methM, hnamed, hmethM, hstM, habM⟩ := Cond.instanceMethod_spec hinst
  obtain ⟨m8, methM', cM, hn8, hmethM', -, -, -, -, -, -, hsigM⟩ := Cond.codeWith_spec hcode
  cases Option.some.inj (hn8.symm.trans hnamed)
  cases hmethM.symm.trans hmethM'
  obtain ⟨c2, r2, m2, q1, q2, q3, q4, kP, hkP, hkPi⟩ := Cond.selects_spec hsel
  cases hcls.symm.trans q1
  cases (State.methodFound?_of_named hnamed hy).symm.trans q2
  cases hnamed.symm.trans q3
  have hselP : selectMethod e.platform s.vm cellB.cls mk = .method mk := by rw [Launch.admits_selectMethod X.admits]; exact q4
  obtain ⟨vm₁, X₁, hstep₁⟩ := X.invokevirtual hexec hown hlink hnamed hmethM hstM hkP hkPi hy (a := b) (cell := cellB) hcell
    (fun z h => by rw [h] at hobj; cases hobj) hselP hmethM habM hkP hkPi (g := g) hg (argsL := argsL) (rest := rest) (hlen _ hsigM) hstack hdg
  obtain ⟨v, B, X', hpost, hsteps⟩ := hK m meth c ⟨T.setVm vm₁, locs, cells, slots⟩ { g with stack := rest } (.invokevirtual index) mk (Value.ref b :: argsL).toArray X₁ hg hsize hdg hW (X₁.named hnamed) (hpre vm₁ X₁.warmed)
  exact ⟨v, vm₁, B, X₁.warmed, X', hpost, fun target h => hstep₁ _ fun acts => by rw [doInvoke_state]; exact hsteps.trans h⟩
abbrev vx_CVW (R : Room) (s : State) (args : Array Value) (own C : String) (index : Nat) (y : MethodName) (bytes : ByteArray) (maxL : Nat) (ret : Option FieldType) (hh : List (Nat × Nat × Nat × Nat)) (ws : List Cond) (rm : Room) (mc ms n : Nat) : Prop :=
  (rm.cells = mc ∧ rm.slots = ms ∧ rm.frames + 1 ≤ R.frames ∧ 8 + (maxL + 11) + rm.locals ≤ R.locals ∧ (∀ w ∈ ws, ∀ (a' : Array Value) (U : State), s.WarmedH U.vm → w.before a' U = true) ∧ Cond.codeWith y bytes maxL ret hh ∈ ws) ∧
  (Cond.codeWith y bytes maxL ret hh).before args s = true ∧ (Cond.initialized y.cls).before args s = true ∧ (y.cls ≠ "java/lang/invoke/MethodHandle" ∧ y.cls ≠ "java/lang/invoke/VarHandle") ∧
  (∀ sig, parseMethodDescriptor y.desc = some sig → n = sig.parameters.length) ∧ (Cond.methodLink own index y).before args s = true ∧ (Cond.instanceMethod y).before args s = true ∧ (Cond.selects C y y).before args s = true
theorem vx_cwVW {own C : String} {index maxL mc ms : Nat} {y : MethodName} {bytes : ByteArray} {ret : Option FieldType} {hh : List (Nat × Nat × Nat × Nat)} {Ts ws ws' : List Cond} {rm : Room} (n : Nat) (ht : ∀ w ∈ Ts, w.before args s = true) (hT : GoodIn Ts (wsV own index C y ws)) (hw : ws = Cond.codeWith y bytes maxL ret hh :: ws') (hrc : rm.cells = mc) (hrs : rm.slots = ms)
    (hd : y.cls = C ∧ y.cls ≠ "java/lang/invoke/MethodHandle" ∧ y.cls ≠ "java/lang/invoke/VarHandle" ∧ (parseMethodDescriptor y.desc).map (fun d => d.parameters.length) = some n) (hR : rm.frames + 1 ≤ R.frames ∧ 8 + (maxL + 11) + rm.locals ≤ R.locals) :
    vx_CVW R s args own C index y bytes maxL ret hh ws rm mc ms n := by
  obtain ⟨hC, hd⟩ := hd
  subst hC
  have ok : ∀ w ∈ wsV own index y.cls y ws, w.before args s = true := fun w h => ht w (hT w h).1
  have hG : GoodIn Ts ws := fun w h => hT w (by unfold wsV; exact List.mem_append_right _ h)
  have hc : Cond.codeWith y bytes maxL ret hh ∈ ws := by rw [hw]; exact List.mem_cons_self
  refine ⟨⟨hrc, hrs, hR.1, hR.2, pay_in ht hG, hc⟩, ht _ (hG _ hc).1, ok _ (by simp [wsV]), ⟨hd.1, hd.2.1⟩, fun sig h => ?_, ok _ (by simp [wsV]), ok _ (by simp [wsV]), ok _ (by simp [wsV])⟩
  have h2 := hd.2.2
  rw [h] at h2
  exact (Option.some.inj h2).symm
theorem vx_runVW {y : MethodName} {bytes cc : ByteArray} {maxL nL mc ms n index : Nat} {ret : Option FieldType} {hh : List (Nat × Nat × Nat × Nat)} {ws : List Cond} {rm : Room} {Pc : Array Value → State → Prop} {Qc : Array Value → State → Outcome → State → Prop} {free : Addr → Prop} {Ts : List Cond} {own C : String} {b : Addr} {As rest : List Value} {g : JFrame}
    (S : CallFix p m c cc nL s args Ts own) (hM : Met l y ws rm Pc Qc mc ms free) (cw : vx_CVW R s args own C index y bytes maxL ret hh ws rm mc ms n) (hp : PreV s H C b Pc As)
    (hg : g.method = m) (hn : As.length = n) (hsize : g.locals.size = nL) (hstack : g.stack = As.reverse ++ .ref b :: rest) (hW : 2 * g.monitorRoom + (rest.map fun v => v.category).sum ≤ 8) (hdg : decode cc g.pc = .ok (.invokevirtual index, 3)) (hf : cells + mc ≤ R.cells ∧ slots + ms ≤ R.slots) :
    va_Run p l e R s m args below meth c H locs cells slots mc ms g rest (Qc (Value.ref b :: As).toArray) free := by
  obtain ⟨⟨hrc, hrs, hfr, hlo, hws, hcw⟩, hcode, hini, hy, hlen, hl, hin, hse⟩ := cw
  have hK : Back l R p e below s args y 3 8 (PreOf R mc ms Pc) (PostOf Qc mc ms free) := va_backW (hh := hh) (bytes := bytes) (maxL := maxL) (ret := ret) hM hp.1 hrc hrs hfr hlo hws hcw (fun a' U hW => word_at hW (Or.inl (by first | rfl | simp [Cond.onTables, Cond.keeps, Cond.steady])) hini)
  obtain ⟨hx, hb, hml, ho, -⟩ := S
  obtain ⟨-, ⟨cellB, hcB, hoB, hclB⟩, hPc⟩ := hp
  intro T hT X
  obtain ⟨v, vm₁, ⟨U', l2, c2, s2⟩, hW₁, X', ⟨g', mk, t, L, e1, e2, hq, h1, hL, h2, h3⟩, st⟩ := vx_callVW X hx (C := C) (hh := hh) (bytes := bytes) (maxL := maxL) (ret := ret) ho hl hin hse hcode hy hK (by rw [hT]; exact hcB) hoB hclB hg (hsize.trans hml.symm) (argsL := As) (rest := rest) (fun sig h => hn.trans (hlen sig h)) hstack hW (by rw [hb]; exact hdg)
    (fun vm₁ hW₁ => ⟨hf.1, hf.2, hPc (T.setVm vm₁) hT hW₁⟩)
  dsimp only [Pt.U, Pt.locs, Pt.cells, Pt.slots] at X' e1 e2 h1 h2 h3 st
  subst h1; subst h2; subst h3
  exact ⟨v, (T.setVm vm₁).calling g' mk (Value.ref b :: As).toArray, t, U', L, hT, X', hL, e1, e2, hq, st⟩
section
variable {y : MethodName} {bytes cc : ByteArray} {maxL nL mc ms n index : Nat} {ret : Option FieldType} {ws : List Cond} {rm : Room} {Pc : Array Value → State → Prop} {Qc : Array Value → State → Outcome → State → Prop} {XC : String → State → State → Prop} {free : Addr → Prop} {Ts : List Cond} {own C : String} {b : Addr} {As rest : List Value} {g : JFrame}
theorem vx_runVX {hh : List (Nat × Nat × Nat × Nat)} (S : CallFix p m c cc nL s args Ts own) (hM : vx_Met l y ws rm Pc Qc XC mc ms free) (cw : vx_CVW R s args own C index y bytes maxL ret hh ws rm mc ms n) (hp : PreV s H C b Pc As)
    (hg : g.method = m) (hn : As.length = n) (hsize : g.locals.size = nL) (hstack : g.stack = As.reverse ++ .ref b :: rest) (hW : 2 * g.monitorRoom + (rest.map fun v => v.category).sum ≤ 8) (hdg : decode cc g.pc = .ok (.invokevirtual index, 3)) (hf : cells + mc ≤ R.cells ∧ slots + ms ≤ R.slots) :
    vx_Run p l e R s m args below meth c H locs cells slots mc ms g rest (Qc (Value.ref b :: As).toArray) XC free := by
  obtain ⟨⟨hrc, hrs, hfr, hlo, hws, hcw⟩, hcode, hini, hy, hlen, hl, hin, hse⟩ := cw
  have hK : vx_Back l R p e below s args y 3 8 (PreOf R mc ms Pc) (PostOf Qc mc ms free) (vx_Post XC mc ms free) := vx_backW (hh := hh) (bytes := bytes) (maxL := maxL) (ret := ret) hM hp.1 hrc hrs hfr hlo hws hcw (fun a' U hW => word_at hW (Or.inl (by first | rfl | simp [Cond.onTables, Cond.keeps, Cond.steady])) hini)
  obtain ⟨hx, hb, hml, ho, -⟩ := S
  obtain ⟨-, ⟨cellB, hcB, hoB, hclB⟩, hPc⟩ := hp
  intro T hT X
  rcases vx_callVX X hx (C := C) (hh := hh) (bytes := bytes) (maxL := maxL) (ret := ret) ho hl hin hse hcode hy hK (by rw [hT]; exact hcB) hoB hclB hg (hsize.trans hml.symm) (argsL := As) (rest := rest) (fun sig h => hn.trans (hlen sig h)) hstack hW (by rw [hb]; exact hdg)
    (fun vm₁ hW₁ => ⟨hf.1, hf.2, hPc (T.setVm vm₁) hT hW₁⟩) with ⟨v, vm₁, ⟨U', l2, c2, s2⟩, hW₁, X', ⟨g', mk, t, L, e1, e2, hq, h1, hL, h2, h3⟩, st⟩ | ⟨q, vm₁, ⟨U', l2, c2, s2⟩, hW₁, X', ⟨g', mk, t, L, E, ce, e1, e2, hq, hce, hcv, hcl, h1, hL, h2, h3⟩, st⟩
  · dsimp only [Pt.U, Pt.locs, Pt.cells, Pt.slots] at X' e1 e2 h1 h2 h3 st
    subst h1; subst h2; subst h3
    exact Or.inl ⟨v, (T.setVm vm₁).calling g' mk (Value.ref b :: As).toArray, t, U', L, hT, X', hL, e1, e2, hq, st⟩
  · dsimp only [Pt.U, Pt.locs, Pt.cells, Pt.slots] at X' e1 e2 h1 h2 h3 st hcl
    subst h1; subst h2; subst h3
    exact Or.inr ⟨q, (T.setVm vm₁).calling g' mk (Value.ref b :: As).toArray, t, U', L, E, ce, hT, X', hL, e1, e2, hq, hce, hcv, vx_cls hW₁ hcl, st⟩
theorem vx_runSX {hh : List (Nat × Nat × Nat × Nat)} (S : CallFix p m c cc nL s args Ts own) (hM : vx_Met l y ws rm Pc Qc XC mc ms free) (cw : vx_CSW R s args own index y bytes maxL ret hh ws rm mc ms n) (hp : PreS s H Pc As)
    (hg : g.method = m) (hn : As.length = n) (hsize : g.locals.size = nL) (hstack : g.stack = As.reverse ++ rest) (hW : 2 * g.monitorRoom + (rest.map fun v => v.category).sum ≤ 8) (hdg : decode cc g.pc = .ok (.invokestatic index, 3)) (hf : cells + mc ≤ R.cells ∧ slots + ms ≤ R.slots) :
    vx_Run p l e R s m args below meth c H locs cells slots mc ms g rest (Qc As.toArray) XC free := by
  obtain ⟨⟨hrc, hrs, hfr, hlo, hws, hcw⟩, hcode, hini, hy, hlen, hl, hstt⟩ := cw
  have hK : vx_Back l R p e below s args y 3 8 (PreOf R mc ms Pc) (PostOf Qc mc ms free) (vx_Post XC mc ms free) := vx_backW (hh := hh) (bytes := bytes) (maxL := maxL) (ret := ret) hM hp.1 hrc hrs hfr hlo hws hcw (fun a' U hW => word_at hW (Or.inl (by first | rfl | simp [Cond.onTables, Cond.keeps, Cond.steady])) hini)
  obtain ⟨hx, hb, hml, ho, -⟩ := S
  intro T hT X
  rcases vx_callSX X hx (hh := hh) (bytes := bytes) (maxL := maxL) (ret := ret) ho hl hstt hini hcode hy hK hg (hsize.trans hml.symm) (argsL := As) (rest := rest) (fun sig h => hn.trans (hlen sig h)) hstack hW (by rw [hb]; exact hdg)
    (fun vm₁ hW₁ => ⟨hf.1, hf.2, hp.2 (T.setVm vm₁) hT hW₁⟩) with ⟨v, vm₁, ⟨U', l2, c2, s2⟩, hW₁, X', ⟨g', mk, t, L, e1, e2, hq, h1, hL, h2, h3⟩, st⟩ | ⟨q, vm₁, ⟨U', l2, c2, s2⟩, hW₁, X', ⟨g', mk, t, L, E, ce, e1, e2, hq, hce, hcv, hcl, h1, hL, h2, h3⟩, st⟩
  · dsimp only [Pt.U, Pt.locs, Pt.cells, Pt.slots] at X' e1 e2 h1 h2 h3 st
    subst h1; subst h2; subst h3
    exact Or.inl ⟨v, (T.setVm vm₁).calling g' mk As.toArray, t, U', L, hT, X', hL, e1, e2, hq, st⟩
  · dsimp only [Pt.U, Pt.locs, Pt.cells, Pt.slots] at X' e1 e2 h1 h2 h3 st hcl
    subst h1; subst h2; subst h3
    exact Or.inr ⟨q, (T.setVm vm₁).calling g' mk As.toArray, t, U', L, E, ce, hT, X', hL, e1, e2, hq, hce, hcv, vx_cls hW₁ hcl, st⟩
end
end VXH
theorem vx_ofWH {l : Launch} {y : MethodName} {ws ws' : List Cond} {rm : Room} {Pc : Array Value → State → Prop} {Qc : Array Value → State → Outcome → State → Prop} {XC : String → State → State → Prop} {mc ms : Nat} {free : Addr → Prop} {cc : ByteArray} {maxL : Nat} {ret : Option FieldType} {hh : List (Nat × Nat × Nat × Nat)}
    (hy : plainName y.cls = true) (hw : ws = Cond.codeWith y cc maxL ret hh :: ws')
    (body : ∀ p e s m args below meth c s₁, BodyLoose p l y (headSpec ws rm) cc maxL ret e s m args below meth c s₁ → c.maxLocals = maxL → Pc args s →
      W p l e (headSpec ws rm).room s m args below meth c s.heap [] 0 0 (vx_MQ below Qc XC args s mc ms free) (entryFrame m args maxL)) : vx_Met l y ws rm Pc Qc XC mc ms free := by
  refine MetFree.of_bodyS (code := cc) (maxLocals := maxL) (ret := ret) hy ?_ ?_
  · intro args s m h hn
    obtain ⟨m9, meth, c, hn9, h1, h2, h3, h4, -, h5, h6, -⟩ := Cond.codeWith_spec (atoms_spec (ws := ws) h _ (by rw [hw]; exact List.mem_cons_self))
    cases hn.symm.trans hn9
    exact ⟨meth, c, h1, h2, h3, h4, h5, h6⟩
  · intro p e s m args below meth c s₁ B hml hP _
    have hh0 : s₁.heap = s.heap := by rw [B.state]; rfl
    obtain ⟨t, a1, o, b1, b2, b3⟩ := body p e s m args below meth c s₁ B hml hP s₁ hh0 (Stand.of_body B)
    exact ⟨t, o, a1, b1, b2, b3⟩
/-! ===== END ===== -/

/-! ===== BEGIN printed: names, fields, word lists, decode rows ===== -/
def RX0 : String := "FutexKernel$LockList"
def TX0 : u_T := fun k => match k with
  | 0 => ("FutexKernel$LockList", "addresses", "[I", true)
  | _ => ("FutexKernel$LockList", "size", "I", false)
def tyX0 : Nat → FieldType := fun k => match k with
  | 0 => .array .int
  | _ => .int
abbrev wsX00 : List Cond := u_ws RX0 TX0 2
theorem nmX0 : ∀ a, a < 2 → ∀ b, b < 2 → a ≠ b → (TX0 a).2.1 ≠ (TX0 b).2.1 := by decide +kernel
theorem tyX0_ok : ∀ k, k < 2 → parseFieldDescriptor (TX0 k).2.2.1 = some (tyX0 k) := by decide +kernel
abbrev cX0_init : ByteArray := prog_2_method_1_code
def yX0_init : MethodName := ⟨RX0, "<init>", "()V"⟩
abbrev cX0_addressAt : ByteArray := prog_2_method_2_code
def yX0_addressAt : MethodName := ⟨RX0, "addressAt", "(I)I"⟩
abbrev cX0_add : ByteArray := prog_2_method_3_code
def yX0_add : MethodName := ⟨RX0, "add", "(I)V"⟩
abbrev cX0_clear : ByteArray := prog_2_method_4_code
def yX0_clear : MethodName := ⟨RX0, "clear", "()V"⟩
abbrev cX0_drop : ByteArray := prog_2_method_5_code
def yX0_drop : MethodName := ⟨RX0, "drop", "(I)V"⟩
abbrev cX0_placeOf : ByteArray := prog_2_method_6_code
def yX0_placeOf : MethodName := ⟨RX0, "placeOf", "(I)I"⟩
def RX1 : String := "FutexKernel$Task"
def TX1 : u_T := fun k => match k with
  | 0 => ("FutexKernel$Task", "number", "I", true)
  | 1 => ("FutexKernel$Task", "held", "LFutexKernel$LockList;", true)
  | 2 => ("FutexKernel$Task", "state", "I", false)
  | 3 => ("FutexKernel$Task", "priority", "I", false)
  | 4 => ("FutexKernel$Task", "address", "I", false)
  | 5 => ("FutexKernel$Task", "mask", "I", false)
  | 6 => ("FutexKernel$Task", "deadline", "I", false)
  | 7 => ("FutexKernel$Task", "begun", "I", false)
  | 8 => ("FutexKernel$Task", "joined", "I", false)
  | 9 => ("FutexKernel$Task", "result", "I", false)
  | _ => ("FutexKernel$Task", "serial", "I", false)
def tyX1 : Nat → FieldType := fun k => match k with
  | 0 => .int
  | 1 => .object "FutexKernel$LockList"
  | 2 => .int
  | 3 => .int
  | 4 => .int
  | 5 => .int
  | 6 => .int
  | 7 => .int
  | 8 => .int
  | 9 => .int
  | _ => .int
abbrev wsX10 : List Cond := u_ws RX1 TX1 11
theorem nmX1 : ∀ a, a < 11 → ∀ b, b < 11 → a ≠ b → (TX1 a).2.1 ≠ (TX1 b).2.1 := by decide +kernel
theorem tyX1_ok : ∀ k, k < 11 → parseFieldDescriptor (TX1 k).2.2.1 = some (tyX1 k) := by decide +kernel
abbrev cX1_init : ByteArray := prog_3_method_1_code
def yX1_init : MethodName := ⟨RX1, "<init>", "(I)V"⟩
abbrev cX1_bit : ByteArray := prog_3_method_2_code
def yX1_bit : MethodName := ⟨RX1, "bit", "()I"⟩
abbrev cX1_isQueued : ByteArray := prog_3_method_3_code
def yX1_isQueued : MethodName := ⟨RX1, "isQueued", "()Z"⟩
abbrev cX1_isAheadOf : ByteArray := prog_3_method_4_code
def yX1_isAheadOf : MethodName := ⟨RX1, "isAheadOf", "(LFutexKernel$Task;)Z"⟩
abbrev cX1_timesOutBefore : ByteArray := prog_3_method_5_code
def yX1_timesOutBefore : MethodName := ⟨RX1, "timesOutBefore", "(LFutexKernel$Task;)Z"⟩
def RX2 : String := "FutexKernel"
def TX2 : u_T := fun k => match k with
  | 0 => ("FutexKernel", "words", "[I", true)
  | 1 => ("FutexKernel", "tasks", "[LFutexKernel$Task;", true)
  | 2 => ("FutexKernel", "time", "I", false)
  | 3 => ("FutexKernel", "endedWaits", "I", false)
  | 4 => ("FutexKernel", "begunWaits", "I", false)
  | _ => ("FutexKernel", "joins", "I", false)
def tyX2 : Nat → FieldType := fun k => match k with
  | 0 => .array .int
  | 1 => .array (.object "FutexKernel$Task")
  | 2 => .int
  | 3 => .int
  | 4 => .int
  | _ => .int
abbrev wsX20 : List Cond := u_ws RX2 TX2 6
theorem nmX2 : ∀ a, a < 6 → ∀ b, b < 6 → a ≠ b → (TX2 a).2.1 ≠ (TX2 b).2.1 := by decide +kernel
theorem tyX2_ok : ∀ k, k < 6 → parseFieldDescriptor (TX2 k).2.2.1 = some (tyX2 k) := by decide +kernel
abbrev cX2_init : ByteArray := prog_1_method_1_code
def yX2_init : MethodName := ⟨RX2, "<init>", "()V"⟩
abbrev cX2_store : ByteArray := prog_1_method_2_code
def yX2_store : MethodName := ⟨RX2, "store", "(III)I"⟩
abbrev cX2_compareAndSet : ByteArray := prog_1_method_3_code
def yX2_compareAndSet : MethodName := ⟨RX2, "compareAndSet", "(IIII)Z"⟩
abbrev cX2_fetchAdd : ByteArray := prog_1_method_4_code
def yX2_fetchAdd : MethodName := ⟨RX2, "fetchAdd", "(III)I"⟩
abbrev cX2_word : ByteArray := prog_1_method_5_code
def yX2_word : MethodName := ⟨RX2, "word", "(I)I"⟩
abbrev cX2_await : ByteArray := prog_1_method_6_code
def yX2_await : MethodName := ⟨RX2, "await", "(IIIII)Z"⟩
abbrev cX2_wake : ByteArray := prog_1_method_7_code
def yX2_wake : MethodName := ⟨RX2, "wake", "(IIII)I"⟩
abbrev cX2_requeue : ByteArray := prog_1_method_8_code
def yX2_requeue : MethodName := ⟨RX2, "requeue", "(IIIIII)I"⟩
abbrev cX2_lock : ByteArray := prog_1_method_9_code
def yX2_lock : MethodName := ⟨RX2, "lock", "(III)I"⟩
abbrev cX2_unlock : ByteArray := prog_1_method_10_code
def yX2_unlock : MethodName := ⟨RX2, "unlock", "(II)I"⟩
abbrev cX2_locks : ByteArray := prog_1_method_11_code
def yX2_locks : MethodName := ⟨RX2, "locks", "(I)I"⟩
abbrev cX2_lockAt : ByteArray := prog_1_method_12_code
def yX2_lockAt : MethodName := ⟨RX2, "lockAt", "(II)I"⟩
abbrev cX2_blockedBy : ByteArray := prog_1_method_13_code
def yX2_blockedBy : MethodName := ⟨RX2, "blockedBy", "(I)I"⟩
abbrev cX2_interrupt : ByteArray := prog_1_method_14_code
def yX2_interrupt : MethodName := ⟨RX2, "interrupt", "(I)V"⟩
abbrev cX2_exit : ByteArray := prog_1_method_15_code
def yX2_exit : MethodName := ⟨RX2, "exit", "(I)I"⟩
abbrev cX2_start : ByteArray := prog_1_method_16_code
def yX2_start : MethodName := ⟨RX2, "start", "(I)V"⟩
abbrev cX2_setPriority : ByteArray := prog_1_method_17_code
def yX2_setPriority : MethodName := ⟨RX2, "setPriority", "(II)I"⟩
abbrev cX2_tick : ByteArray := prog_1_method_18_code
def yX2_tick : MethodName := ⟨RX2, "tick", "(I)I"⟩
abbrev cX2_now : ByteArray := prog_1_method_19_code
def yX2_now : MethodName := ⟨RX2, "now", "()I"⟩
abbrev cX2_nextTimeout : ByteArray := prog_1_method_20_code
def yX2_nextTimeout : MethodName := ⟨RX2, "nextTimeout", "()I"⟩
abbrev cX2_stateOf : ByteArray := prog_1_method_21_code
def yX2_stateOf : MethodName := ⟨RX2, "stateOf", "(I)I"⟩
abbrev cX2_addressOf : ByteArray := prog_1_method_22_code
def yX2_addressOf : MethodName := ⟨RX2, "addressOf", "(I)I"⟩
abbrev cX2_resultOf : ByteArray := prog_1_method_23_code
def yX2_resultOf : MethodName := ⟨RX2, "resultOf", "(I)I"⟩
abbrev cX2_serialOf : ByteArray := prog_1_method_24_code
def yX2_serialOf : MethodName := ⟨RX2, "serialOf", "(I)I"⟩
abbrev cX2_waiters : ByteArray := prog_1_method_25_code
def yX2_waiters : MethodName := ⟨RX2, "waiters", "(I)I"⟩
abbrev cX2_waiterAt : ByteArray := prog_1_method_26_code
def yX2_waiterAt : MethodName := ⟨RX2, "waiterAt", "(II)I"⟩
abbrev cX2_queueAt : ByteArray := prog_1_method_27_code
def yX2_queueAt : MethodName := ⟨RX2, "queueAt", "(II)I"⟩
abbrev cX2_taskOf : ByteArray := prog_1_method_28_code
def yX2_taskOf : MethodName := ⟨RX2, "taskOf", "(I)LFutexKernel$Task;"⟩
abbrev cX2_isAddress : ByteArray := prog_1_method_29_code
def yX2_isAddress : MethodName := ⟨RX2, "isAddress", "(I)Z"⟩
abbrev cX2_requireAddress : ByteArray := prog_1_method_30_code
def yX2_requireAddress : MethodName := ⟨RX2, "requireAddress", "(I)V"⟩
abbrev cX2_requireBetween : ByteArray := prog_1_method_31_code
def yX2_requireBetween : MethodName := ⟨RX2, "requireBetween", "(III)V"⟩
abbrev cX2_requireRunning : ByteArray := prog_1_method_32_code
def yX2_requireRunning : MethodName := ⟨RX2, "requireRunning", "(LFutexKernel$Task;)V"⟩
abbrev cX2_requireAlive : ByteArray := prog_1_method_33_code
def yX2_requireAlive : MethodName := ⟨RX2, "requireAlive", "(LFutexKernel$Task;)V"⟩
abbrev cX2_bucketOf : ByteArray := prog_1_method_34_code
def yX2_bucketOf : MethodName := ⟨RX2, "bucketOf", "(I)I"⟩
abbrev cX2_joinQueue : ByteArray := prog_1_method_35_code
def yX2_joinQueue : MethodName := ⟨RX2, "joinQueue", "(LFutexKernel$Task;I)V"⟩
abbrev cX2_countAheadAtAddress : ByteArray := prog_1_method_36_code
def yX2_countAheadAtAddress : MethodName := ⟨RX2, "countAheadAtAddress", "(LFutexKernel$Task;)I"⟩
abbrev cX2_countAheadInBucket : ByteArray := prog_1_method_37_code
def yX2_countAheadInBucket : MethodName := ⟨RX2, "countAheadInBucket", "(LFutexKernel$Task;)I"⟩
abbrev cX2_firstAt : ByteArray := prog_1_method_38_code
def yX2_firstAt : MethodName := ⟨RX2, "firstAt", "(III)LFutexKernel$Task;"⟩
abbrev cX2_firstLockingAt : ByteArray := prog_1_method_39_code
def yX2_firstLockingAt : MethodName := ⟨RX2, "firstLockingAt", "(I)LFutexKernel$Task;"⟩
abbrev cX2_beginWait : ByteArray := prog_1_method_40_code
def yX2_beginWait : MethodName := ⟨RX2, "beginWait", "(LFutexKernel$Task;IIII)V"⟩
abbrev cX2_endWait : ByteArray := prog_1_method_41_code
def yX2_endWait : MethodName := ⟨RX2, "endWait", "(LFutexKernel$Task;I)V"⟩
abbrev cX2_leaveQueue : ByteArray := prog_1_method_42_code
def yX2_leaveQueue : MethodName := ⟨RX2, "leaveQueue", "(LFutexKernel$Task;)V"⟩
abbrev cX2_wakeFirst : ByteArray := prog_1_method_43_code
def yX2_wakeFirst : MethodName := ⟨RX2, "wakeFirst", "(III)I"⟩
abbrev cX2_moveFirst : ByteArray := prog_1_method_44_code
def yX2_moveFirst : MethodName := ⟨RX2, "moveFirst", "(III)I"⟩
abbrev cX2_firstToTimeOut : ByteArray := prog_1_method_45_code
def yX2_firstToTimeOut : MethodName := ⟨RX2, "firstToTimeOut", "()LFutexKernel$Task;"⟩
abbrev cX2_ownerAt : ByteArray := prog_1_method_46_code
def yX2_ownerAt : MethodName := ⟨RX2, "ownerAt", "(I)LFutexKernel$Task;"⟩
abbrev cX2_giveLock : ByteArray := prog_1_method_47_code
def yX2_giveLock : MethodName := ⟨RX2, "giveLock", "(LFutexKernel$Task;II)V"⟩
abbrev cX2_passOn : ByteArray := prog_1_method_48_code
def yX2_passOn : MethodName := ⟨RX2, "passOn", "(IZ)I"⟩
abbrev cX2_isHeldUpBy : ByteArray := prog_1_method_49_code
def yX2_isHeldUpBy : MethodName := ⟨RX2, "isHeldUpBy", "(LFutexKernel$Task;LFutexKernel$Task;)Z"⟩
abbrev cX2_blockedByOneOf : ByteArray := prog_1_method_50_code
def yX2_blockedByOneOf : MethodName := ⟨RX2, "blockedByOneOf", "(I)I"⟩
def RX3 : String := "FutexKernelModel"
def TX3 : u_T := fun k => match k with
  | 0 => ("FutexKernelModel", "word", "[I", true)
  | 1 => ("FutexKernelModel", "state", "[I", true)
  | 2 => ("FutexKernelModel", "priority", "[I", true)
  | 3 => ("FutexKernelModel", "result", "[I", true)
  | 4 => ("FutexKernelModel", "serial", "[I", true)
  | 5 => ("FutexKernelModel", "at", "[I", true)
  | 6 => ("FutexKernelModel", "mask", "[I", true)
  | 7 => ("FutexKernelModel", "deadline", "[I", true)
  | 8 => ("FutexKernelModel", "began", "[I", true)
  | 9 => ("FutexKernelModel", "joined", "[I", true)
  | 10 => ("FutexKernelModel", "many", "[I", true)
  | 11 => ("FutexKernelModel", "list", "[I", true)
  | 12 => ("FutexKernelModel", "time", "I", false)
  | 13 => ("FutexKernelModel", "ends", "I", false)
  | 14 => ("FutexKernelModel", "begins", "I", false)
  | 15 => ("FutexKernelModel", "joins", "I", false)
  | _ => ("FutexKernelModel", "thrown", "I", false)
def tyX3 : Nat → FieldType := fun k => match k with
  | 0 => .array .int
  | 1 => .array .int
  | 2 => .array .int
  | 3 => .array .int
  | 4 => .array .int
  | 5 => .array .int
  | 6 => .array .int
  | 7 => .array .int
  | 8 => .array .int
  | 9 => .array .int
  | 10 => .array .int
  | 11 => .array .int
  | 12 => .int
  | 13 => .int
  | 14 => .int
  | 15 => .int
  | _ => .int
abbrev wsX30 : List Cond := u_ws RX3 TX3 17
theorem nmX3 : ∀ a, a < 17 → ∀ b, b < 17 → a ≠ b → (TX3 a).2.1 ≠ (TX3 b).2.1 := by decide +kernel
theorem tyX3_ok : ∀ k, k < 17 → parseFieldDescriptor (TX3 k).2.2.1 = some (tyX3 k) := by decide +kernel
abbrev cX3_init : ByteArray := prog_5_method_1_code
def yX3_init : MethodName := ⟨RX3, "<init>", "()V"⟩
abbrev cX3_thrown : ByteArray := prog_5_method_2_code
def yX3_thrown : MethodName := ⟨RX3, "thrown", "()I"⟩
abbrev cX3_fails : ByteArray := prog_5_method_3_code
def yX3_fails : MethodName := ⟨RX3, "fails", "(I)I"⟩
abbrev cX3_asks : ByteArray := prog_5_method_4_code
def yX3_asks : MethodName := ⟨RX3, "asks", "(Z)Z"⟩
abbrev cX3_isThread : ByteArray := prog_5_method_5_code
def yX3_isThread : MethodName := ⟨RX3, "isThread", "(I)Z"⟩
abbrev cX3_isAddress : ByteArray := prog_5_method_6_code
def yX3_isAddress : MethodName := ⟨RX3, "isAddress", "(I)Z"⟩
abbrev cX3_bucketOf : ByteArray := prog_5_method_7_code
def yX3_bucketOf : MethodName := ⟨RX3, "bucketOf", "(I)I"⟩
abbrev cX3_isQueued : ByteArray := prog_5_method_8_code
def yX3_isQueued : MethodName := ⟨RX3, "isQueued", "(I)Z"⟩
abbrev cX3_ownerOf : ByteArray := prog_5_method_9_code
def yX3_ownerOf : MethodName := ⟨RX3, "ownerOf", "(I)I"⟩
abbrev cX3_key : ByteArray := prog_5_method_10_code
def yX3_key : MethodName := ⟨RX3, "key", "(I)J"⟩
abbrev cX3_first : ByteArray := prog_5_method_11_code
def yX3_first : MethodName := ⟨RX3, "first", "(III)I"⟩
abbrev cX3_isSomebodyLocking : ByteArray := prog_5_method_12_code
def yX3_isSomebodyLocking : MethodName := ⟨RX3, "isSomebodyLocking", "(I)Z"⟩
abbrev cX3_joins : ByteArray := prog_5_method_13_code
def yX3_joins : MethodName := ⟨RX3, "joins", "(II)V"⟩
abbrev cX3_leaves : ByteArray := prog_5_method_14_code
def yX3_leaves : MethodName := ⟨RX3, "leaves", "(II)V"⟩
abbrev cX3_ends : ByteArray := prog_5_method_15_code
def yX3_ends : MethodName := ⟨RX3, "ends", "(II)V"⟩
abbrev cX3_waits : ByteArray := prog_5_method_16_code
def yX3_waits : MethodName := ⟨RX3, "waits", "(IIIII)V"⟩
abbrev cX3_asksRunning : ByteArray := prog_5_method_17_code
def yX3_asksRunning : MethodName := ⟨RX3, "asksRunning", "(IIZI)Z"⟩
abbrev cX3_store : ByteArray := prog_5_method_18_code
def yX3_store : MethodName := ⟨RX3, "store", "(III)I"⟩
abbrev cX3_compareAndSet : ByteArray := prog_5_method_19_code
def yX3_compareAndSet : MethodName := ⟨RX3, "compareAndSet", "(IIII)Z"⟩
abbrev cX3_fetchAdd : ByteArray := prog_5_method_20_code
def yX3_fetchAdd : MethodName := ⟨RX3, "fetchAdd", "(III)I"⟩
abbrev cX3_word : ByteArray := prog_5_method_21_code
def yX3_word : MethodName := ⟨RX3, "word", "(I)I"⟩
abbrev cX3_isMask : ByteArray := prog_5_method_22_code
def yX3_isMask : MethodName := ⟨RX3, "isMask", "(I)Z"⟩
abbrev cX3_isTimeout : ByteArray := prog_5_method_23_code
def yX3_isTimeout : MethodName := ⟨RX3, "isTimeout", "(I)Z"⟩
abbrev cX3_await : ByteArray := prog_5_method_24_code
def yX3_await : MethodName := ⟨RX3, "await", "(IIIII)Z"⟩
abbrev cX3_wakes : ByteArray := prog_5_method_25_code
def yX3_wakes : MethodName := ⟨RX3, "wakes", "(III)I"⟩
abbrev cX3_wake : ByteArray := prog_5_method_26_code
def yX3_wake : MethodName := ⟨RX3, "wake", "(IIII)I"⟩
abbrev cX3_requeue : ByteArray := prog_5_method_27_code
def yX3_requeue : MethodName := ⟨RX3, "requeue", "(IIIIII)I"⟩
abbrev cX3_place : ByteArray := prog_5_method_28_code
def yX3_place : MethodName := ⟨RX3, "place", "(II)I"⟩
abbrev cX3_gets : ByteArray := prog_5_method_29_code
def yX3_gets : MethodName := ⟨RX3, "gets", "(II)V"⟩
abbrev cX3_drops : ByteArray := prog_5_method_30_code
def yX3_drops : MethodName := ⟨RX3, "drops", "(II)V"⟩
abbrev cX3_passes : ByteArray := prog_5_method_31_code
def yX3_passes : MethodName := ⟨RX3, "passes", "(IZ)I"⟩
abbrev cX3_isDeadlock : ByteArray := prog_5_method_32_code
def yX3_isDeadlock : MethodName := ⟨RX3, "isDeadlock", "(II)Z"⟩
abbrev cX3_lock : ByteArray := prog_5_method_33_code
def yX3_lock : MethodName := ⟨RX3, "lock", "(III)I"⟩
abbrev cX3_unlock : ByteArray := prog_5_method_34_code
def yX3_unlock : MethodName := ⟨RX3, "unlock", "(II)I"⟩
abbrev cX3_locks : ByteArray := prog_5_method_35_code
def yX3_locks : MethodName := ⟨RX3, "locks", "(I)I"⟩
abbrev cX3_lockAt : ByteArray := prog_5_method_36_code
def yX3_lockAt : MethodName := ⟨RX3, "lockAt", "(II)I"⟩
abbrev cX3_blockedBy : ByteArray := prog_5_method_37_code
def yX3_blockedBy : MethodName := ⟨RX3, "blockedBy", "(I)I"⟩
abbrev cX3_interrupt : ByteArray := prog_5_method_38_code
def yX3_interrupt : MethodName := ⟨RX3, "interrupt", "(I)V"⟩
abbrev cX3_exit : ByteArray := prog_5_method_39_code
def yX3_exit : MethodName := ⟨RX3, "exit", "(I)I"⟩
abbrev cX3_start : ByteArray := prog_5_method_40_code
def yX3_start : MethodName := ⟨RX3, "start", "(I)V"⟩
abbrev cX3_setPriority : ByteArray := prog_5_method_41_code
def yX3_setPriority : MethodName := ⟨RX3, "setPriority", "(II)I"⟩
abbrev cX3_due : ByteArray := prog_5_method_42_code
def yX3_due : MethodName := ⟨RX3, "due", "()I"⟩
abbrev cX3_tick : ByteArray := prog_5_method_43_code
def yX3_tick : MethodName := ⟨RX3, "tick", "(I)I"⟩
abbrev cX3_now : ByteArray := prog_5_method_44_code
def yX3_now : MethodName := ⟨RX3, "now", "()I"⟩
abbrev cX3_nextTimeout : ByteArray := prog_5_method_45_code
def yX3_nextTimeout : MethodName := ⟨RX3, "nextTimeout", "()I"⟩
abbrev cX3_stateOf : ByteArray := prog_5_method_46_code
def yX3_stateOf : MethodName := ⟨RX3, "stateOf", "(I)I"⟩
abbrev cX3_addressOf : ByteArray := prog_5_method_47_code
def yX3_addressOf : MethodName := ⟨RX3, "addressOf", "(I)I"⟩
abbrev cX3_resultOf : ByteArray := prog_5_method_48_code
def yX3_resultOf : MethodName := ⟨RX3, "resultOf", "(I)I"⟩
abbrev cX3_serialOf : ByteArray := prog_5_method_49_code
def yX3_serialOf : MethodName := ⟨RX3, "serialOf", "(I)I"⟩
abbrev cX3_countAt : ByteArray := prog_5_method_50_code
def yX3_countAt : MethodName := ⟨RX3, "countAt", "(I)I"⟩
abbrev cX3_waiters : ByteArray := prog_5_method_51_code
def yX3_waiters : MethodName := ⟨RX3, "waiters", "(I)I"⟩
abbrev cX3_isIn : ByteArray := prog_5_method_52_code
def yX3_isIn : MethodName := ⟨RX3, "isIn", "(III)Z"⟩
abbrev cX3_thread : ByteArray := prog_5_method_53_code
def yX3_thread : MethodName := ⟨RX3, "thread", "(III)I"⟩
abbrev cX3_waiterAt : ByteArray := prog_5_method_54_code
def yX3_waiterAt : MethodName := ⟨RX3, "waiterAt", "(II)I"⟩
abbrev cX3_queueAt : ByteArray := prog_5_method_55_code
def yX3_queueAt : MethodName := ⟨RX3, "queueAt", "(II)I"⟩
def RJ6 : String := "java/lang/Integer"
def TJ6 : u_T := fun k => match k with
  | _ => ("", "", "", false)
def tyJ6 : Nat → FieldType := fun k => match k with
  | _ => .int
abbrev wsJ60 : List Cond := u_ws RJ6 TJ6 0
theorem nmJ6 : ∀ a, a < 0 → ∀ b, b < 0 → a ≠ b → (TJ6 a).2.1 ≠ (TJ6 b).2.1 := by decide +kernel
theorem tyJ6_ok : ∀ k, k < 0 → parseFieldDescriptor (TJ6 k).2.2.1 = some (tyJ6 k) := by decide +kernel
abbrev cJ6_bitCount_0f7a4 : ByteArray := prog_10_method_49_code
def yJ6_bitCount_0f7a4 : MethodName := ⟨RJ6, "bitCount", "(I)I"⟩
def RJ0 : String := "java/lang/String"
def TJ0 : u_T := fun k => match k with
  | _ => ("", "", "", false)
def tyJ0 : Nat → FieldType := fun k => match k with
  | _ => .int
abbrev wsJ00 : List Cond := u_ws RJ0 TJ0 0
theorem nmJ0 : ∀ a, a < 0 → ∀ b, b < 0 → a ≠ b → (TJ0 a).2.1 ≠ (TJ0 b).2.1 := by decide +kernel
theorem tyJ0_ok : ∀ k, k < 0 → parseFieldDescriptor (TJ0 k).2.2.1 = some (tyJ0 k) := by decide +kernel
def RL : String := "FutexKernelLaw"
abbrev cL_store : ByteArray := method_3_code
def yL_store : MethodName := ⟨RL, "store", "(LFutexKernel;III[J)I"⟩
abbrev cL_compareAndSet : ByteArray := method_4_code
def yL_compareAndSet : MethodName := ⟨RL, "compareAndSet", "(LFutexKernel;IIII[J)I"⟩
abbrev cL_fetchAdd : ByteArray := method_5_code
def yL_fetchAdd : MethodName := ⟨RL, "fetchAdd", "(LFutexKernel;III[J)I"⟩
abbrev cL_word : ByteArray := method_6_code
def yL_word : MethodName := ⟨RL, "word", "(LFutexKernel;I[J)I"⟩
abbrev cL_await : ByteArray := method_7_code
def yL_await : MethodName := ⟨RL, "await", "(LFutexKernel;IIIII[J)I"⟩
abbrev cL_wake : ByteArray := method_8_code
def yL_wake : MethodName := ⟨RL, "wake", "(LFutexKernel;IIII[J)I"⟩
abbrev cL_requeue : ByteArray := method_9_code
def yL_requeue : MethodName := ⟨RL, "requeue", "(LFutexKernel;IIIIII[J)I"⟩
abbrev cL_lock : ByteArray := method_10_code
def yL_lock : MethodName := ⟨RL, "lock", "(LFutexKernel;III[J)I"⟩
abbrev cL_unlock : ByteArray := method_11_code
def yL_unlock : MethodName := ⟨RL, "unlock", "(LFutexKernel;II[J)I"⟩
abbrev cL_locks : ByteArray := method_12_code
def yL_locks : MethodName := ⟨RL, "locks", "(LFutexKernel;I[J)I"⟩
abbrev cL_lockAt : ByteArray := method_13_code
def yL_lockAt : MethodName := ⟨RL, "lockAt", "(LFutexKernel;II[J)I"⟩
abbrev cL_blockedBy : ByteArray := method_14_code
def yL_blockedBy : MethodName := ⟨RL, "blockedBy", "(LFutexKernel;I[J)I"⟩
abbrev cL_interrupt : ByteArray := method_15_code
def yL_interrupt : MethodName := ⟨RL, "interrupt", "(LFutexKernel;I)I"⟩
abbrev cL_exit : ByteArray := method_16_code
def yL_exit : MethodName := ⟨RL, "exit", "(LFutexKernel;I[J)I"⟩
abbrev cL_start : ByteArray := method_17_code
def yL_start : MethodName := ⟨RL, "start", "(LFutexKernel;I)I"⟩
abbrev cL_setPriority : ByteArray := method_18_code
def yL_setPriority : MethodName := ⟨RL, "setPriority", "(LFutexKernel;II[J)I"⟩
abbrev cL_tick : ByteArray := method_19_code
def yL_tick : MethodName := ⟨RL, "tick", "(LFutexKernel;I[J)I"⟩
abbrev cL_stateOf : ByteArray := method_20_code
def yL_stateOf : MethodName := ⟨RL, "stateOf", "(LFutexKernel;I[J)I"⟩
abbrev cL_addressOf : ByteArray := method_21_code
def yL_addressOf : MethodName := ⟨RL, "addressOf", "(LFutexKernel;I[J)I"⟩
abbrev cL_resultOf : ByteArray := method_22_code
def yL_resultOf : MethodName := ⟨RL, "resultOf", "(LFutexKernel;I[J)I"⟩
abbrev cL_serialOf : ByteArray := method_23_code
def yL_serialOf : MethodName := ⟨RL, "serialOf", "(LFutexKernel;I[J)I"⟩
abbrev cL_waiters : ByteArray := method_24_code
def yL_waiters : MethodName := ⟨RL, "waiters", "(LFutexKernel;I[J)I"⟩
abbrev cL_waiterAt : ByteArray := method_25_code
def yL_waiterAt : MethodName := ⟨RL, "waiterAt", "(LFutexKernel;II[J)I"⟩
abbrev cL_queueAt : ByteArray := method_26_code
def yL_queueAt : MethodName := ⟨RL, "queueAt", "(LFutexKernel;II[J)I"⟩
abbrev cL_law : ByteArray := code
def yL_law : MethodName := ⟨RL, "law", "([I)Z"⟩
def wsX0_init : List Cond := .code yX0_init cX0_init 1 none :: ([.methodLink RX0 3 objectInit, .instanceMethod objectInit, .code objectInit ⟨#[0xb1]⟩ 1 none, .arrayClass .int, .fieldLink RX0 9 "FutexKernel$LockList" "addresses" "[I", .fieldLink RX0 15 "FutexKernel$LockList" "size" "I"] ++ wsX00)
def wsX0_addressAt : List Cond := .code yX0_addressAt cX0_addressAt 2 (some .int) :: ([.fieldLink RX0 15 "FutexKernel$LockList" "size" "I", .fieldLink RX0 9 "FutexKernel$LockList" "addresses" "[I"] ++ wsX00)
def wsX0_placeOf : List Cond := .code yX0_placeOf cX0_placeOf 3 (some .int) :: ([.fieldLink RX0 15 "FutexKernel$LockList" "size" "I", .fieldLink RX0 9 "FutexKernel$LockList" "addresses" "[I"] ++ wsX00)
def wsX0_add : List Cond := .code yX0_add cX0_add 2 none :: ([.fieldLink RX0 15 "FutexKernel$LockList" "size" "I", .fieldLink RX0 9 "FutexKernel$LockList" "addresses" "[I", .methodLink RX0 19 yX0_placeOf, .instanceMethod yX0_placeOf, .selects RX0 yX0_placeOf yX0_placeOf, .initialized RX0, .code yX0_placeOf cX0_placeOf 3 (some .int)] ++ wsX00)
def wsX0_clear : List Cond := .code yX0_clear cX0_clear 1 none :: ([.fieldLink RX0 15 "FutexKernel$LockList" "size" "I"] ++ wsX00)
def wsX0_drop : List Cond := .code yX0_drop cX0_drop 4 none :: ([.fieldLink RX0 15 "FutexKernel$LockList" "size" "I", .fieldLink RX0 9 "FutexKernel$LockList" "addresses" "[I", .methodLink RX0 19 yX0_placeOf, .instanceMethod yX0_placeOf, .selects RX0 yX0_placeOf yX0_placeOf, .initialized RX0, .code yX0_placeOf cX0_placeOf 3 (some .int)] ++ wsX00)
def wsX1_init : List Cond := .code yX1_init cX1_init 2 none :: ([.methodLink RX1 3 objectInit, .instanceMethod objectInit, .code objectInit ⟨#[0xb1]⟩ 1 none, .classLink RX1 9 RX0, .instantiable RX0 2, .initialized RX0, .fieldLink RX1 12 "FutexKernel$Task" "held" "LFutexKernel$LockList;", .fieldLink RX1 18 "FutexKernel$Task" "state" "I", .fieldLink RX1 22 "FutexKernel$Task" "priority" "I", .fieldLink RX1 25 "FutexKernel$Task" "address" "I", .fieldLink RX1 28 "FutexKernel$Task" "mask" "I", .fieldLink RX1 31 "FutexKernel$Task" "deadline" "I", .fieldLink RX1 34 "FutexKernel$Task" "begun" "I", .fieldLink RX1 37 "FutexKernel$Task" "joined" "I", .fieldLink RX1 40 "FutexKernel$Task" "result" "I", .fieldLink RX1 43 "FutexKernel$Task" "serial" "I", .fieldLink RX1 46 "FutexKernel$Task" "number" "I", .instanceMethod yX0_init, .code yX0_init cX0_init 1 none, .methodLink RX0 3 objectInit, .arrayClass .int, .fieldLink RX0 9 "FutexKernel$LockList" "addresses" "[I", .fieldLink RX0 15 "FutexKernel$LockList" "size" "I"] ++ wsX00 ++ wsX10)
def wsX1_bit : List Cond := .code yX1_bit cX1_bit 1 (some .int) :: ([.fieldLink RX1 46 "FutexKernel$Task" "number" "I"] ++ wsX10)
def wsX1_isQueued : List Cond := .code yX1_isQueued cX1_isQueued 1 (some .boolean) :: ([.fieldLink RX1 25 "FutexKernel$Task" "address" "I"] ++ wsX10)
def wsX1_isAheadOf : List Cond := .code yX1_isAheadOf cX1_isAheadOf 2 (some .boolean) :: ([.fieldLink RX1 22 "FutexKernel$Task" "priority" "I", .fieldLink RX1 37 "FutexKernel$Task" "joined" "I"] ++ wsX10)
def wsX1_timesOutBefore : List Cond := .code yX1_timesOutBefore cX1_timesOutBefore 2 (some .boolean) :: ([.fieldLink RX1 31 "FutexKernel$Task" "deadline" "I", .fieldLink RX1 34 "FutexKernel$Task" "begun" "I"] ++ wsX10)
def wsX2_init_r1 : List Cond := [Cond.methodLink RX2 1 objectInit, Cond.instanceMethod objectInit, Cond.code objectInit ⟨#[0xb1]⟩ 1 none, Cond.arrayClass .int, Cond.fieldLink RX2 9 "FutexKernel" "words" "[I", Cond.classLink RX2 13 RX1, Cond.fieldLink RX2 15 "FutexKernel" "tasks" "[LFutexKernel$Task;", Cond.fieldLink RX2 19 "FutexKernel" "time" "I", Cond.fieldLink RX2 23 "FutexKernel" "endedWaits" "I", Cond.fieldLink RX2 26 "FutexKernel" "begunWaits" "I", Cond.fieldLink RX2 29 "FutexKernel" "joins" "I", Cond.instantiable RX1 11, Cond.initialized RX1, Cond.methodLink RX2 32 yX1_init, Cond.instanceMethod yX1_init, Cond.code yX1_init cX1_init 2 none, Cond.methodLink RX1 3 objectInit, Cond.classLink RX1 9 RX0, Cond.instantiable RX0 2, Cond.initialized RX0, Cond.fieldLink RX1 12 "FutexKernel$Task" "held" "LFutexKernel$LockList;", Cond.fieldLink RX1 18 "FutexKernel$Task" "state" "I", Cond.fieldLink RX1 22 "FutexKernel$Task" "priority" "I", Cond.fieldLink RX1 25 "FutexKernel$Task" "address" "I"]
def wsX2_init_r2 : List Cond := [Cond.fieldLink RX1 28 "FutexKernel$Task" "mask" "I", Cond.fieldLink RX1 31 "FutexKernel$Task" "deadline" "I", Cond.fieldLink RX1 34 "FutexKernel$Task" "begun" "I", Cond.fieldLink RX1 37 "FutexKernel$Task" "joined" "I", Cond.fieldLink RX1 40 "FutexKernel$Task" "result" "I", Cond.fieldLink RX1 43 "FutexKernel$Task" "serial" "I", Cond.fieldLink RX1 46 "FutexKernel$Task" "number" "I", Cond.instanceMethod yX0_init, Cond.code yX0_init cX0_init 1 none, Cond.methodLink RX0 3 objectInit, Cond.fieldLink RX0 9 "FutexKernel$LockList" "addresses" "[I", Cond.fieldLink RX0 15 "FutexKernel$LockList" "size" "I"]
def wsX2_init : List Cond := .code yX2_init cX2_init 2 none :: ((wsX2_init_r1 ++ wsX2_init_r2) ++ wsX20 ++ wsX10 ++ wsX00)
def wsX2_taskOf : List Cond := .code yX2_taskOf cX2_taskOf 2 (some (.object "FutexKernel$Task")) :: ([.classLink RX2 105 "java/lang/IndexOutOfBoundsException", .initialized "java/lang/IndexOutOfBoundsException", .fieldLink RX2 15 "FutexKernel" "tasks" "[LFutexKernel$Task;"] ++ wsX20 ++ (vx_atS RX2 109 "java/lang/IndexOutOfBoundsException" ["java/lang/RuntimeException", "java/lang/Exception"]).filter goodWord)
def wsX2_isAddress : List Cond := .code yX2_isAddress cX2_isAddress 1 (some .boolean) :: ([])
def wsX2_requireAddress : List Cond := .code yX2_requireAddress cX2_requireAddress 1 none :: ([.classLink RX2 105 "java/lang/IndexOutOfBoundsException", .initialized "java/lang/IndexOutOfBoundsException", .methodLink RX2 186 yX2_isAddress, .static yX2_isAddress, .initialized RX2, .code yX2_isAddress cX2_isAddress 1 (some .boolean)] ++ (vx_atS RX2 109 "java/lang/IndexOutOfBoundsException" ["java/lang/RuntimeException", "java/lang/Exception"]).filter goodWord)
def wsX2_requireRunning : List Cond := .code yX2_requireRunning cX2_requireRunning 1 none :: ([.classLink RX2 84 "java/lang/IllegalStateException", .initialized "java/lang/IllegalStateException", .fieldLink RX2 76 "FutexKernel$Task" "state" "I"] ++ wsX10 ++ (vx_atS RX2 88 "java/lang/IllegalStateException" ["java/lang/RuntimeException", "java/lang/Exception"]).filter goodWord)
def wsX2_store : List Cond := .code yX2_store cX2_store 6 (some .int) :: ([.fieldLink RX2 9 "FutexKernel" "words" "[I", .methodLink RX2 35 yX2_taskOf, .instanceMethod yX2_taskOf, .selects RX2 yX2_taskOf yX2_taskOf, .initialized RX2, .code yX2_taskOf cX2_taskOf 2 (some (.object "FutexKernel$Task")), .classLink RX2 105 "java/lang/IndexOutOfBoundsException", .initialized "java/lang/IndexOutOfBoundsException", .fieldLink RX2 15 "FutexKernel" "tasks" "[LFutexKernel$Task;", .methodLink RX2 39 yX2_requireAddress, .static yX2_requireAddress, .code yX2_requireAddress cX2_requireAddress 1 none, .methodLink RX2 186 yX2_isAddress, .static yX2_isAddress, .code yX2_isAddress cX2_isAddress 1 (some .boolean), .methodLink RX2 42 yX2_requireRunning, .static yX2_requireRunning, .code yX2_requireRunning cX2_requireRunning 1 none, .classLink RX2 84 "java/lang/IllegalStateException", .initialized "java/lang/IllegalStateException", .fieldLink RX2 76 "FutexKernel$Task" "state" "I"] ++ wsX20 ++ wsX10 ++ (vx_atS RX2 109 "java/lang/IndexOutOfBoundsException" ["java/lang/RuntimeException", "java/lang/Exception"]).filter goodWord ++ (vx_atS RX2 88 "java/lang/IllegalStateException" ["java/lang/RuntimeException", "java/lang/Exception"]).filter goodWord)
def wsX2_compareAndSet : List Cond := .code yX2_compareAndSet cX2_compareAndSet 6 (some .boolean) :: ([.fieldLink RX2 9 "FutexKernel" "words" "[I", .methodLink RX2 35 yX2_taskOf, .instanceMethod yX2_taskOf, .selects RX2 yX2_taskOf yX2_taskOf, .initialized RX2, .code yX2_taskOf cX2_taskOf 2 (some (.object "FutexKernel$Task")), .classLink RX2 105 "java/lang/IndexOutOfBoundsException", .initialized "java/lang/IndexOutOfBoundsException", .fieldLink RX2 15 "FutexKernel" "tasks" "[LFutexKernel$Task;", .methodLink RX2 39 yX2_requireAddress, .static yX2_requireAddress, .code yX2_requireAddress cX2_requireAddress 1 none, .methodLink RX2 186 yX2_isAddress, .static yX2_isAddress, .code yX2_isAddress cX2_isAddress 1 (some .boolean), .methodLink RX2 42 yX2_requireRunning, .static yX2_requireRunning, .code yX2_requireRunning cX2_requireRunning 1 none, .classLink RX2 84 "java/lang/IllegalStateException", .initialized "java/lang/IllegalStateException", .fieldLink RX2 76 "FutexKernel$Task" "state" "I"] ++ wsX20 ++ wsX10 ++ (vx_atS RX2 109 "java/lang/IndexOutOfBoundsException" ["java/lang/RuntimeException", "java/lang/Exception"]).filter goodWord ++ (vx_atS RX2 88 "java/lang/IllegalStateException" ["java/lang/RuntimeException", "java/lang/Exception"]).filter goodWord)
def wsX2_fetchAdd : List Cond := .code yX2_fetchAdd cX2_fetchAdd 6 (some .int) :: ([.fieldLink RX2 9 "FutexKernel" "words" "[I", .methodLink RX2 35 yX2_taskOf, .instanceMethod yX2_taskOf, .selects RX2 yX2_taskOf yX2_taskOf, .initialized RX2, .code yX2_taskOf cX2_taskOf 2 (some (.object "FutexKernel$Task")), .classLink RX2 105 "java/lang/IndexOutOfBoundsException", .initialized "java/lang/IndexOutOfBoundsException", .fieldLink RX2 15 "FutexKernel" "tasks" "[LFutexKernel$Task;", .methodLink RX2 39 yX2_requireAddress, .static yX2_requireAddress, .code yX2_requireAddress cX2_requireAddress 1 none, .methodLink RX2 186 yX2_isAddress, .static yX2_isAddress, .code yX2_isAddress cX2_isAddress 1 (some .boolean), .methodLink RX2 42 yX2_requireRunning, .static yX2_requireRunning, .code yX2_requireRunning cX2_requireRunning 1 none, .classLink RX2 84 "java/lang/IllegalStateException", .initialized "java/lang/IllegalStateException", .fieldLink RX2 76 "FutexKernel$Task" "state" "I"] ++ wsX20 ++ wsX10 ++ (vx_atS RX2 109 "java/lang/IndexOutOfBoundsException" ["java/lang/RuntimeException", "java/lang/Exception"]).filter goodWord ++ (vx_atS RX2 88 "java/lang/IllegalStateException" ["java/lang/RuntimeException", "java/lang/Exception"]).filter goodWord)
def wsX2_word : List Cond := .code yX2_word cX2_word 2 (some .int) :: ([.fieldLink RX2 9 "FutexKernel" "words" "[I", .methodLink RX2 39 yX2_requireAddress, .static yX2_requireAddress, .initialized RX2, .code yX2_requireAddress cX2_requireAddress 1 none, .classLink RX2 105 "java/lang/IndexOutOfBoundsException", .initialized "java/lang/IndexOutOfBoundsException", .methodLink RX2 186 yX2_isAddress, .static yX2_isAddress, .code yX2_isAddress cX2_isAddress 1 (some .boolean)] ++ wsX20 ++ (vx_atS RX2 109 "java/lang/IndexOutOfBoundsException" ["java/lang/RuntimeException", "java/lang/Exception"]).filter goodWord)
def wsX2_requireBetween : List Cond := .code yX2_requireBetween cX2_requireBetween 3 none :: ([.classLink RX2 58 "java/lang/IllegalArgumentException", .initialized "java/lang/IllegalArgumentException"] ++ (vx_atS RX2 62 "java/lang/IllegalArgumentException" ["java/lang/RuntimeException", "java/lang/Exception"]).filter goodWord)
def wsX2_joinQueue : List Cond := .code yX2_joinQueue cX2_joinQueue 3 none :: ([.fieldLink RX2 156 "FutexKernel$Task" "address" "I", .fieldLink RX2 29 "FutexKernel" "joins" "I", .fieldLink RX2 198 "FutexKernel$Task" "joined" "I"] ++ wsX10 ++ wsX20)
def wsX2_beginWait : List Cond := .code yX2_beginWait cX2_beginWait 6 none :: ([.fieldLink RX2 76 "FutexKernel$Task" "state" "I", .fieldLink RX2 205 "FutexKernel$Task" "mask" "I", .fieldLink RX2 19 "FutexKernel" "time" "I", .fieldLink RX2 166 "FutexKernel$Task" "deadline" "I", .fieldLink RX2 26 "FutexKernel" "begunWaits" "I", .fieldLink RX2 212 "FutexKernel$Task" "begun" "I", .methodLink RX2 159 yX2_joinQueue, .instanceMethod yX2_joinQueue, .selects RX2 yX2_joinQueue yX2_joinQueue, .initialized RX2, .code yX2_joinQueue cX2_joinQueue 3 none, .fieldLink RX2 156 "FutexKernel$Task" "address" "I", .fieldLink RX2 29 "FutexKernel" "joins" "I", .fieldLink RX2 198 "FutexKernel$Task" "joined" "I"] ++ wsX10 ++ wsX20)
def wsX2_await_r1 : List Cond := [Cond.fieldLink RX2 9 "FutexKernel" "words" "[I", Cond.methodLink RX2 35 yX2_taskOf, Cond.instanceMethod yX2_taskOf, Cond.selects RX2 yX2_taskOf yX2_taskOf, Cond.initialized RX2, Cond.code yX2_taskOf cX2_taskOf 2 (some (.object "FutexKernel$Task")), Cond.classLink RX2 105 "java/lang/IndexOutOfBoundsException", Cond.initialized "java/lang/IndexOutOfBoundsException", Cond.fieldLink RX2 15 "FutexKernel" "tasks" "[LFutexKernel$Task;", Cond.methodLink RX2 39 yX2_requireAddress, Cond.static yX2_requireAddress, Cond.code yX2_requireAddress cX2_requireAddress 1 none, Cond.methodLink RX2 186 yX2_isAddress, Cond.static yX2_isAddress, Cond.code yX2_isAddress cX2_isAddress 1 (some .boolean), Cond.methodLink RX2 46 yX2_requireBetween, Cond.static yX2_requireBetween, Cond.code yX2_requireBetween cX2_requireBetween 3 none, Cond.classLink RX2 58 "java/lang/IllegalArgumentException", Cond.initialized "java/lang/IllegalArgumentException", Cond.methodLink RX2 42 yX2_requireRunning, Cond.static yX2_requireRunning, Cond.code yX2_requireRunning cX2_requireRunning 1 none, Cond.classLink RX2 84 "java/lang/IllegalStateException"]
def wsX2_await_r2 : List Cond := [Cond.initialized "java/lang/IllegalStateException", Cond.fieldLink RX2 76 "FutexKernel$Task" "state" "I", Cond.methodLink RX2 50 yX2_beginWait, Cond.instanceMethod yX2_beginWait, Cond.selects RX2 yX2_beginWait yX2_beginWait, Cond.code yX2_beginWait cX2_beginWait 6 none, Cond.fieldLink RX2 205 "FutexKernel$Task" "mask" "I", Cond.fieldLink RX2 19 "FutexKernel" "time" "I", Cond.fieldLink RX2 166 "FutexKernel$Task" "deadline" "I", Cond.fieldLink RX2 26 "FutexKernel" "begunWaits" "I", Cond.fieldLink RX2 212 "FutexKernel$Task" "begun" "I", Cond.methodLink RX2 159 yX2_joinQueue, Cond.instanceMethod yX2_joinQueue, Cond.selects RX2 yX2_joinQueue yX2_joinQueue, Cond.code yX2_joinQueue cX2_joinQueue 3 none, Cond.fieldLink RX2 156 "FutexKernel$Task" "address" "I", Cond.fieldLink RX2 29 "FutexKernel" "joins" "I", Cond.fieldLink RX2 198 "FutexKernel$Task" "joined" "I"]
def wsX2_await : List Cond := .code yX2_await cX2_await 7 (some .boolean) :: ((wsX2_await_r1 ++ wsX2_await_r2) ++ wsX20 ++ wsX10 ++ (vx_atS RX2 109 "java/lang/IndexOutOfBoundsException" ["java/lang/RuntimeException", "java/lang/Exception"]).filter goodWord ++ (vx_atS RX2 62 "java/lang/IllegalArgumentException" ["java/lang/RuntimeException", "java/lang/Exception"]).filter goodWord ++ (vx_atS RX2 88 "java/lang/IllegalStateException" ["java/lang/RuntimeException", "java/lang/Exception"]).filter goodWord)
def wsX2_firstAt : List Cond := .code yX2_firstAt cX2_firstAt 10 (some (.object "FutexKernel$Task")) :: ([.fieldLink RX2 15 "FutexKernel" "tasks" "[LFutexKernel$Task;", .fieldLink RX2 156 "FutexKernel$Task" "address" "I", .fieldLink RX2 76 "FutexKernel$Task" "state" "I", .fieldLink RX2 205 "FutexKernel$Task" "mask" "I", .methodLink RX2 201 yX1_isAheadOf, .instanceMethod yX1_isAheadOf, .selects RX1 yX1_isAheadOf yX1_isAheadOf, .initialized RX1, .code yX1_isAheadOf cX1_isAheadOf 2 (some .boolean), .fieldLink RX1 22 "FutexKernel$Task" "priority" "I", .fieldLink RX1 37 "FutexKernel$Task" "joined" "I"] ++ wsX20 ++ wsX10)
def wsX2_firstLockingAt : List Cond := .code yX2_firstLockingAt cX2_firstLockingAt 2 (some (.object "FutexKernel$Task")) :: ([.methodLink RX2 208 yX2_firstAt, .instanceMethod yX2_firstAt, .selects RX2 yX2_firstAt yX2_firstAt, .initialized RX2, .code yX2_firstAt cX2_firstAt 10 (some (.object "FutexKernel$Task")), .fieldLink RX2 15 "FutexKernel" "tasks" "[LFutexKernel$Task;", .fieldLink RX2 156 "FutexKernel$Task" "address" "I", .fieldLink RX2 76 "FutexKernel$Task" "state" "I", .fieldLink RX2 205 "FutexKernel$Task" "mask" "I", .methodLink RX2 201 yX1_isAheadOf, .instanceMethod yX1_isAheadOf, .selects RX1 yX1_isAheadOf yX1_isAheadOf, .initialized RX1, .code yX1_isAheadOf cX1_isAheadOf 2 (some .boolean), .fieldLink RX1 22 "FutexKernel$Task" "priority" "I", .fieldLink RX1 37 "FutexKernel$Task" "joined" "I"] ++ wsX20 ++ wsX10)
def wsX2_leaveQueue_r1 : List Cond := [Cond.fieldLink RX2 156 "FutexKernel$Task" "address" "I", Cond.fieldLink RX2 76 "FutexKernel$Task" "state" "I", Cond.fieldLink RX2 166 "FutexKernel$Task" "deadline" "I", Cond.fieldLink RX2 9 "FutexKernel" "words" "[I", Cond.constant RX2 218 (2147483647), Cond.methodLink RX2 186 yX2_isAddress, Cond.static yX2_isAddress, Cond.initialized RX2, Cond.code yX2_isAddress cX2_isAddress 1 (some .boolean), Cond.methodLink RX2 215 yX2_firstLockingAt, Cond.instanceMethod yX2_firstLockingAt, Cond.selects RX2 yX2_firstLockingAt yX2_firstLockingAt, Cond.code yX2_firstLockingAt cX2_firstLockingAt 2 (some (.object "FutexKernel$Task")), Cond.methodLink RX2 208 yX2_firstAt, Cond.instanceMethod yX2_firstAt, Cond.selects RX2 yX2_firstAt yX2_firstAt, Cond.code yX2_firstAt cX2_firstAt 10 (some (.object "FutexKernel$Task")), Cond.fieldLink RX2 15 "FutexKernel" "tasks" "[LFutexKernel$Task;", Cond.fieldLink RX2 205 "FutexKernel$Task" "mask" "I", Cond.methodLink RX2 201 yX1_isAheadOf, Cond.instanceMethod yX1_isAheadOf, Cond.selects RX1 yX1_isAheadOf yX1_isAheadOf, Cond.initialized RX1, Cond.code yX1_isAheadOf cX1_isAheadOf 2 (some .boolean)]
def wsX2_leaveQueue_r2 : List Cond := [Cond.fieldLink RX1 22 "FutexKernel$Task" "priority" "I", Cond.fieldLink RX1 37 "FutexKernel$Task" "joined" "I"]
def wsX2_leaveQueue : List Cond := .code yX2_leaveQueue cX2_leaveQueue 4 none :: ((wsX2_leaveQueue_r1 ++ wsX2_leaveQueue_r2) ++ wsX10 ++ wsX20)
def wsX2_endWait_r1 : List Cond := [Cond.fieldLink RX2 150 "FutexKernel$Task" "result" "I", Cond.fieldLink RX2 23 "FutexKernel" "endedWaits" "I", Cond.fieldLink RX2 153 "FutexKernel$Task" "serial" "I", Cond.methodLink RX2 139 yX2_leaveQueue, Cond.instanceMethod yX2_leaveQueue, Cond.selects RX2 yX2_leaveQueue yX2_leaveQueue, Cond.initialized RX2, Cond.code yX2_leaveQueue cX2_leaveQueue 4 none, Cond.fieldLink RX2 156 "FutexKernel$Task" "address" "I", Cond.fieldLink RX2 76 "FutexKernel$Task" "state" "I", Cond.fieldLink RX2 166 "FutexKernel$Task" "deadline" "I", Cond.fieldLink RX2 9 "FutexKernel" "words" "[I", Cond.constant RX2 218 (2147483647), Cond.methodLink RX2 186 yX2_isAddress, Cond.static yX2_isAddress, Cond.code yX2_isAddress cX2_isAddress 1 (some .boolean), Cond.methodLink RX2 215 yX2_firstLockingAt, Cond.instanceMethod yX2_firstLockingAt, Cond.selects RX2 yX2_firstLockingAt yX2_firstLockingAt, Cond.code yX2_firstLockingAt cX2_firstLockingAt 2 (some (.object "FutexKernel$Task")), Cond.methodLink RX2 208 yX2_firstAt, Cond.instanceMethod yX2_firstAt, Cond.selects RX2 yX2_firstAt yX2_firstAt, Cond.code yX2_firstAt cX2_firstAt 10 (some (.object "FutexKernel$Task"))]
def wsX2_endWait_r2 : List Cond := [Cond.fieldLink RX2 15 "FutexKernel" "tasks" "[LFutexKernel$Task;", Cond.fieldLink RX2 205 "FutexKernel$Task" "mask" "I", Cond.methodLink RX2 201 yX1_isAheadOf, Cond.instanceMethod yX1_isAheadOf, Cond.selects RX1 yX1_isAheadOf yX1_isAheadOf, Cond.initialized RX1, Cond.code yX1_isAheadOf cX1_isAheadOf 2 (some .boolean), Cond.fieldLink RX1 22 "FutexKernel$Task" "priority" "I", Cond.fieldLink RX1 37 "FutexKernel$Task" "joined" "I"]
def wsX2_endWait : List Cond := .code yX2_endWait cX2_endWait 3 none :: ((wsX2_endWait_r1 ++ wsX2_endWait_r2) ++ wsX10 ++ wsX20)
def wsX2_wakeFirst_r1 : List Cond := [Cond.methodLink RX2 208 yX2_firstAt, Cond.instanceMethod yX2_firstAt, Cond.selects RX2 yX2_firstAt yX2_firstAt, Cond.initialized RX2, Cond.code yX2_firstAt cX2_firstAt 10 (some (.object "FutexKernel$Task")), Cond.fieldLink RX2 15 "FutexKernel" "tasks" "[LFutexKernel$Task;", Cond.fieldLink RX2 156 "FutexKernel$Task" "address" "I", Cond.fieldLink RX2 76 "FutexKernel$Task" "state" "I", Cond.fieldLink RX2 205 "FutexKernel$Task" "mask" "I", Cond.methodLink RX2 201 yX1_isAheadOf, Cond.instanceMethod yX1_isAheadOf, Cond.selects RX1 yX1_isAheadOf yX1_isAheadOf, Cond.initialized RX1, Cond.code yX1_isAheadOf cX1_isAheadOf 2 (some .boolean), Cond.fieldLink RX1 22 "FutexKernel$Task" "priority" "I", Cond.fieldLink RX1 37 "FutexKernel$Task" "joined" "I", Cond.methodLink RX2 132 yX2_endWait, Cond.instanceMethod yX2_endWait, Cond.selects RX2 yX2_endWait yX2_endWait, Cond.code yX2_endWait cX2_endWait 3 none, Cond.fieldLink RX2 150 "FutexKernel$Task" "result" "I", Cond.fieldLink RX2 23 "FutexKernel" "endedWaits" "I", Cond.fieldLink RX2 153 "FutexKernel$Task" "serial" "I", Cond.methodLink RX2 139 yX2_leaveQueue]
def wsX2_wakeFirst_r2 : List Cond := [Cond.instanceMethod yX2_leaveQueue, Cond.selects RX2 yX2_leaveQueue yX2_leaveQueue, Cond.code yX2_leaveQueue cX2_leaveQueue 4 none, Cond.fieldLink RX2 166 "FutexKernel$Task" "deadline" "I", Cond.fieldLink RX2 9 "FutexKernel" "words" "[I", Cond.constant RX2 218 (2147483647), Cond.methodLink RX2 186 yX2_isAddress, Cond.static yX2_isAddress, Cond.code yX2_isAddress cX2_isAddress 1 (some .boolean), Cond.methodLink RX2 215 yX2_firstLockingAt, Cond.instanceMethod yX2_firstLockingAt, Cond.selects RX2 yX2_firstLockingAt yX2_firstLockingAt, Cond.code yX2_firstLockingAt cX2_firstLockingAt 2 (some (.object "FutexKernel$Task"))]
def wsX2_wakeFirst : List Cond := .code yX2_wakeFirst cX2_wakeFirst 6 (some .int) :: ((wsX2_wakeFirst_r1 ++ wsX2_wakeFirst_r2) ++ wsX20 ++ wsX10)
def wsX2_wake_r1 : List Cond := [Cond.methodLink RX2 35 yX2_taskOf, Cond.instanceMethod yX2_taskOf, Cond.selects RX2 yX2_taskOf yX2_taskOf, Cond.initialized RX2, Cond.code yX2_taskOf cX2_taskOf 2 (some (.object "FutexKernel$Task")), Cond.classLink RX2 105 "java/lang/IndexOutOfBoundsException", Cond.initialized "java/lang/IndexOutOfBoundsException", Cond.fieldLink RX2 15 "FutexKernel" "tasks" "[LFutexKernel$Task;", Cond.methodLink RX2 39 yX2_requireAddress, Cond.static yX2_requireAddress, Cond.code yX2_requireAddress cX2_requireAddress 1 none, Cond.methodLink RX2 186 yX2_isAddress, Cond.static yX2_isAddress, Cond.code yX2_isAddress cX2_isAddress 1 (some .boolean), Cond.methodLink RX2 46 yX2_requireBetween, Cond.static yX2_requireBetween, Cond.code yX2_requireBetween cX2_requireBetween 3 none, Cond.classLink RX2 58 "java/lang/IllegalArgumentException", Cond.initialized "java/lang/IllegalArgumentException", Cond.methodLink RX2 42 yX2_requireRunning, Cond.static yX2_requireRunning, Cond.code yX2_requireRunning cX2_requireRunning 1 none, Cond.classLink RX2 84 "java/lang/IllegalStateException", Cond.initialized "java/lang/IllegalStateException"]
def wsX2_wake_r2 : List Cond := [Cond.fieldLink RX2 76 "FutexKernel$Task" "state" "I", Cond.methodLink RX2 54 yX2_wakeFirst, Cond.instanceMethod yX2_wakeFirst, Cond.selects RX2 yX2_wakeFirst yX2_wakeFirst, Cond.code yX2_wakeFirst cX2_wakeFirst 6 (some .int), Cond.methodLink RX2 208 yX2_firstAt, Cond.instanceMethod yX2_firstAt, Cond.selects RX2 yX2_firstAt yX2_firstAt, Cond.code yX2_firstAt cX2_firstAt 10 (some (.object "FutexKernel$Task")), Cond.fieldLink RX2 156 "FutexKernel$Task" "address" "I", Cond.fieldLink RX2 205 "FutexKernel$Task" "mask" "I", Cond.methodLink RX2 201 yX1_isAheadOf, Cond.instanceMethod yX1_isAheadOf, Cond.selects RX1 yX1_isAheadOf yX1_isAheadOf, Cond.initialized RX1, Cond.code yX1_isAheadOf cX1_isAheadOf 2 (some .boolean), Cond.fieldLink RX1 22 "FutexKernel$Task" "priority" "I", Cond.fieldLink RX1 37 "FutexKernel$Task" "joined" "I", Cond.methodLink RX2 132 yX2_endWait, Cond.instanceMethod yX2_endWait, Cond.selects RX2 yX2_endWait yX2_endWait, Cond.code yX2_endWait cX2_endWait 3 none, Cond.fieldLink RX2 150 "FutexKernel$Task" "result" "I", Cond.fieldLink RX2 23 "FutexKernel" "endedWaits" "I"]
def wsX2_wake_r3 : List Cond := [Cond.fieldLink RX2 153 "FutexKernel$Task" "serial" "I", Cond.methodLink RX2 139 yX2_leaveQueue, Cond.instanceMethod yX2_leaveQueue, Cond.selects RX2 yX2_leaveQueue yX2_leaveQueue, Cond.code yX2_leaveQueue cX2_leaveQueue 4 none, Cond.fieldLink RX2 166 "FutexKernel$Task" "deadline" "I", Cond.fieldLink RX2 9 "FutexKernel" "words" "[I", Cond.constant RX2 218 (2147483647), Cond.methodLink RX2 215 yX2_firstLockingAt, Cond.instanceMethod yX2_firstLockingAt, Cond.selects RX2 yX2_firstLockingAt yX2_firstLockingAt, Cond.code yX2_firstLockingAt cX2_firstLockingAt 2 (some (.object "FutexKernel$Task"))]
def wsX2_wake : List Cond := .code yX2_wake cX2_wake 6 (some .int) :: ((wsX2_wake_r1 ++ (wsX2_wake_r2 ++ wsX2_wake_r3)) ++ wsX20 ++ wsX10 ++ (vx_atS RX2 109 "java/lang/IndexOutOfBoundsException" ["java/lang/RuntimeException", "java/lang/Exception"]).filter goodWord ++ (vx_atS RX2 62 "java/lang/IllegalArgumentException" ["java/lang/RuntimeException", "java/lang/Exception"]).filter goodWord ++ (vx_atS RX2 88 "java/lang/IllegalStateException" ["java/lang/RuntimeException", "java/lang/Exception"]).filter goodWord)
def wsX2_moveFirst : List Cond := .code yX2_moveFirst cX2_moveFirst 6 (some .int) :: ([.methodLink RX2 208 yX2_firstAt, .instanceMethod yX2_firstAt, .selects RX2 yX2_firstAt yX2_firstAt, .initialized RX2, .code yX2_firstAt cX2_firstAt 10 (some (.object "FutexKernel$Task")), .fieldLink RX2 15 "FutexKernel" "tasks" "[LFutexKernel$Task;", .fieldLink RX2 156 "FutexKernel$Task" "address" "I", .fieldLink RX2 76 "FutexKernel$Task" "state" "I", .fieldLink RX2 205 "FutexKernel$Task" "mask" "I", .methodLink RX2 201 yX1_isAheadOf, .instanceMethod yX1_isAheadOf, .selects RX1 yX1_isAheadOf yX1_isAheadOf, .initialized RX1, .code yX1_isAheadOf cX1_isAheadOf 2 (some .boolean), .fieldLink RX1 22 "FutexKernel$Task" "priority" "I", .fieldLink RX1 37 "FutexKernel$Task" "joined" "I", .methodLink RX2 159 yX2_joinQueue, .instanceMethod yX2_joinQueue, .selects RX2 yX2_joinQueue yX2_joinQueue, .code yX2_joinQueue cX2_joinQueue 3 none, .fieldLink RX2 29 "FutexKernel" "joins" "I", .fieldLink RX2 198 "FutexKernel$Task" "joined" "I"] ++ wsX20 ++ wsX10)
def wsX2_requeue_r1 : List Cond := [Cond.classLink RX2 58 "java/lang/IllegalArgumentException", Cond.initialized "java/lang/IllegalArgumentException", Cond.fieldLink RX2 9 "FutexKernel" "words" "[I", Cond.methodLink RX2 35 yX2_taskOf, Cond.instanceMethod yX2_taskOf, Cond.selects RX2 yX2_taskOf yX2_taskOf, Cond.initialized RX2, Cond.code yX2_taskOf cX2_taskOf 2 (some (.object "FutexKernel$Task")), Cond.classLink RX2 105 "java/lang/IndexOutOfBoundsException", Cond.initialized "java/lang/IndexOutOfBoundsException", Cond.fieldLink RX2 15 "FutexKernel" "tasks" "[LFutexKernel$Task;", Cond.methodLink RX2 39 yX2_requireAddress, Cond.static yX2_requireAddress, Cond.code yX2_requireAddress cX2_requireAddress 1 none, Cond.methodLink RX2 186 yX2_isAddress, Cond.static yX2_isAddress, Cond.code yX2_isAddress cX2_isAddress 1 (some .boolean), Cond.methodLink RX2 46 yX2_requireBetween, Cond.static yX2_requireBetween, Cond.code yX2_requireBetween cX2_requireBetween 3 none, Cond.methodLink RX2 42 yX2_requireRunning, Cond.static yX2_requireRunning, Cond.code yX2_requireRunning cX2_requireRunning 1 none, Cond.classLink RX2 84 "java/lang/IllegalStateException"]
def wsX2_requeue_r2 : List Cond := [Cond.initialized "java/lang/IllegalStateException", Cond.fieldLink RX2 76 "FutexKernel$Task" "state" "I", Cond.methodLink RX2 54 yX2_wakeFirst, Cond.instanceMethod yX2_wakeFirst, Cond.selects RX2 yX2_wakeFirst yX2_wakeFirst, Cond.code yX2_wakeFirst cX2_wakeFirst 6 (some .int), Cond.methodLink RX2 208 yX2_firstAt, Cond.instanceMethod yX2_firstAt, Cond.selects RX2 yX2_firstAt yX2_firstAt, Cond.code yX2_firstAt cX2_firstAt 10 (some (.object "FutexKernel$Task")), Cond.fieldLink RX2 156 "FutexKernel$Task" "address" "I", Cond.fieldLink RX2 205 "FutexKernel$Task" "mask" "I", Cond.methodLink RX2 201 yX1_isAheadOf, Cond.instanceMethod yX1_isAheadOf, Cond.selects RX1 yX1_isAheadOf yX1_isAheadOf, Cond.initialized RX1, Cond.code yX1_isAheadOf cX1_isAheadOf 2 (some .boolean), Cond.fieldLink RX1 22 "FutexKernel$Task" "priority" "I", Cond.fieldLink RX1 37 "FutexKernel$Task" "joined" "I", Cond.methodLink RX2 132 yX2_endWait, Cond.instanceMethod yX2_endWait, Cond.selects RX2 yX2_endWait yX2_endWait, Cond.code yX2_endWait cX2_endWait 3 none, Cond.fieldLink RX2 150 "FutexKernel$Task" "result" "I"]
def wsX2_requeue_r3 : List Cond := [Cond.fieldLink RX2 23 "FutexKernel" "endedWaits" "I", Cond.fieldLink RX2 153 "FutexKernel$Task" "serial" "I", Cond.methodLink RX2 139 yX2_leaveQueue, Cond.instanceMethod yX2_leaveQueue, Cond.selects RX2 yX2_leaveQueue yX2_leaveQueue, Cond.code yX2_leaveQueue cX2_leaveQueue 4 none, Cond.fieldLink RX2 166 "FutexKernel$Task" "deadline" "I", Cond.constant RX2 218 (2147483647), Cond.methodLink RX2 215 yX2_firstLockingAt, Cond.instanceMethod yX2_firstLockingAt, Cond.selects RX2 yX2_firstLockingAt yX2_firstLockingAt, Cond.code yX2_firstLockingAt cX2_firstLockingAt 2 (some (.object "FutexKernel$Task")), Cond.methodLink RX2 65 yX2_moveFirst, Cond.instanceMethod yX2_moveFirst, Cond.selects RX2 yX2_moveFirst yX2_moveFirst, Cond.code yX2_moveFirst cX2_moveFirst 6 (some .int), Cond.methodLink RX2 159 yX2_joinQueue, Cond.instanceMethod yX2_joinQueue, Cond.selects RX2 yX2_joinQueue yX2_joinQueue, Cond.code yX2_joinQueue cX2_joinQueue 3 none, Cond.fieldLink RX2 29 "FutexKernel" "joins" "I", Cond.fieldLink RX2 198 "FutexKernel$Task" "joined" "I"]
def wsX2_requeue : List Cond := .code yX2_requeue cX2_requeue 9 (some .int) :: ((wsX2_requeue_r1 ++ (wsX2_requeue_r2 ++ wsX2_requeue_r3)) ++ wsX20 ++ wsX10 ++ (vx_atS RX2 62 "java/lang/IllegalArgumentException" ["java/lang/RuntimeException", "java/lang/Exception"]).filter goodWord ++ (vx_atS RX2 109 "java/lang/IndexOutOfBoundsException" ["java/lang/RuntimeException", "java/lang/Exception"]).filter goodWord ++ (vx_atS RX2 88 "java/lang/IllegalStateException" ["java/lang/RuntimeException", "java/lang/Exception"]).filter goodWord)
def wsX2_giveLock_r1 : List Cond := [Cond.constant RX2 83 (-2147483648), Cond.fieldLink RX2 9 "FutexKernel" "words" "[I", Cond.fieldLink RX2 173 "FutexKernel$Task" "number" "I", Cond.fieldLink RX2 89 "FutexKernel$Task" "held" "LFutexKernel$LockList;", Cond.methodLink RX2 186 yX2_isAddress, Cond.static yX2_isAddress, Cond.initialized RX2, Cond.code yX2_isAddress cX2_isAddress 1 (some .boolean), Cond.methodLink RX2 215 yX2_firstLockingAt, Cond.instanceMethod yX2_firstLockingAt, Cond.selects RX2 yX2_firstLockingAt yX2_firstLockingAt, Cond.code yX2_firstLockingAt cX2_firstLockingAt 2 (some (.object "FutexKernel$Task")), Cond.methodLink RX2 208 yX2_firstAt, Cond.instanceMethod yX2_firstAt, Cond.selects RX2 yX2_firstAt yX2_firstAt, Cond.code yX2_firstAt cX2_firstAt 10 (some (.object "FutexKernel$Task")), Cond.fieldLink RX2 15 "FutexKernel" "tasks" "[LFutexKernel$Task;", Cond.fieldLink RX2 156 "FutexKernel$Task" "address" "I", Cond.fieldLink RX2 76 "FutexKernel$Task" "state" "I", Cond.fieldLink RX2 205 "FutexKernel$Task" "mask" "I", Cond.methodLink RX2 201 yX1_isAheadOf, Cond.instanceMethod yX1_isAheadOf, Cond.selects RX1 yX1_isAheadOf yX1_isAheadOf, Cond.initialized RX1]
def wsX2_giveLock_r2 : List Cond := [Cond.code yX1_isAheadOf cX1_isAheadOf 2 (some .boolean), Cond.fieldLink RX1 22 "FutexKernel$Task" "priority" "I", Cond.fieldLink RX1 37 "FutexKernel$Task" "joined" "I", Cond.methodLink RX2 222 yX0_add, Cond.instanceMethod yX0_add, Cond.selects RX0 yX0_add yX0_add, Cond.initialized RX0, Cond.code yX0_add cX0_add 2 none, Cond.fieldLink RX0 15 "FutexKernel$LockList" "size" "I", Cond.fieldLink RX0 9 "FutexKernel$LockList" "addresses" "[I", Cond.methodLink RX0 19 yX0_placeOf, Cond.instanceMethod yX0_placeOf, Cond.selects RX0 yX0_placeOf yX0_placeOf, Cond.code yX0_placeOf cX0_placeOf 3 (some .int)]
def wsX2_giveLock : List Cond := .code yX2_giveLock cX2_giveLock 5 none :: ((wsX2_giveLock_r1 ++ wsX2_giveLock_r2) ++ wsX20 ++ wsX10 ++ wsX00)
def wsX2_ownerAt : List Cond := .code yX2_ownerAt cX2_ownerAt 3 (some (.object "FutexKernel$Task")) :: ([.fieldLink RX2 9 "FutexKernel" "words" "[I", .fieldLink RX2 15 "FutexKernel" "tasks" "[LFutexKernel$Task;", .methodLink RX2 186 yX2_isAddress, .static yX2_isAddress, .initialized RX2, .code yX2_isAddress cX2_isAddress 1 (some .boolean)] ++ wsX20)
def wsX2_isHeldUpBy : List Cond := .code yX2_isHeldUpBy cX2_isHeldUpBy 5 (some .boolean) :: ([.fieldLink RX2 76 "FutexKernel$Task" "state" "I", .fieldLink RX2 156 "FutexKernel$Task" "address" "I", .methodLink RX2 73 yX2_ownerAt, .instanceMethod yX2_ownerAt, .selects RX2 yX2_ownerAt yX2_ownerAt, .initialized RX2, .code yX2_ownerAt cX2_ownerAt 3 (some (.object "FutexKernel$Task")), .fieldLink RX2 9 "FutexKernel" "words" "[I", .fieldLink RX2 15 "FutexKernel" "tasks" "[LFutexKernel$Task;", .methodLink RX2 186 yX2_isAddress, .static yX2_isAddress, .code yX2_isAddress cX2_isAddress 1 (some .boolean)] ++ wsX10 ++ wsX20)
def wsX2_lock_r1 : List Cond := [Cond.fieldLink RX2 9 "FutexKernel" "words" "[I", Cond.constant RX2 68 (1073741824), Cond.fieldLink RX2 76 "FutexKernel$Task" "state" "I", Cond.constant RX2 83 (-2147483648), Cond.methodLink RX2 35 yX2_taskOf, Cond.instanceMethod yX2_taskOf, Cond.selects RX2 yX2_taskOf yX2_taskOf, Cond.initialized RX2, Cond.code yX2_taskOf cX2_taskOf 2 (some (.object "FutexKernel$Task")), Cond.classLink RX2 105 "java/lang/IndexOutOfBoundsException", Cond.initialized "java/lang/IndexOutOfBoundsException", Cond.fieldLink RX2 15 "FutexKernel" "tasks" "[LFutexKernel$Task;", Cond.methodLink RX2 39 yX2_requireAddress, Cond.static yX2_requireAddress, Cond.code yX2_requireAddress cX2_requireAddress 1 none, Cond.methodLink RX2 186 yX2_isAddress, Cond.static yX2_isAddress, Cond.code yX2_isAddress cX2_isAddress 1 (some .boolean), Cond.methodLink RX2 46 yX2_requireBetween, Cond.static yX2_requireBetween, Cond.code yX2_requireBetween cX2_requireBetween 3 none, Cond.classLink RX2 58 "java/lang/IllegalArgumentException", Cond.initialized "java/lang/IllegalArgumentException", Cond.methodLink RX2 42 yX2_requireRunning]
def wsX2_lock_r2 : List Cond := [Cond.static yX2_requireRunning, Cond.code yX2_requireRunning cX2_requireRunning 1 none, Cond.classLink RX2 84 "java/lang/IllegalStateException", Cond.initialized "java/lang/IllegalStateException", Cond.methodLink RX2 69 yX2_giveLock, Cond.instanceMethod yX2_giveLock, Cond.selects RX2 yX2_giveLock yX2_giveLock, Cond.code yX2_giveLock cX2_giveLock 5 none, Cond.fieldLink RX2 173 "FutexKernel$Task" "number" "I", Cond.fieldLink RX2 89 "FutexKernel$Task" "held" "LFutexKernel$LockList;", Cond.methodLink RX2 215 yX2_firstLockingAt, Cond.instanceMethod yX2_firstLockingAt, Cond.selects RX2 yX2_firstLockingAt yX2_firstLockingAt, Cond.code yX2_firstLockingAt cX2_firstLockingAt 2 (some (.object "FutexKernel$Task")), Cond.methodLink RX2 208 yX2_firstAt, Cond.instanceMethod yX2_firstAt, Cond.selects RX2 yX2_firstAt yX2_firstAt, Cond.code yX2_firstAt cX2_firstAt 10 (some (.object "FutexKernel$Task")), Cond.fieldLink RX2 156 "FutexKernel$Task" "address" "I", Cond.fieldLink RX2 205 "FutexKernel$Task" "mask" "I", Cond.methodLink RX2 201 yX1_isAheadOf, Cond.instanceMethod yX1_isAheadOf, Cond.selects RX1 yX1_isAheadOf yX1_isAheadOf, Cond.initialized RX1]
def wsX2_lock_r3 : List Cond := [Cond.code yX1_isAheadOf cX1_isAheadOf 2 (some .boolean), Cond.fieldLink RX1 22 "FutexKernel$Task" "priority" "I", Cond.fieldLink RX1 37 "FutexKernel$Task" "joined" "I", Cond.methodLink RX2 222 yX0_add, Cond.instanceMethod yX0_add, Cond.selects RX0 yX0_add yX0_add, Cond.initialized RX0, Cond.code yX0_add cX0_add 2 none, Cond.fieldLink RX0 15 "FutexKernel$LockList" "size" "I", Cond.fieldLink RX0 9 "FutexKernel$LockList" "addresses" "[I", Cond.methodLink RX0 19 yX0_placeOf, Cond.instanceMethod yX0_placeOf, Cond.selects RX0 yX0_placeOf yX0_placeOf, Cond.code yX0_placeOf cX0_placeOf 3 (some .int), Cond.methodLink RX2 73 yX2_ownerAt, Cond.instanceMethod yX2_ownerAt, Cond.selects RX2 yX2_ownerAt yX2_ownerAt, Cond.code yX2_ownerAt cX2_ownerAt 3 (some (.object "FutexKernel$Task")), Cond.methodLink RX2 79 yX2_isHeldUpBy, Cond.instanceMethod yX2_isHeldUpBy, Cond.selects RX2 yX2_isHeldUpBy yX2_isHeldUpBy, Cond.code yX2_isHeldUpBy cX2_isHeldUpBy 5 (some .boolean), Cond.methodLink RX2 50 yX2_beginWait, Cond.instanceMethod yX2_beginWait]
def wsX2_lock_r4 : List Cond := [Cond.selects RX2 yX2_beginWait yX2_beginWait, Cond.code yX2_beginWait cX2_beginWait 6 none, Cond.fieldLink RX2 19 "FutexKernel" "time" "I", Cond.fieldLink RX2 166 "FutexKernel$Task" "deadline" "I", Cond.fieldLink RX2 26 "FutexKernel" "begunWaits" "I", Cond.fieldLink RX2 212 "FutexKernel$Task" "begun" "I", Cond.methodLink RX2 159 yX2_joinQueue, Cond.instanceMethod yX2_joinQueue, Cond.selects RX2 yX2_joinQueue yX2_joinQueue, Cond.code yX2_joinQueue cX2_joinQueue 3 none, Cond.fieldLink RX2 29 "FutexKernel" "joins" "I", Cond.fieldLink RX2 198 "FutexKernel$Task" "joined" "I"]
def wsX2_lock : List Cond := .code yX2_lock cX2_lock 7 (some .int) :: ((wsX2_lock_r1 ++ (wsX2_lock_r2 ++ (wsX2_lock_r3 ++ wsX2_lock_r4))) ++ wsX20 ++ wsX10 ++ wsX00 ++ (vx_atS RX2 109 "java/lang/IndexOutOfBoundsException" ["java/lang/RuntimeException", "java/lang/Exception"]).filter goodWord ++ (vx_atS RX2 62 "java/lang/IllegalArgumentException" ["java/lang/RuntimeException", "java/lang/Exception"]).filter goodWord ++ (vx_atS RX2 88 "java/lang/IllegalStateException" ["java/lang/RuntimeException", "java/lang/Exception"]).filter goodWord)
def wsX2_passOn_r1 : List Cond := [Cond.constant RX2 68 (1073741824), Cond.fieldLink RX2 173 "FutexKernel$Task" "number" "I", Cond.fieldLink RX2 9 "FutexKernel" "words" "[I", Cond.methodLink RX2 215 yX2_firstLockingAt, Cond.instanceMethod yX2_firstLockingAt, Cond.selects RX2 yX2_firstLockingAt yX2_firstLockingAt, Cond.initialized RX2, Cond.code yX2_firstLockingAt cX2_firstLockingAt 2 (some (.object "FutexKernel$Task")), Cond.methodLink RX2 208 yX2_firstAt, Cond.instanceMethod yX2_firstAt, Cond.selects RX2 yX2_firstAt yX2_firstAt, Cond.code yX2_firstAt cX2_firstAt 10 (some (.object "FutexKernel$Task")), Cond.fieldLink RX2 15 "FutexKernel" "tasks" "[LFutexKernel$Task;", Cond.fieldLink RX2 156 "FutexKernel$Task" "address" "I", Cond.fieldLink RX2 76 "FutexKernel$Task" "state" "I", Cond.fieldLink RX2 205 "FutexKernel$Task" "mask" "I", Cond.methodLink RX2 201 yX1_isAheadOf, Cond.instanceMethod yX1_isAheadOf, Cond.selects RX1 yX1_isAheadOf yX1_isAheadOf, Cond.initialized RX1, Cond.code yX1_isAheadOf cX1_isAheadOf 2 (some .boolean), Cond.fieldLink RX1 22 "FutexKernel$Task" "priority" "I", Cond.fieldLink RX1 37 "FutexKernel$Task" "joined" "I", Cond.methodLink RX2 132 yX2_endWait]
def wsX2_passOn_r2 : List Cond := [Cond.instanceMethod yX2_endWait, Cond.selects RX2 yX2_endWait yX2_endWait, Cond.code yX2_endWait cX2_endWait 3 none, Cond.fieldLink RX2 150 "FutexKernel$Task" "result" "I", Cond.fieldLink RX2 23 "FutexKernel" "endedWaits" "I", Cond.fieldLink RX2 153 "FutexKernel$Task" "serial" "I", Cond.methodLink RX2 139 yX2_leaveQueue, Cond.instanceMethod yX2_leaveQueue, Cond.selects RX2 yX2_leaveQueue yX2_leaveQueue, Cond.code yX2_leaveQueue cX2_leaveQueue 4 none, Cond.fieldLink RX2 166 "FutexKernel$Task" "deadline" "I", Cond.constant RX2 218 (2147483647), Cond.methodLink RX2 186 yX2_isAddress, Cond.static yX2_isAddress, Cond.code yX2_isAddress cX2_isAddress 1 (some .boolean), Cond.methodLink RX2 69 yX2_giveLock, Cond.instanceMethod yX2_giveLock, Cond.selects RX2 yX2_giveLock yX2_giveLock, Cond.code yX2_giveLock cX2_giveLock 5 none, Cond.constant RX2 83 (-2147483648), Cond.fieldLink RX2 89 "FutexKernel$Task" "held" "LFutexKernel$LockList;", Cond.methodLink RX2 222 yX0_add, Cond.instanceMethod yX0_add, Cond.selects RX0 yX0_add yX0_add]
def wsX2_passOn_r3 : List Cond := [Cond.initialized RX0, Cond.code yX0_add cX0_add 2 none, Cond.fieldLink RX0 15 "FutexKernel$LockList" "size" "I", Cond.fieldLink RX0 9 "FutexKernel$LockList" "addresses" "[I", Cond.methodLink RX0 19 yX0_placeOf, Cond.instanceMethod yX0_placeOf, Cond.selects RX0 yX0_placeOf yX0_placeOf, Cond.code yX0_placeOf cX0_placeOf 3 (some .int)]
def wsX2_passOn : List Cond := .code yX2_passOn cX2_passOn 5 (some .int) :: ((wsX2_passOn_r1 ++ (wsX2_passOn_r2 ++ wsX2_passOn_r3)) ++ wsX10 ++ wsX20 ++ wsX00)
def wsX2_unlock_r1 : List Cond := [Cond.classLink RX2 84 "java/lang/IllegalStateException", Cond.initialized "java/lang/IllegalStateException", Cond.fieldLink RX2 89 "FutexKernel$Task" "held" "LFutexKernel$LockList;", Cond.methodLink RX2 35 yX2_taskOf, Cond.instanceMethod yX2_taskOf, Cond.selects RX2 yX2_taskOf yX2_taskOf, Cond.initialized RX2, Cond.code yX2_taskOf cX2_taskOf 2 (some (.object "FutexKernel$Task")), Cond.classLink RX2 105 "java/lang/IndexOutOfBoundsException", Cond.initialized "java/lang/IndexOutOfBoundsException", Cond.fieldLink RX2 15 "FutexKernel" "tasks" "[LFutexKernel$Task;", Cond.methodLink RX2 39 yX2_requireAddress, Cond.static yX2_requireAddress, Cond.code yX2_requireAddress cX2_requireAddress 1 none, Cond.methodLink RX2 186 yX2_isAddress, Cond.static yX2_isAddress, Cond.code yX2_isAddress cX2_isAddress 1 (some .boolean), Cond.methodLink RX2 42 yX2_requireRunning, Cond.static yX2_requireRunning, Cond.code yX2_requireRunning cX2_requireRunning 1 none, Cond.fieldLink RX2 76 "FutexKernel$Task" "state" "I", Cond.methodLink RX2 73 yX2_ownerAt, Cond.instanceMethod yX2_ownerAt, Cond.selects RX2 yX2_ownerAt yX2_ownerAt]
def wsX2_unlock_r2 : List Cond := [Cond.code yX2_ownerAt cX2_ownerAt 3 (some (.object "FutexKernel$Task")), Cond.fieldLink RX2 9 "FutexKernel" "words" "[I", Cond.methodLink RX2 93 yX0_drop, Cond.instanceMethod yX0_drop, Cond.selects RX0 yX0_drop yX0_drop, Cond.initialized RX0, Cond.code yX0_drop cX0_drop 4 none, Cond.fieldLink RX0 15 "FutexKernel$LockList" "size" "I", Cond.fieldLink RX0 9 "FutexKernel$LockList" "addresses" "[I", Cond.methodLink RX0 19 yX0_placeOf, Cond.instanceMethod yX0_placeOf, Cond.selects RX0 yX0_placeOf yX0_placeOf, Cond.code yX0_placeOf cX0_placeOf 3 (some .int), Cond.methodLink RX2 98 yX2_passOn, Cond.instanceMethod yX2_passOn, Cond.selects RX2 yX2_passOn yX2_passOn, Cond.code yX2_passOn cX2_passOn 5 (some .int), Cond.constant RX2 68 (1073741824), Cond.fieldLink RX2 173 "FutexKernel$Task" "number" "I", Cond.methodLink RX2 215 yX2_firstLockingAt, Cond.instanceMethod yX2_firstLockingAt, Cond.selects RX2 yX2_firstLockingAt yX2_firstLockingAt, Cond.code yX2_firstLockingAt cX2_firstLockingAt 2 (some (.object "FutexKernel$Task")), Cond.methodLink RX2 208 yX2_firstAt]
def wsX2_unlock_r3 : List Cond := [Cond.instanceMethod yX2_firstAt, Cond.selects RX2 yX2_firstAt yX2_firstAt, Cond.code yX2_firstAt cX2_firstAt 10 (some (.object "FutexKernel$Task")), Cond.fieldLink RX2 156 "FutexKernel$Task" "address" "I", Cond.fieldLink RX2 205 "FutexKernel$Task" "mask" "I", Cond.methodLink RX2 201 yX1_isAheadOf, Cond.instanceMethod yX1_isAheadOf, Cond.selects RX1 yX1_isAheadOf yX1_isAheadOf, Cond.initialized RX1, Cond.code yX1_isAheadOf cX1_isAheadOf 2 (some .boolean), Cond.fieldLink RX1 22 "FutexKernel$Task" "priority" "I", Cond.fieldLink RX1 37 "FutexKernel$Task" "joined" "I", Cond.methodLink RX2 132 yX2_endWait, Cond.instanceMethod yX2_endWait, Cond.selects RX2 yX2_endWait yX2_endWait, Cond.code yX2_endWait cX2_endWait 3 none, Cond.fieldLink RX2 150 "FutexKernel$Task" "result" "I", Cond.fieldLink RX2 23 "FutexKernel" "endedWaits" "I", Cond.fieldLink RX2 153 "FutexKernel$Task" "serial" "I", Cond.methodLink RX2 139 yX2_leaveQueue, Cond.instanceMethod yX2_leaveQueue, Cond.selects RX2 yX2_leaveQueue yX2_leaveQueue, Cond.code yX2_leaveQueue cX2_leaveQueue 4 none, Cond.fieldLink RX2 166 "FutexKernel$Task" "deadline" "I"]
def wsX2_unlock_r4 : List Cond := [Cond.constant RX2 218 (2147483647), Cond.methodLink RX2 69 yX2_giveLock, Cond.instanceMethod yX2_giveLock, Cond.selects RX2 yX2_giveLock yX2_giveLock, Cond.code yX2_giveLock cX2_giveLock 5 none, Cond.constant RX2 83 (-2147483648), Cond.methodLink RX2 222 yX0_add, Cond.instanceMethod yX0_add, Cond.selects RX0 yX0_add yX0_add, Cond.code yX0_add cX0_add 2 none]
def wsX2_unlock : List Cond := .code yX2_unlock cX2_unlock 4 (some .int) :: ((wsX2_unlock_r1 ++ (wsX2_unlock_r2 ++ (wsX2_unlock_r3 ++ wsX2_unlock_r4))) ++ wsX10 ++ wsX20 ++ wsX00 ++ (vx_atS RX2 88 "java/lang/IllegalStateException" ["java/lang/RuntimeException", "java/lang/Exception"]).filter goodWord ++ (vx_atS RX2 109 "java/lang/IndexOutOfBoundsException" ["java/lang/RuntimeException", "java/lang/Exception"]).filter goodWord)
def wsX2_locks : List Cond := .code yX2_locks cX2_locks 2 (some .int) :: ([.fieldLink RX2 89 "FutexKernel$Task" "held" "LFutexKernel$LockList;", .fieldLink RX2 102 "FutexKernel$LockList" "size" "I", .methodLink RX2 35 yX2_taskOf, .instanceMethod yX2_taskOf, .selects RX2 yX2_taskOf yX2_taskOf, .initialized RX2, .code yX2_taskOf cX2_taskOf 2 (some (.object "FutexKernel$Task")), .classLink RX2 105 "java/lang/IndexOutOfBoundsException", .initialized "java/lang/IndexOutOfBoundsException", .fieldLink RX2 15 "FutexKernel" "tasks" "[LFutexKernel$Task;"] ++ wsX10 ++ wsX00 ++ wsX20 ++ (vx_atS RX2 109 "java/lang/IndexOutOfBoundsException" ["java/lang/RuntimeException", "java/lang/Exception"]).filter goodWord)
def wsX2_lockAt : List Cond := .code yX2_lockAt cX2_lockAt 4 (some .int) :: ([.classLink RX2 105 "java/lang/IndexOutOfBoundsException", .initialized "java/lang/IndexOutOfBoundsException", .fieldLink RX2 89 "FutexKernel$Task" "held" "LFutexKernel$LockList;", .fieldLink RX2 102 "FutexKernel$LockList" "size" "I", .methodLink RX2 35 yX2_taskOf, .instanceMethod yX2_taskOf, .selects RX2 yX2_taskOf yX2_taskOf, .initialized RX2, .code yX2_taskOf cX2_taskOf 2 (some (.object "FutexKernel$Task")), .fieldLink RX2 15 "FutexKernel" "tasks" "[LFutexKernel$Task;", .methodLink RX2 110 yX0_addressAt, .instanceMethod yX0_addressAt, .selects RX0 yX0_addressAt yX0_addressAt, .initialized RX0, .code yX0_addressAt cX0_addressAt 2 (some .int), .fieldLink RX0 15 "FutexKernel$LockList" "size" "I", .fieldLink RX0 9 "FutexKernel$LockList" "addresses" "[I"] ++ wsX10 ++ wsX00 ++ wsX20 ++ (vx_atS RX2 109 "java/lang/IndexOutOfBoundsException" ["java/lang/RuntimeException", "java/lang/Exception"]).filter goodWord)
def wsX2_blockedByOneOf : List Cond := .code yX2_blockedByOneOf cX2_blockedByOneOf 8 (some .int) :: ([.fieldLink RX2 15 "FutexKernel" "tasks" "[LFutexKernel$Task;", .fieldLink RX2 76 "FutexKernel$Task" "state" "I", .fieldLink RX2 156 "FutexKernel$Task" "address" "I", .methodLink RX2 73 yX2_ownerAt, .instanceMethod yX2_ownerAt, .selects RX2 yX2_ownerAt yX2_ownerAt, .initialized RX2, .code yX2_ownerAt cX2_ownerAt 3 (some (.object "FutexKernel$Task")), .fieldLink RX2 9 "FutexKernel" "words" "[I", .methodLink RX2 186 yX2_isAddress, .static yX2_isAddress, .code yX2_isAddress cX2_isAddress 1 (some .boolean), .methodLink RX2 114 yX1_bit, .instanceMethod yX1_bit, .selects RX1 yX1_bit yX1_bit, .initialized RX1, .code yX1_bit cX1_bit 1 (some .int), .fieldLink RX1 46 "FutexKernel$Task" "number" "I"] ++ wsX20 ++ wsX10)
def wsJ6_bitCount_0f7a4 : List Cond := .code yJ6_bitCount_0f7a4 cJ6_bitCount_0f7a4 1 (some .int) :: ([.constant RJ6 265 (1431655765), .constant RJ6 266 (858993459), .constant RJ6 267 (252645135)])
def wsX2_blockedBy_r1 : List Cond := [Cond.methodLink RX2 35 yX2_taskOf, Cond.instanceMethod yX2_taskOf, Cond.selects RX2 yX2_taskOf yX2_taskOf, Cond.initialized RX2, Cond.code yX2_taskOf cX2_taskOf 2 (some (.object "FutexKernel$Task")), Cond.classLink RX2 105 "java/lang/IndexOutOfBoundsException", Cond.initialized "java/lang/IndexOutOfBoundsException", Cond.fieldLink RX2 15 "FutexKernel" "tasks" "[LFutexKernel$Task;", Cond.methodLink RX2 114 yX1_bit, Cond.instanceMethod yX1_bit, Cond.selects RX1 yX1_bit yX1_bit, Cond.initialized RX1, Cond.code yX1_bit cX1_bit 1 (some .int), Cond.fieldLink RX1 46 "FutexKernel$Task" "number" "I", Cond.methodLink RX2 118 yX2_blockedByOneOf, Cond.instanceMethod yX2_blockedByOneOf, Cond.selects RX2 yX2_blockedByOneOf yX2_blockedByOneOf, Cond.code yX2_blockedByOneOf cX2_blockedByOneOf 8 (some .int), Cond.fieldLink RX2 76 "FutexKernel$Task" "state" "I", Cond.fieldLink RX2 156 "FutexKernel$Task" "address" "I", Cond.methodLink RX2 73 yX2_ownerAt, Cond.instanceMethod yX2_ownerAt, Cond.selects RX2 yX2_ownerAt yX2_ownerAt, Cond.code yX2_ownerAt cX2_ownerAt 3 (some (.object "FutexKernel$Task"))]
def wsX2_blockedBy_r2 : List Cond := [Cond.fieldLink RX2 9 "FutexKernel" "words" "[I", Cond.methodLink RX2 186 yX2_isAddress, Cond.static yX2_isAddress, Cond.code yX2_isAddress cX2_isAddress 1 (some .boolean), Cond.methodLink RX2 121 yJ6_bitCount_0f7a4, Cond.static yJ6_bitCount_0f7a4, Cond.initialized RJ6, Cond.code yJ6_bitCount_0f7a4 cJ6_bitCount_0f7a4 1 (some .int), Cond.constant RJ6 265 (1431655765), Cond.constant RJ6 266 (858993459), Cond.constant RJ6 267 (252645135)]
def wsX2_blockedBy : List Cond := .code yX2_blockedBy cX2_blockedBy 4 (some .int) :: ((wsX2_blockedBy_r1 ++ wsX2_blockedBy_r2) ++ wsX20 ++ wsX10 ++ (vx_atS RX2 109 "java/lang/IndexOutOfBoundsException" ["java/lang/RuntimeException", "java/lang/Exception"]).filter goodWord)
def wsX2_interrupt_r1 : List Cond := [Cond.classLink RX2 84 "java/lang/IllegalStateException", Cond.initialized "java/lang/IllegalStateException", Cond.methodLink RX2 35 yX2_taskOf, Cond.instanceMethod yX2_taskOf, Cond.selects RX2 yX2_taskOf yX2_taskOf, Cond.initialized RX2, Cond.code yX2_taskOf cX2_taskOf 2 (some (.object "FutexKernel$Task")), Cond.classLink RX2 105 "java/lang/IndexOutOfBoundsException", Cond.initialized "java/lang/IndexOutOfBoundsException", Cond.fieldLink RX2 15 "FutexKernel" "tasks" "[LFutexKernel$Task;", Cond.methodLink RX2 126 yX1_isQueued, Cond.instanceMethod yX1_isQueued, Cond.selects RX1 yX1_isQueued yX1_isQueued, Cond.initialized RX1, Cond.code yX1_isQueued cX1_isQueued 1 (some .boolean), Cond.fieldLink RX1 25 "FutexKernel$Task" "address" "I", Cond.methodLink RX2 132 yX2_endWait, Cond.instanceMethod yX2_endWait, Cond.selects RX2 yX2_endWait yX2_endWait, Cond.code yX2_endWait cX2_endWait 3 none, Cond.fieldLink RX2 150 "FutexKernel$Task" "result" "I", Cond.fieldLink RX2 23 "FutexKernel" "endedWaits" "I", Cond.fieldLink RX2 153 "FutexKernel$Task" "serial" "I", Cond.methodLink RX2 139 yX2_leaveQueue]
def wsX2_interrupt_r2 : List Cond := [Cond.instanceMethod yX2_leaveQueue, Cond.selects RX2 yX2_leaveQueue yX2_leaveQueue, Cond.code yX2_leaveQueue cX2_leaveQueue 4 none, Cond.fieldLink RX2 156 "FutexKernel$Task" "address" "I", Cond.fieldLink RX2 76 "FutexKernel$Task" "state" "I", Cond.fieldLink RX2 166 "FutexKernel$Task" "deadline" "I", Cond.fieldLink RX2 9 "FutexKernel" "words" "[I", Cond.constant RX2 218 (2147483647), Cond.methodLink RX2 186 yX2_isAddress, Cond.static yX2_isAddress, Cond.code yX2_isAddress cX2_isAddress 1 (some .boolean), Cond.methodLink RX2 215 yX2_firstLockingAt, Cond.instanceMethod yX2_firstLockingAt, Cond.selects RX2 yX2_firstLockingAt yX2_firstLockingAt, Cond.code yX2_firstLockingAt cX2_firstLockingAt 2 (some (.object "FutexKernel$Task")), Cond.methodLink RX2 208 yX2_firstAt, Cond.instanceMethod yX2_firstAt, Cond.selects RX2 yX2_firstAt yX2_firstAt, Cond.code yX2_firstAt cX2_firstAt 10 (some (.object "FutexKernel$Task")), Cond.fieldLink RX2 205 "FutexKernel$Task" "mask" "I", Cond.methodLink RX2 201 yX1_isAheadOf, Cond.instanceMethod yX1_isAheadOf, Cond.selects RX1 yX1_isAheadOf yX1_isAheadOf, Cond.code yX1_isAheadOf cX1_isAheadOf 2 (some .boolean)]
def wsX2_interrupt_r3 : List Cond := [Cond.fieldLink RX1 22 "FutexKernel$Task" "priority" "I", Cond.fieldLink RX1 37 "FutexKernel$Task" "joined" "I"]
def wsX2_interrupt : List Cond := .code yX2_interrupt cX2_interrupt 3 none :: ((wsX2_interrupt_r1 ++ (wsX2_interrupt_r2 ++ wsX2_interrupt_r3)) ++ wsX20 ++ wsX10 ++ (vx_atS RX2 88 "java/lang/IllegalStateException" ["java/lang/RuntimeException", "java/lang/Exception"]).filter goodWord ++ (vx_atS RX2 109 "java/lang/IndexOutOfBoundsException" ["java/lang/RuntimeException", "java/lang/Exception"]).filter goodWord)
def wsX2_requireAlive : List Cond := .code yX2_requireAlive cX2_requireAlive 1 none :: ([.classLink RX2 84 "java/lang/IllegalStateException", .initialized "java/lang/IllegalStateException", .fieldLink RX2 76 "FutexKernel$Task" "state" "I"] ++ wsX10 ++ (vx_atS RX2 88 "java/lang/IllegalStateException" ["java/lang/RuntimeException", "java/lang/Exception"]).filter goodWord)
def wsX2_exit_r1 : List Cond := [Cond.fieldLink RX2 76 "FutexKernel$Task" "state" "I", Cond.fieldLink RX2 89 "FutexKernel$Task" "held" "LFutexKernel$LockList;", Cond.fieldLink RX2 102 "FutexKernel$LockList" "size" "I", Cond.methodLink RX2 35 yX2_taskOf, Cond.instanceMethod yX2_taskOf, Cond.selects RX2 yX2_taskOf yX2_taskOf, Cond.initialized RX2, Cond.code yX2_taskOf cX2_taskOf 2 (some (.object "FutexKernel$Task")), Cond.classLink RX2 105 "java/lang/IndexOutOfBoundsException", Cond.initialized "java/lang/IndexOutOfBoundsException", Cond.fieldLink RX2 15 "FutexKernel" "tasks" "[LFutexKernel$Task;", Cond.methodLink RX2 136 yX2_requireAlive, Cond.static yX2_requireAlive, Cond.code yX2_requireAlive cX2_requireAlive 1 none, Cond.classLink RX2 84 "java/lang/IllegalStateException", Cond.initialized "java/lang/IllegalStateException", Cond.methodLink RX2 126 yX1_isQueued, Cond.instanceMethod yX1_isQueued, Cond.selects RX1 yX1_isQueued yX1_isQueued, Cond.initialized RX1, Cond.code yX1_isQueued cX1_isQueued 1 (some .boolean), Cond.fieldLink RX1 25 "FutexKernel$Task" "address" "I", Cond.methodLink RX2 139 yX2_leaveQueue, Cond.instanceMethod yX2_leaveQueue]
def wsX2_exit_r2 : List Cond := [Cond.selects RX2 yX2_leaveQueue yX2_leaveQueue, Cond.code yX2_leaveQueue cX2_leaveQueue 4 none, Cond.fieldLink RX2 156 "FutexKernel$Task" "address" "I", Cond.fieldLink RX2 166 "FutexKernel$Task" "deadline" "I", Cond.fieldLink RX2 9 "FutexKernel" "words" "[I", Cond.constant RX2 218 (2147483647), Cond.methodLink RX2 186 yX2_isAddress, Cond.static yX2_isAddress, Cond.code yX2_isAddress cX2_isAddress 1 (some .boolean), Cond.methodLink RX2 215 yX2_firstLockingAt, Cond.instanceMethod yX2_firstLockingAt, Cond.selects RX2 yX2_firstLockingAt yX2_firstLockingAt, Cond.code yX2_firstLockingAt cX2_firstLockingAt 2 (some (.object "FutexKernel$Task")), Cond.methodLink RX2 208 yX2_firstAt, Cond.instanceMethod yX2_firstAt, Cond.selects RX2 yX2_firstAt yX2_firstAt, Cond.code yX2_firstAt cX2_firstAt 10 (some (.object "FutexKernel$Task")), Cond.fieldLink RX2 205 "FutexKernel$Task" "mask" "I", Cond.methodLink RX2 201 yX1_isAheadOf, Cond.instanceMethod yX1_isAheadOf, Cond.selects RX1 yX1_isAheadOf yX1_isAheadOf, Cond.code yX1_isAheadOf cX1_isAheadOf 2 (some .boolean), Cond.fieldLink RX1 22 "FutexKernel$Task" "priority" "I", Cond.fieldLink RX1 37 "FutexKernel$Task" "joined" "I"]
def wsX2_exit_r3 : List Cond := [Cond.methodLink RX2 110 yX0_addressAt, Cond.instanceMethod yX0_addressAt, Cond.selects RX0 yX0_addressAt yX0_addressAt, Cond.initialized RX0, Cond.code yX0_addressAt cX0_addressAt 2 (some .int), Cond.fieldLink RX0 15 "FutexKernel$LockList" "size" "I", Cond.fieldLink RX0 9 "FutexKernel$LockList" "addresses" "[I", Cond.methodLink RX2 73 yX2_ownerAt, Cond.instanceMethod yX2_ownerAt, Cond.selects RX2 yX2_ownerAt yX2_ownerAt, Cond.code yX2_ownerAt cX2_ownerAt 3 (some (.object "FutexKernel$Task")), Cond.methodLink RX2 98 yX2_passOn, Cond.instanceMethod yX2_passOn, Cond.selects RX2 yX2_passOn yX2_passOn, Cond.code yX2_passOn cX2_passOn 5 (some .int), Cond.constant RX2 68 (1073741824), Cond.fieldLink RX2 173 "FutexKernel$Task" "number" "I", Cond.methodLink RX2 132 yX2_endWait, Cond.instanceMethod yX2_endWait, Cond.selects RX2 yX2_endWait yX2_endWait, Cond.code yX2_endWait cX2_endWait 3 none, Cond.fieldLink RX2 150 "FutexKernel$Task" "result" "I", Cond.fieldLink RX2 23 "FutexKernel" "endedWaits" "I", Cond.fieldLink RX2 153 "FutexKernel$Task" "serial" "I"]
def wsX2_exit_r4 : List Cond := [Cond.methodLink RX2 69 yX2_giveLock, Cond.instanceMethod yX2_giveLock, Cond.selects RX2 yX2_giveLock yX2_giveLock, Cond.code yX2_giveLock cX2_giveLock 5 none, Cond.constant RX2 83 (-2147483648), Cond.methodLink RX2 222 yX0_add, Cond.instanceMethod yX0_add, Cond.selects RX0 yX0_add yX0_add, Cond.code yX0_add cX0_add 2 none, Cond.methodLink RX0 19 yX0_placeOf, Cond.instanceMethod yX0_placeOf, Cond.selects RX0 yX0_placeOf yX0_placeOf, Cond.code yX0_placeOf cX0_placeOf 3 (some .int), Cond.methodLink RX2 142 yX0_clear, Cond.instanceMethod yX0_clear, Cond.selects RX0 yX0_clear yX0_clear, Cond.code yX0_clear cX0_clear 1 none]
def wsX2_exit : List Cond := .code yX2_exit cX2_exit 7 (some .int) :: ((wsX2_exit_r1 ++ (wsX2_exit_r2 ++ (wsX2_exit_r3 ++ wsX2_exit_r4))) ++ wsX10 ++ wsX00 ++ wsX20 ++ (vx_atS RX2 109 "java/lang/IndexOutOfBoundsException" ["java/lang/RuntimeException", "java/lang/Exception"]).filter goodWord ++ (vx_atS RX2 88 "java/lang/IllegalStateException" ["java/lang/RuntimeException", "java/lang/Exception"]).filter goodWord)
def wsX2_start : List Cond := .code yX2_start cX2_start 3 none :: ([.classLink RX2 84 "java/lang/IllegalStateException", .initialized "java/lang/IllegalStateException", .fieldLink RX2 76 "FutexKernel$Task" "state" "I", .fieldLink RX2 147 "FutexKernel$Task" "priority" "I", .fieldLink RX2 150 "FutexKernel$Task" "result" "I", .fieldLink RX2 153 "FutexKernel$Task" "serial" "I", .methodLink RX2 35 yX2_taskOf, .instanceMethod yX2_taskOf, .selects RX2 yX2_taskOf yX2_taskOf, .initialized RX2, .code yX2_taskOf cX2_taskOf 2 (some (.object "FutexKernel$Task")), .classLink RX2 105 "java/lang/IndexOutOfBoundsException", .initialized "java/lang/IndexOutOfBoundsException", .fieldLink RX2 15 "FutexKernel" "tasks" "[LFutexKernel$Task;"] ++ wsX10 ++ wsX20 ++ (vx_atS RX2 88 "java/lang/IllegalStateException" ["java/lang/RuntimeException", "java/lang/Exception"]).filter goodWord ++ (vx_atS RX2 109 "java/lang/IndexOutOfBoundsException" ["java/lang/RuntimeException", "java/lang/Exception"]).filter goodWord)
def wsX2_setPriority_r1 : List Cond := [Cond.fieldLink RX2 147 "FutexKernel$Task" "priority" "I", Cond.fieldLink RX2 156 "FutexKernel$Task" "address" "I", Cond.methodLink RX2 35 yX2_taskOf, Cond.instanceMethod yX2_taskOf, Cond.selects RX2 yX2_taskOf yX2_taskOf, Cond.initialized RX2, Cond.code yX2_taskOf cX2_taskOf 2 (some (.object "FutexKernel$Task")), Cond.classLink RX2 105 "java/lang/IndexOutOfBoundsException", Cond.initialized "java/lang/IndexOutOfBoundsException", Cond.fieldLink RX2 15 "FutexKernel" "tasks" "[LFutexKernel$Task;", Cond.methodLink RX2 46 yX2_requireBetween, Cond.static yX2_requireBetween, Cond.code yX2_requireBetween cX2_requireBetween 3 none, Cond.classLink RX2 58 "java/lang/IllegalArgumentException", Cond.initialized "java/lang/IllegalArgumentException", Cond.methodLink RX2 136 yX2_requireAlive, Cond.static yX2_requireAlive, Cond.code yX2_requireAlive cX2_requireAlive 1 none, Cond.classLink RX2 84 "java/lang/IllegalStateException", Cond.initialized "java/lang/IllegalStateException", Cond.fieldLink RX2 76 "FutexKernel$Task" "state" "I", Cond.methodLink RX2 126 yX1_isQueued, Cond.instanceMethod yX1_isQueued, Cond.selects RX1 yX1_isQueued yX1_isQueued]
def wsX2_setPriority_r2 : List Cond := [Cond.initialized RX1, Cond.code yX1_isQueued cX1_isQueued 1 (some .boolean), Cond.fieldLink RX1 25 "FutexKernel$Task" "address" "I", Cond.methodLink RX2 159 yX2_joinQueue, Cond.instanceMethod yX2_joinQueue, Cond.selects RX2 yX2_joinQueue yX2_joinQueue, Cond.code yX2_joinQueue cX2_joinQueue 3 none, Cond.fieldLink RX2 29 "FutexKernel" "joins" "I", Cond.fieldLink RX2 198 "FutexKernel$Task" "joined" "I"]
def wsX2_setPriority : List Cond := .code yX2_setPriority cX2_setPriority 5 (some .int) :: ((wsX2_setPriority_r1 ++ wsX2_setPriority_r2) ++ wsX10 ++ wsX20 ++ (vx_atS RX2 109 "java/lang/IndexOutOfBoundsException" ["java/lang/RuntimeException", "java/lang/Exception"]).filter goodWord ++ (vx_atS RX2 62 "java/lang/IllegalArgumentException" ["java/lang/RuntimeException", "java/lang/Exception"]).filter goodWord ++ (vx_atS RX2 88 "java/lang/IllegalStateException" ["java/lang/RuntimeException", "java/lang/Exception"]).filter goodWord)
def wsX2_firstToTimeOut : List Cond := .code yX2_firstToTimeOut cX2_firstToTimeOut 6 (some (.object "FutexKernel$Task")) :: ([.fieldLink RX2 15 "FutexKernel" "tasks" "[LFutexKernel$Task;", .fieldLink RX2 166 "FutexKernel$Task" "deadline" "I", .methodLink RX2 219 yX1_timesOutBefore, .instanceMethod yX1_timesOutBefore, .selects RX1 yX1_timesOutBefore yX1_timesOutBefore, .initialized RX1, .code yX1_timesOutBefore cX1_timesOutBefore 2 (some .boolean), .fieldLink RX1 31 "FutexKernel$Task" "deadline" "I", .fieldLink RX1 34 "FutexKernel$Task" "begun" "I"] ++ wsX20 ++ wsX10)
def wsX2_tick_r1 : List Cond := [Cond.fieldLink RX2 19 "FutexKernel" "time" "I", Cond.fieldLink RX2 166 "FutexKernel$Task" "deadline" "I", Cond.methodLink RX2 46 yX2_requireBetween, Cond.static yX2_requireBetween, Cond.initialized RX2, Cond.code yX2_requireBetween cX2_requireBetween 3 none, Cond.classLink RX2 58 "java/lang/IllegalArgumentException", Cond.initialized "java/lang/IllegalArgumentException", Cond.methodLink RX2 162 yX2_firstToTimeOut, Cond.instanceMethod yX2_firstToTimeOut, Cond.selects RX2 yX2_firstToTimeOut yX2_firstToTimeOut, Cond.code yX2_firstToTimeOut cX2_firstToTimeOut 6 (some (.object "FutexKernel$Task")), Cond.fieldLink RX2 15 "FutexKernel" "tasks" "[LFutexKernel$Task;", Cond.methodLink RX2 219 yX1_timesOutBefore, Cond.instanceMethod yX1_timesOutBefore, Cond.selects RX1 yX1_timesOutBefore yX1_timesOutBefore, Cond.initialized RX1, Cond.code yX1_timesOutBefore cX1_timesOutBefore 2 (some .boolean), Cond.fieldLink RX1 31 "FutexKernel$Task" "deadline" "I", Cond.fieldLink RX1 34 "FutexKernel$Task" "begun" "I", Cond.methodLink RX2 132 yX2_endWait, Cond.instanceMethod yX2_endWait, Cond.selects RX2 yX2_endWait yX2_endWait, Cond.code yX2_endWait cX2_endWait 3 none]
def wsX2_tick_r2 : List Cond := [Cond.fieldLink RX2 150 "FutexKernel$Task" "result" "I", Cond.fieldLink RX2 23 "FutexKernel" "endedWaits" "I", Cond.fieldLink RX2 153 "FutexKernel$Task" "serial" "I", Cond.methodLink RX2 139 yX2_leaveQueue, Cond.instanceMethod yX2_leaveQueue, Cond.selects RX2 yX2_leaveQueue yX2_leaveQueue, Cond.code yX2_leaveQueue cX2_leaveQueue 4 none, Cond.fieldLink RX2 156 "FutexKernel$Task" "address" "I", Cond.fieldLink RX2 76 "FutexKernel$Task" "state" "I", Cond.fieldLink RX2 9 "FutexKernel" "words" "[I", Cond.constant RX2 218 (2147483647), Cond.methodLink RX2 186 yX2_isAddress, Cond.static yX2_isAddress, Cond.code yX2_isAddress cX2_isAddress 1 (some .boolean), Cond.methodLink RX2 215 yX2_firstLockingAt, Cond.instanceMethod yX2_firstLockingAt, Cond.selects RX2 yX2_firstLockingAt yX2_firstLockingAt, Cond.code yX2_firstLockingAt cX2_firstLockingAt 2 (some (.object "FutexKernel$Task")), Cond.methodLink RX2 208 yX2_firstAt, Cond.instanceMethod yX2_firstAt, Cond.selects RX2 yX2_firstAt yX2_firstAt, Cond.code yX2_firstAt cX2_firstAt 10 (some (.object "FutexKernel$Task")), Cond.fieldLink RX2 205 "FutexKernel$Task" "mask" "I", Cond.methodLink RX2 201 yX1_isAheadOf]
def wsX2_tick_r3 : List Cond := [Cond.instanceMethod yX1_isAheadOf, Cond.selects RX1 yX1_isAheadOf yX1_isAheadOf, Cond.code yX1_isAheadOf cX1_isAheadOf 2 (some .boolean), Cond.fieldLink RX1 22 "FutexKernel$Task" "priority" "I", Cond.fieldLink RX1 37 "FutexKernel$Task" "joined" "I"]
def wsX2_tick : List Cond := .code yX2_tick cX2_tick 6 (some .int) :: ((wsX2_tick_r1 ++ (wsX2_tick_r2 ++ wsX2_tick_r3)) ++ wsX20 ++ wsX10 ++ (vx_atS RX2 62 "java/lang/IllegalArgumentException" ["java/lang/RuntimeException", "java/lang/Exception"]).filter goodWord)
def wsX2_now : List Cond := .code yX2_now cX2_now 1 (some .int) :: ([.fieldLink RX2 19 "FutexKernel" "time" "I"] ++ wsX20)
def wsX2_nextTimeout : List Cond := .code yX2_nextTimeout cX2_nextTimeout 2 (some .int) :: ([.fieldLink RX2 166 "FutexKernel$Task" "deadline" "I", .fieldLink RX2 19 "FutexKernel" "time" "I", .methodLink RX2 162 yX2_firstToTimeOut, .instanceMethod yX2_firstToTimeOut, .selects RX2 yX2_firstToTimeOut yX2_firstToTimeOut, .initialized RX2, .code yX2_firstToTimeOut cX2_firstToTimeOut 6 (some (.object "FutexKernel$Task")), .fieldLink RX2 15 "FutexKernel" "tasks" "[LFutexKernel$Task;", .methodLink RX2 219 yX1_timesOutBefore, .instanceMethod yX1_timesOutBefore, .selects RX1 yX1_timesOutBefore yX1_timesOutBefore, .initialized RX1, .code yX1_timesOutBefore cX1_timesOutBefore 2 (some .boolean), .fieldLink RX1 31 "FutexKernel$Task" "deadline" "I", .fieldLink RX1 34 "FutexKernel$Task" "begun" "I"] ++ wsX10 ++ wsX20)
def wsX2_stateOf : List Cond := .code yX2_stateOf cX2_stateOf 2 (some .int) :: ([.fieldLink RX2 76 "FutexKernel$Task" "state" "I", .methodLink RX2 35 yX2_taskOf, .instanceMethod yX2_taskOf, .selects RX2 yX2_taskOf yX2_taskOf, .initialized RX2, .code yX2_taskOf cX2_taskOf 2 (some (.object "FutexKernel$Task")), .classLink RX2 105 "java/lang/IndexOutOfBoundsException", .initialized "java/lang/IndexOutOfBoundsException", .fieldLink RX2 15 "FutexKernel" "tasks" "[LFutexKernel$Task;"] ++ wsX10 ++ wsX20 ++ (vx_atS RX2 109 "java/lang/IndexOutOfBoundsException" ["java/lang/RuntimeException", "java/lang/Exception"]).filter goodWord)
def wsX2_addressOf : List Cond := .code yX2_addressOf cX2_addressOf 2 (some .int) :: ([.fieldLink RX2 156 "FutexKernel$Task" "address" "I", .methodLink RX2 35 yX2_taskOf, .instanceMethod yX2_taskOf, .selects RX2 yX2_taskOf yX2_taskOf, .initialized RX2, .code yX2_taskOf cX2_taskOf 2 (some (.object "FutexKernel$Task")), .classLink RX2 105 "java/lang/IndexOutOfBoundsException", .initialized "java/lang/IndexOutOfBoundsException", .fieldLink RX2 15 "FutexKernel" "tasks" "[LFutexKernel$Task;"] ++ wsX10 ++ wsX20 ++ (vx_atS RX2 109 "java/lang/IndexOutOfBoundsException" ["java/lang/RuntimeException", "java/lang/Exception"]).filter goodWord)
def wsX2_resultOf : List Cond := .code yX2_resultOf cX2_resultOf 2 (some .int) :: ([.fieldLink RX2 150 "FutexKernel$Task" "result" "I", .methodLink RX2 35 yX2_taskOf, .instanceMethod yX2_taskOf, .selects RX2 yX2_taskOf yX2_taskOf, .initialized RX2, .code yX2_taskOf cX2_taskOf 2 (some (.object "FutexKernel$Task")), .classLink RX2 105 "java/lang/IndexOutOfBoundsException", .initialized "java/lang/IndexOutOfBoundsException", .fieldLink RX2 15 "FutexKernel" "tasks" "[LFutexKernel$Task;"] ++ wsX10 ++ wsX20 ++ (vx_atS RX2 109 "java/lang/IndexOutOfBoundsException" ["java/lang/RuntimeException", "java/lang/Exception"]).filter goodWord)
def wsX2_serialOf : List Cond := .code yX2_serialOf cX2_serialOf 2 (some .int) :: ([.fieldLink RX2 153 "FutexKernel$Task" "serial" "I", .methodLink RX2 35 yX2_taskOf, .instanceMethod yX2_taskOf, .selects RX2 yX2_taskOf yX2_taskOf, .initialized RX2, .code yX2_taskOf cX2_taskOf 2 (some (.object "FutexKernel$Task")), .classLink RX2 105 "java/lang/IndexOutOfBoundsException", .initialized "java/lang/IndexOutOfBoundsException", .fieldLink RX2 15 "FutexKernel" "tasks" "[LFutexKernel$Task;"] ++ wsX10 ++ wsX20 ++ (vx_atS RX2 109 "java/lang/IndexOutOfBoundsException" ["java/lang/RuntimeException", "java/lang/Exception"]).filter goodWord)
def wsX2_waiters : List Cond := .code yX2_waiters cX2_waiters 7 (some .int) :: ([.fieldLink RX2 15 "FutexKernel" "tasks" "[LFutexKernel$Task;", .fieldLink RX2 156 "FutexKernel$Task" "address" "I", .methodLink RX2 39 yX2_requireAddress, .static yX2_requireAddress, .initialized RX2, .code yX2_requireAddress cX2_requireAddress 1 none, .classLink RX2 105 "java/lang/IndexOutOfBoundsException", .initialized "java/lang/IndexOutOfBoundsException", .methodLink RX2 186 yX2_isAddress, .static yX2_isAddress, .code yX2_isAddress cX2_isAddress 1 (some .boolean)] ++ wsX20 ++ wsX10 ++ (vx_atS RX2 109 "java/lang/IndexOutOfBoundsException" ["java/lang/RuntimeException", "java/lang/Exception"]).filter goodWord)
def wsX2_countAheadAtAddress : List Cond := .code yX2_countAheadAtAddress cX2_countAheadAtAddress 7 (some .int) :: ([.fieldLink RX2 15 "FutexKernel" "tasks" "[LFutexKernel$Task;", .fieldLink RX2 156 "FutexKernel$Task" "address" "I", .methodLink RX2 201 yX1_isAheadOf, .instanceMethod yX1_isAheadOf, .selects RX1 yX1_isAheadOf yX1_isAheadOf, .initialized RX1, .code yX1_isAheadOf cX1_isAheadOf 2 (some .boolean), .fieldLink RX1 22 "FutexKernel$Task" "priority" "I", .fieldLink RX1 37 "FutexKernel$Task" "joined" "I"] ++ wsX20 ++ wsX10)
def wsX2_waiterAt : List Cond := .code yX2_waiterAt cX2_waiterAt 7 (some .int) :: ([.classLink RX2 105 "java/lang/IndexOutOfBoundsException", .initialized "java/lang/IndexOutOfBoundsException", .fieldLink RX2 15 "FutexKernel" "tasks" "[LFutexKernel$Task;", .fieldLink RX2 156 "FutexKernel$Task" "address" "I", .fieldLink RX2 173 "FutexKernel$Task" "number" "I", .methodLink RX2 39 yX2_requireAddress, .static yX2_requireAddress, .initialized RX2, .code yX2_requireAddress cX2_requireAddress 1 none, .methodLink RX2 186 yX2_isAddress, .static yX2_isAddress, .code yX2_isAddress cX2_isAddress 1 (some .boolean), .methodLink RX2 169 yX2_countAheadAtAddress, .instanceMethod yX2_countAheadAtAddress, .selects RX2 yX2_countAheadAtAddress yX2_countAheadAtAddress, .code yX2_countAheadAtAddress cX2_countAheadAtAddress 7 (some .int), .methodLink RX2 201 yX1_isAheadOf, .instanceMethod yX1_isAheadOf, .selects RX1 yX1_isAheadOf yX1_isAheadOf, .initialized RX1, .code yX1_isAheadOf cX1_isAheadOf 2 (some .boolean), .fieldLink RX1 22 "FutexKernel$Task" "priority" "I", .fieldLink RX1 37 "FutexKernel$Task" "joined" "I"] ++ wsX20 ++ wsX10 ++ (vx_atS RX2 109 "java/lang/IndexOutOfBoundsException" ["java/lang/RuntimeException", "java/lang/Exception"]).filter goodWord)
def wsX2_bucketOf : List Cond := .code yX2_bucketOf cX2_bucketOf 1 (some .int) :: ([])
def wsX2_countAheadInBucket : List Cond := .code yX2_countAheadInBucket cX2_countAheadInBucket 7 (some .int) :: ([.fieldLink RX2 15 "FutexKernel" "tasks" "[LFutexKernel$Task;", .fieldLink RX2 156 "FutexKernel$Task" "address" "I", .methodLink RX2 126 yX1_isQueued, .instanceMethod yX1_isQueued, .selects RX1 yX1_isQueued yX1_isQueued, .initialized RX1, .code yX1_isQueued cX1_isQueued 1 (some .boolean), .fieldLink RX1 25 "FutexKernel$Task" "address" "I", .methodLink RX2 178 yX2_bucketOf, .static yX2_bucketOf, .initialized RX2, .code yX2_bucketOf cX2_bucketOf 1 (some .int), .methodLink RX2 201 yX1_isAheadOf, .instanceMethod yX1_isAheadOf, .selects RX1 yX1_isAheadOf yX1_isAheadOf, .code yX1_isAheadOf cX1_isAheadOf 2 (some .boolean), .fieldLink RX1 22 "FutexKernel$Task" "priority" "I", .fieldLink RX1 37 "FutexKernel$Task" "joined" "I"] ++ wsX20 ++ wsX10)
def wsX2_queueAt_r1 : List Cond := [Cond.classLink RX2 105 "java/lang/IndexOutOfBoundsException", Cond.initialized "java/lang/IndexOutOfBoundsException", Cond.fieldLink RX2 15 "FutexKernel" "tasks" "[LFutexKernel$Task;", Cond.fieldLink RX2 156 "FutexKernel$Task" "address" "I", Cond.fieldLink RX2 173 "FutexKernel$Task" "number" "I", Cond.methodLink RX2 126 yX1_isQueued, Cond.instanceMethod yX1_isQueued, Cond.selects RX1 yX1_isQueued yX1_isQueued, Cond.initialized RX1, Cond.code yX1_isQueued cX1_isQueued 1 (some .boolean), Cond.fieldLink RX1 25 "FutexKernel$Task" "address" "I", Cond.methodLink RX2 178 yX2_bucketOf, Cond.static yX2_bucketOf, Cond.initialized RX2, Cond.code yX2_bucketOf cX2_bucketOf 1 (some .int), Cond.methodLink RX2 181 yX2_countAheadInBucket, Cond.instanceMethod yX2_countAheadInBucket, Cond.selects RX2 yX2_countAheadInBucket yX2_countAheadInBucket, Cond.code yX2_countAheadInBucket cX2_countAheadInBucket 7 (some .int), Cond.methodLink RX2 201 yX1_isAheadOf, Cond.instanceMethod yX1_isAheadOf, Cond.selects RX1 yX1_isAheadOf yX1_isAheadOf, Cond.code yX1_isAheadOf cX1_isAheadOf 2 (some .boolean), Cond.fieldLink RX1 22 "FutexKernel$Task" "priority" "I"]
def wsX2_queueAt_r2 : List Cond := [Cond.fieldLink RX1 37 "FutexKernel$Task" "joined" "I"]
def wsX2_queueAt : List Cond := .code yX2_queueAt cX2_queueAt 7 (some .int) :: ((wsX2_queueAt_r1 ++ wsX2_queueAt_r2) ++ wsX20 ++ wsX10 ++ (vx_atS RX2 109 "java/lang/IndexOutOfBoundsException" ["java/lang/RuntimeException", "java/lang/Exception"]).filter goodWord)
def wsX3_init : List Cond := .code yX3_init cX3_init 2 none :: ([.methodLink RX3 1 objectInit, .instanceMethod objectInit, .code objectInit ⟨#[0xb1]⟩ 1 none, .arrayClass .int, .fieldLink RX3 7 "FutexKernelModel" "word" "[I", .fieldLink RX3 13 "FutexKernelModel" "state" "[I", .fieldLink RX3 16 "FutexKernelModel" "priority" "[I", .fieldLink RX3 19 "FutexKernelModel" "result" "[I", .fieldLink RX3 22 "FutexKernelModel" "serial" "[I", .fieldLink RX3 25 "FutexKernelModel" "at" "[I", .fieldLink RX3 28 "FutexKernelModel" "mask" "[I", .fieldLink RX3 31 "FutexKernelModel" "deadline" "[I", .fieldLink RX3 34 "FutexKernelModel" "began" "[I", .fieldLink RX3 37 "FutexKernelModel" "joined" "[I", .fieldLink RX3 40 "FutexKernelModel" "many" "[I", .fieldLink RX3 43 "FutexKernelModel" "list" "[I"] ++ wsX30)
def wsX3_thrown : List Cond := .code yX3_thrown cX3_thrown 1 (some .int) :: ([.fieldLink RX3 46 "FutexKernelModel" "thrown" "I"] ++ wsX30)
def wsX3_fails : List Cond := .code yX3_fails cX3_fails 2 (some .int) :: ([.fieldLink RX3 46 "FutexKernelModel" "thrown" "I"] ++ wsX30)
def wsX3_asks : List Cond := .code yX3_asks cX3_asks 2 (some .boolean) :: ([.fieldLink RX3 46 "FutexKernelModel" "thrown" "I"] ++ wsX30)
def wsX3_isThread : List Cond := .code yX3_isThread cX3_isThread 1 (some .boolean) :: ([])
def wsX3_isAddress : List Cond := .code yX3_isAddress cX3_isAddress 1 (some .boolean) :: ([])
def wsX3_bucketOf : List Cond := .code yX3_bucketOf cX3_bucketOf 1 (some .int) :: ([])
def wsX3_isQueued : List Cond := .code yX3_isQueued cX3_isQueued 2 (some .boolean) :: ([.fieldLink RX3 13 "FutexKernelModel" "state" "[I"] ++ wsX30)
def wsX3_ownerOf : List Cond := .code yX3_ownerOf cX3_ownerOf 1 (some .int) :: ([])
def wsX3_key : List Cond := .code yX3_key cX3_key 2 (some .long) :: ([.fieldLink RX3 16 "FutexKernelModel" "priority" "[I", .constantLong RX3 50 (1000000000), .fieldLink RX3 37 "FutexKernelModel" "joined" "[I"] ++ wsX30)
def wsX3_first : List Cond := .code yX3_first cX3_first 7 (some .int) :: ([.fieldLink RX3 13 "FutexKernelModel" "state" "[I", .fieldLink RX3 25 "FutexKernelModel" "at" "[I", .fieldLink RX3 28 "FutexKernelModel" "mask" "[I", .methodLink RX3 52 yX3_key, .instanceMethod yX3_key, .selects RX3 yX3_key yX3_key, .initialized RX3, .code yX3_key cX3_key 2 (some .long), .fieldLink RX3 16 "FutexKernelModel" "priority" "[I", .constantLong RX3 50 (1000000000), .fieldLink RX3 37 "FutexKernelModel" "joined" "[I"] ++ wsX30)
def wsX3_isSomebodyLocking : List Cond := .code yX3_isSomebodyLocking cX3_isSomebodyLocking 2 (some .boolean) :: ([.methodLink RX3 56 yX3_first, .instanceMethod yX3_first, .selects RX3 yX3_first yX3_first, .initialized RX3, .code yX3_first cX3_first 7 (some .int), .fieldLink RX3 13 "FutexKernelModel" "state" "[I", .fieldLink RX3 25 "FutexKernelModel" "at" "[I", .fieldLink RX3 28 "FutexKernelModel" "mask" "[I", .methodLink RX3 52 yX3_key, .instanceMethod yX3_key, .selects RX3 yX3_key yX3_key, .code yX3_key cX3_key 2 (some .long), .fieldLink RX3 16 "FutexKernelModel" "priority" "[I", .constantLong RX3 50 (1000000000), .fieldLink RX3 37 "FutexKernelModel" "joined" "[I"] ++ wsX30)
def wsX3_joins : List Cond := .code yX3_joins cX3_joins 3 none :: ([.fieldLink RX3 25 "FutexKernelModel" "at" "[I", .fieldLink RX3 60 "FutexKernelModel" "joins" "I", .fieldLink RX3 37 "FutexKernelModel" "joined" "[I"] ++ wsX30)
def wsX3_leaves : List Cond := .code yX3_leaves cX3_leaves 4 none :: ([.fieldLink RX3 13 "FutexKernelModel" "state" "[I", .fieldLink RX3 25 "FutexKernelModel" "at" "[I", .fieldLink RX3 7 "FutexKernelModel" "word" "[I", .constant RX3 67 (2147483647), .methodLink RX3 63 yX3_isSomebodyLocking, .instanceMethod yX3_isSomebodyLocking, .selects RX3 yX3_isSomebodyLocking yX3_isSomebodyLocking, .initialized RX3, .code yX3_isSomebodyLocking cX3_isSomebodyLocking 2 (some .boolean), .methodLink RX3 56 yX3_first, .instanceMethod yX3_first, .selects RX3 yX3_first yX3_first, .code yX3_first cX3_first 7 (some .int), .fieldLink RX3 28 "FutexKernelModel" "mask" "[I", .methodLink RX3 52 yX3_key, .instanceMethod yX3_key, .selects RX3 yX3_key yX3_key, .code yX3_key cX3_key 2 (some .long), .fieldLink RX3 16 "FutexKernelModel" "priority" "[I", .constantLong RX3 50 (1000000000), .fieldLink RX3 37 "FutexKernelModel" "joined" "[I"] ++ wsX30)
def wsX3_ends_r1 : List Cond := [Cond.fieldLink RX3 19 "FutexKernelModel" "result" "[I", Cond.fieldLink RX3 72 "FutexKernelModel" "ends" "I", Cond.fieldLink RX3 22 "FutexKernelModel" "serial" "[I", Cond.methodLink RX3 68 yX3_leaves, Cond.instanceMethod yX3_leaves, Cond.selects RX3 yX3_leaves yX3_leaves, Cond.initialized RX3, Cond.code yX3_leaves cX3_leaves 4 none, Cond.fieldLink RX3 13 "FutexKernelModel" "state" "[I", Cond.fieldLink RX3 25 "FutexKernelModel" "at" "[I", Cond.fieldLink RX3 7 "FutexKernelModel" "word" "[I", Cond.constant RX3 67 (2147483647), Cond.methodLink RX3 63 yX3_isSomebodyLocking, Cond.instanceMethod yX3_isSomebodyLocking, Cond.selects RX3 yX3_isSomebodyLocking yX3_isSomebodyLocking, Cond.code yX3_isSomebodyLocking cX3_isSomebodyLocking 2 (some .boolean), Cond.methodLink RX3 56 yX3_first, Cond.instanceMethod yX3_first, Cond.selects RX3 yX3_first yX3_first, Cond.code yX3_first cX3_first 7 (some .int), Cond.fieldLink RX3 28 "FutexKernelModel" "mask" "[I", Cond.methodLink RX3 52 yX3_key, Cond.instanceMethod yX3_key, Cond.selects RX3 yX3_key yX3_key]
def wsX3_ends_r2 : List Cond := [Cond.code yX3_key cX3_key 2 (some .long), Cond.fieldLink RX3 16 "FutexKernelModel" "priority" "[I", Cond.constantLong RX3 50 (1000000000), Cond.fieldLink RX3 37 "FutexKernelModel" "joined" "[I"]
def wsX3_ends : List Cond := .code yX3_ends cX3_ends 3 none :: ((wsX3_ends_r1 ++ wsX3_ends_r2) ++ wsX30)
def wsX3_waits : List Cond := .code yX3_waits cX3_waits 6 none :: ([.fieldLink RX3 13 "FutexKernelModel" "state" "[I", .fieldLink RX3 28 "FutexKernelModel" "mask" "[I", .fieldLink RX3 31 "FutexKernelModel" "deadline" "[I", .fieldLink RX3 75 "FutexKernelModel" "time" "I", .fieldLink RX3 78 "FutexKernelModel" "begins" "I", .fieldLink RX3 34 "FutexKernelModel" "began" "[I", .methodLink RX3 81 yX3_joins, .instanceMethod yX3_joins, .selects RX3 yX3_joins yX3_joins, .initialized RX3, .code yX3_joins cX3_joins 3 none, .fieldLink RX3 25 "FutexKernelModel" "at" "[I", .fieldLink RX3 60 "FutexKernelModel" "joins" "I", .fieldLink RX3 37 "FutexKernelModel" "joined" "[I"] ++ wsX30)
def wsX3_asksRunning : List Cond := .code yX3_asksRunning cX3_asksRunning 5 (some .boolean) :: ([.fieldLink RX3 13 "FutexKernelModel" "state" "[I", .fieldLink RX3 46 "FutexKernelModel" "thrown" "I", .methodLink RX3 83 yX3_isThread, .static yX3_isThread, .initialized RX3, .code yX3_isThread cX3_isThread 1 (some .boolean), .methodLink RX3 86 yX3_isAddress, .static yX3_isAddress, .code yX3_isAddress cX3_isAddress 1 (some .boolean)] ++ wsX30)
def wsX3_store : List Cond := .code yX3_store cX3_store 5 (some .int) :: ([.fieldLink RX3 7 "FutexKernelModel" "word" "[I", .methodLink RX3 89 yX3_asksRunning, .instanceMethod yX3_asksRunning, .selects RX3 yX3_asksRunning yX3_asksRunning, .initialized RX3, .code yX3_asksRunning cX3_asksRunning 5 (some .boolean), .fieldLink RX3 13 "FutexKernelModel" "state" "[I", .fieldLink RX3 46 "FutexKernelModel" "thrown" "I", .methodLink RX3 83 yX3_isThread, .static yX3_isThread, .code yX3_isThread cX3_isThread 1 (some .boolean), .methodLink RX3 86 yX3_isAddress, .static yX3_isAddress, .code yX3_isAddress cX3_isAddress 1 (some .boolean)] ++ wsX30)
def wsX3_compareAndSet : List Cond := .code yX3_compareAndSet cX3_compareAndSet 5 (some .boolean) :: ([.fieldLink RX3 7 "FutexKernelModel" "word" "[I", .methodLink RX3 89 yX3_asksRunning, .instanceMethod yX3_asksRunning, .selects RX3 yX3_asksRunning yX3_asksRunning, .initialized RX3, .code yX3_asksRunning cX3_asksRunning 5 (some .boolean), .fieldLink RX3 13 "FutexKernelModel" "state" "[I", .fieldLink RX3 46 "FutexKernelModel" "thrown" "I", .methodLink RX3 83 yX3_isThread, .static yX3_isThread, .code yX3_isThread cX3_isThread 1 (some .boolean), .methodLink RX3 86 yX3_isAddress, .static yX3_isAddress, .code yX3_isAddress cX3_isAddress 1 (some .boolean)] ++ wsX30)
def wsX3_fetchAdd : List Cond := .code yX3_fetchAdd cX3_fetchAdd 5 (some .int) :: ([.fieldLink RX3 7 "FutexKernelModel" "word" "[I", .methodLink RX3 89 yX3_asksRunning, .instanceMethod yX3_asksRunning, .selects RX3 yX3_asksRunning yX3_asksRunning, .initialized RX3, .code yX3_asksRunning cX3_asksRunning 5 (some .boolean), .fieldLink RX3 13 "FutexKernelModel" "state" "[I", .fieldLink RX3 46 "FutexKernelModel" "thrown" "I", .methodLink RX3 83 yX3_isThread, .static yX3_isThread, .code yX3_isThread cX3_isThread 1 (some .boolean), .methodLink RX3 86 yX3_isAddress, .static yX3_isAddress, .code yX3_isAddress cX3_isAddress 1 (some .boolean)] ++ wsX30)
def wsX3_word : List Cond := .code yX3_word cX3_word 2 (some .int) :: ([.fieldLink RX3 7 "FutexKernelModel" "word" "[I", .methodLink RX3 86 yX3_isAddress, .static yX3_isAddress, .initialized RX3, .code yX3_isAddress cX3_isAddress 1 (some .boolean), .methodLink RX3 93 yX3_asks, .instanceMethod yX3_asks, .selects RX3 yX3_asks yX3_asks, .code yX3_asks cX3_asks 2 (some .boolean), .fieldLink RX3 46 "FutexKernelModel" "thrown" "I"] ++ wsX30)
def wsX3_isMask : List Cond := .code yX3_isMask cX3_isMask 1 (some .boolean) :: ([])
def wsX3_isTimeout : List Cond := .code yX3_isTimeout cX3_isTimeout 1 (some .boolean) :: ([])
def wsX3_await_r1 : List Cond := [Cond.fieldLink RX3 7 "FutexKernelModel" "word" "[I", Cond.methodLink RX3 97 yX3_isMask, Cond.static yX3_isMask, Cond.initialized RX3, Cond.code yX3_isMask cX3_isMask 1 (some .boolean), Cond.methodLink RX3 100 yX3_isTimeout, Cond.static yX3_isTimeout, Cond.code yX3_isTimeout cX3_isTimeout 1 (some .boolean), Cond.methodLink RX3 89 yX3_asksRunning, Cond.instanceMethod yX3_asksRunning, Cond.selects RX3 yX3_asksRunning yX3_asksRunning, Cond.code yX3_asksRunning cX3_asksRunning 5 (some .boolean), Cond.fieldLink RX3 13 "FutexKernelModel" "state" "[I", Cond.fieldLink RX3 46 "FutexKernelModel" "thrown" "I", Cond.methodLink RX3 83 yX3_isThread, Cond.static yX3_isThread, Cond.code yX3_isThread cX3_isThread 1 (some .boolean), Cond.methodLink RX3 86 yX3_isAddress, Cond.static yX3_isAddress, Cond.code yX3_isAddress cX3_isAddress 1 (some .boolean), Cond.methodLink RX3 103 yX3_waits, Cond.instanceMethod yX3_waits, Cond.selects RX3 yX3_waits yX3_waits, Cond.code yX3_waits cX3_waits 6 none]
def wsX3_await_r2 : List Cond := [Cond.fieldLink RX3 28 "FutexKernelModel" "mask" "[I", Cond.fieldLink RX3 31 "FutexKernelModel" "deadline" "[I", Cond.fieldLink RX3 75 "FutexKernelModel" "time" "I", Cond.fieldLink RX3 78 "FutexKernelModel" "begins" "I", Cond.fieldLink RX3 34 "FutexKernelModel" "began" "[I", Cond.methodLink RX3 81 yX3_joins, Cond.instanceMethod yX3_joins, Cond.selects RX3 yX3_joins yX3_joins, Cond.code yX3_joins cX3_joins 3 none, Cond.fieldLink RX3 25 "FutexKernelModel" "at" "[I", Cond.fieldLink RX3 60 "FutexKernelModel" "joins" "I", Cond.fieldLink RX3 37 "FutexKernelModel" "joined" "[I"]
def wsX3_await : List Cond := .code yX3_await cX3_await 6 (some .boolean) :: ((wsX3_await_r1 ++ wsX3_await_r2) ++ wsX30)
def wsX3_wakes_r1 : List Cond := [Cond.methodLink RX3 56 yX3_first, Cond.instanceMethod yX3_first, Cond.selects RX3 yX3_first yX3_first, Cond.initialized RX3, Cond.code yX3_first cX3_first 7 (some .int), Cond.fieldLink RX3 13 "FutexKernelModel" "state" "[I", Cond.fieldLink RX3 25 "FutexKernelModel" "at" "[I", Cond.fieldLink RX3 28 "FutexKernelModel" "mask" "[I", Cond.methodLink RX3 52 yX3_key, Cond.instanceMethod yX3_key, Cond.selects RX3 yX3_key yX3_key, Cond.code yX3_key cX3_key 2 (some .long), Cond.fieldLink RX3 16 "FutexKernelModel" "priority" "[I", Cond.constantLong RX3 50 (1000000000), Cond.fieldLink RX3 37 "FutexKernelModel" "joined" "[I", Cond.methodLink RX3 107 yX3_ends, Cond.instanceMethod yX3_ends, Cond.selects RX3 yX3_ends yX3_ends, Cond.code yX3_ends cX3_ends 3 none, Cond.fieldLink RX3 19 "FutexKernelModel" "result" "[I", Cond.fieldLink RX3 72 "FutexKernelModel" "ends" "I", Cond.fieldLink RX3 22 "FutexKernelModel" "serial" "[I", Cond.methodLink RX3 68 yX3_leaves, Cond.instanceMethod yX3_leaves]
def wsX3_wakes_r2 : List Cond := [Cond.selects RX3 yX3_leaves yX3_leaves, Cond.code yX3_leaves cX3_leaves 4 none, Cond.fieldLink RX3 7 "FutexKernelModel" "word" "[I", Cond.constant RX3 67 (2147483647), Cond.methodLink RX3 63 yX3_isSomebodyLocking, Cond.instanceMethod yX3_isSomebodyLocking, Cond.selects RX3 yX3_isSomebodyLocking yX3_isSomebodyLocking, Cond.code yX3_isSomebodyLocking cX3_isSomebodyLocking 2 (some .boolean)]
def wsX3_wakes : List Cond := .code yX3_wakes cX3_wakes 6 (some .int) :: ((wsX3_wakes_r1 ++ wsX3_wakes_r2) ++ wsX30)
def wsX3_wake_r1 : List Cond := [Cond.methodLink RX3 97 yX3_isMask, Cond.static yX3_isMask, Cond.initialized RX3, Cond.code yX3_isMask cX3_isMask 1 (some .boolean), Cond.methodLink RX3 89 yX3_asksRunning, Cond.instanceMethod yX3_asksRunning, Cond.selects RX3 yX3_asksRunning yX3_asksRunning, Cond.code yX3_asksRunning cX3_asksRunning 5 (some .boolean), Cond.fieldLink RX3 13 "FutexKernelModel" "state" "[I", Cond.fieldLink RX3 46 "FutexKernelModel" "thrown" "I", Cond.methodLink RX3 83 yX3_isThread, Cond.static yX3_isThread, Cond.code yX3_isThread cX3_isThread 1 (some .boolean), Cond.methodLink RX3 86 yX3_isAddress, Cond.static yX3_isAddress, Cond.code yX3_isAddress cX3_isAddress 1 (some .boolean), Cond.methodLink RX3 109 yX3_wakes, Cond.instanceMethod yX3_wakes, Cond.selects RX3 yX3_wakes yX3_wakes, Cond.code yX3_wakes cX3_wakes 6 (some .int), Cond.methodLink RX3 56 yX3_first, Cond.instanceMethod yX3_first, Cond.selects RX3 yX3_first yX3_first, Cond.code yX3_first cX3_first 7 (some .int)]
def wsX3_wake_r2 : List Cond := [Cond.fieldLink RX3 25 "FutexKernelModel" "at" "[I", Cond.fieldLink RX3 28 "FutexKernelModel" "mask" "[I", Cond.methodLink RX3 52 yX3_key, Cond.instanceMethod yX3_key, Cond.selects RX3 yX3_key yX3_key, Cond.code yX3_key cX3_key 2 (some .long), Cond.fieldLink RX3 16 "FutexKernelModel" "priority" "[I", Cond.constantLong RX3 50 (1000000000), Cond.fieldLink RX3 37 "FutexKernelModel" "joined" "[I", Cond.methodLink RX3 107 yX3_ends, Cond.instanceMethod yX3_ends, Cond.selects RX3 yX3_ends yX3_ends, Cond.code yX3_ends cX3_ends 3 none, Cond.fieldLink RX3 19 "FutexKernelModel" "result" "[I", Cond.fieldLink RX3 72 "FutexKernelModel" "ends" "I", Cond.fieldLink RX3 22 "FutexKernelModel" "serial" "[I", Cond.methodLink RX3 68 yX3_leaves, Cond.instanceMethod yX3_leaves, Cond.selects RX3 yX3_leaves yX3_leaves, Cond.code yX3_leaves cX3_leaves 4 none, Cond.fieldLink RX3 7 "FutexKernelModel" "word" "[I", Cond.constant RX3 67 (2147483647), Cond.methodLink RX3 63 yX3_isSomebodyLocking, Cond.instanceMethod yX3_isSomebodyLocking]
def wsX3_wake_r3 : List Cond := [Cond.selects RX3 yX3_isSomebodyLocking yX3_isSomebodyLocking, Cond.code yX3_isSomebodyLocking cX3_isSomebodyLocking 2 (some .boolean)]
def wsX3_wake : List Cond := .code yX3_wake cX3_wake 5 (some .int) :: ((wsX3_wake_r1 ++ (wsX3_wake_r2 ++ wsX3_wake_r3)) ++ wsX30)
def wsX3_requeue_r1 : List Cond := [Cond.fieldLink RX3 13 "FutexKernelModel" "state" "[I", Cond.fieldLink RX3 7 "FutexKernelModel" "word" "[I", Cond.methodLink RX3 83 yX3_isThread, Cond.static yX3_isThread, Cond.initialized RX3, Cond.code yX3_isThread cX3_isThread 1 (some .boolean), Cond.methodLink RX3 86 yX3_isAddress, Cond.static yX3_isAddress, Cond.code yX3_isAddress cX3_isAddress 1 (some .boolean), Cond.methodLink RX3 93 yX3_asks, Cond.instanceMethod yX3_asks, Cond.selects RX3 yX3_asks yX3_asks, Cond.code yX3_asks cX3_asks 2 (some .boolean), Cond.fieldLink RX3 46 "FutexKernelModel" "thrown" "I", Cond.methodLink RX3 112 yX3_fails, Cond.instanceMethod yX3_fails, Cond.selects RX3 yX3_fails yX3_fails, Cond.code yX3_fails cX3_fails 2 (some .int), Cond.methodLink RX3 109 yX3_wakes, Cond.instanceMethod yX3_wakes, Cond.selects RX3 yX3_wakes yX3_wakes, Cond.code yX3_wakes cX3_wakes 6 (some .int), Cond.methodLink RX3 56 yX3_first, Cond.instanceMethod yX3_first]
def wsX3_requeue_r2 : List Cond := [Cond.selects RX3 yX3_first yX3_first, Cond.code yX3_first cX3_first 7 (some .int), Cond.fieldLink RX3 25 "FutexKernelModel" "at" "[I", Cond.fieldLink RX3 28 "FutexKernelModel" "mask" "[I", Cond.methodLink RX3 52 yX3_key, Cond.instanceMethod yX3_key, Cond.selects RX3 yX3_key yX3_key, Cond.code yX3_key cX3_key 2 (some .long), Cond.fieldLink RX3 16 "FutexKernelModel" "priority" "[I", Cond.constantLong RX3 50 (1000000000), Cond.fieldLink RX3 37 "FutexKernelModel" "joined" "[I", Cond.methodLink RX3 107 yX3_ends, Cond.instanceMethod yX3_ends, Cond.selects RX3 yX3_ends yX3_ends, Cond.code yX3_ends cX3_ends 3 none, Cond.fieldLink RX3 19 "FutexKernelModel" "result" "[I", Cond.fieldLink RX3 72 "FutexKernelModel" "ends" "I", Cond.fieldLink RX3 22 "FutexKernelModel" "serial" "[I", Cond.methodLink RX3 68 yX3_leaves, Cond.instanceMethod yX3_leaves, Cond.selects RX3 yX3_leaves yX3_leaves, Cond.code yX3_leaves cX3_leaves 4 none, Cond.constant RX3 67 (2147483647), Cond.methodLink RX3 63 yX3_isSomebodyLocking]
def wsX3_requeue_r3 : List Cond := [Cond.instanceMethod yX3_isSomebodyLocking, Cond.selects RX3 yX3_isSomebodyLocking yX3_isSomebodyLocking, Cond.code yX3_isSomebodyLocking cX3_isSomebodyLocking 2 (some .boolean), Cond.methodLink RX3 81 yX3_joins, Cond.instanceMethod yX3_joins, Cond.selects RX3 yX3_joins yX3_joins, Cond.code yX3_joins cX3_joins 3 none, Cond.fieldLink RX3 60 "FutexKernelModel" "joins" "I"]
def wsX3_requeue : List Cond := .code yX3_requeue cX3_requeue 10 (some .int) :: ((wsX3_requeue_r1 ++ (wsX3_requeue_r2 ++ wsX3_requeue_r3)) ++ wsX30)
def wsX3_place : List Cond := .code yX3_place cX3_place 5 (some .int) :: ([.fieldLink RX3 40 "FutexKernelModel" "many" "[I", .fieldLink RX3 43 "FutexKernelModel" "list" "[I"] ++ wsX30)
def wsX3_gets : List Cond := .code yX3_gets cX3_gets 3 none :: ([.fieldLink RX3 43 "FutexKernelModel" "list" "[I", .fieldLink RX3 40 "FutexKernelModel" "many" "[I", .methodLink RX3 116 yX3_place, .instanceMethod yX3_place, .selects RX3 yX3_place yX3_place, .initialized RX3, .code yX3_place cX3_place 5 (some .int)] ++ wsX30)
def wsX3_drops : List Cond := .code yX3_drops cX3_drops 4 none :: ([.fieldLink RX3 40 "FutexKernelModel" "many" "[I", .fieldLink RX3 43 "FutexKernelModel" "list" "[I", .methodLink RX3 116 yX3_place, .instanceMethod yX3_place, .selects RX3 yX3_place yX3_place, .initialized RX3, .code yX3_place cX3_place 5 (some .int)] ++ wsX30)
def wsX3_passes_r1 : List Cond := [Cond.constant RX3 120 (1073741824), Cond.fieldLink RX3 7 "FutexKernelModel" "word" "[I", Cond.constant RX3 121 (-2147483648), Cond.methodLink RX3 56 yX3_first, Cond.instanceMethod yX3_first, Cond.selects RX3 yX3_first yX3_first, Cond.initialized RX3, Cond.code yX3_first cX3_first 7 (some .int), Cond.fieldLink RX3 13 "FutexKernelModel" "state" "[I", Cond.fieldLink RX3 25 "FutexKernelModel" "at" "[I", Cond.fieldLink RX3 28 "FutexKernelModel" "mask" "[I", Cond.methodLink RX3 52 yX3_key, Cond.instanceMethod yX3_key, Cond.selects RX3 yX3_key yX3_key, Cond.code yX3_key cX3_key 2 (some .long), Cond.fieldLink RX3 16 "FutexKernelModel" "priority" "[I", Cond.constantLong RX3 50 (1000000000), Cond.fieldLink RX3 37 "FutexKernelModel" "joined" "[I", Cond.methodLink RX3 107 yX3_ends, Cond.instanceMethod yX3_ends, Cond.selects RX3 yX3_ends yX3_ends, Cond.code yX3_ends cX3_ends 3 none, Cond.fieldLink RX3 19 "FutexKernelModel" "result" "[I", Cond.fieldLink RX3 72 "FutexKernelModel" "ends" "I"]
def wsX3_passes_r2 : List Cond := [Cond.fieldLink RX3 22 "FutexKernelModel" "serial" "[I", Cond.methodLink RX3 68 yX3_leaves, Cond.instanceMethod yX3_leaves, Cond.selects RX3 yX3_leaves yX3_leaves, Cond.code yX3_leaves cX3_leaves 4 none, Cond.constant RX3 67 (2147483647), Cond.methodLink RX3 63 yX3_isSomebodyLocking, Cond.instanceMethod yX3_isSomebodyLocking, Cond.selects RX3 yX3_isSomebodyLocking yX3_isSomebodyLocking, Cond.code yX3_isSomebodyLocking cX3_isSomebodyLocking 2 (some .boolean), Cond.methodLink RX3 122 yX3_gets, Cond.instanceMethod yX3_gets, Cond.selects RX3 yX3_gets yX3_gets, Cond.code yX3_gets cX3_gets 3 none, Cond.fieldLink RX3 43 "FutexKernelModel" "list" "[I", Cond.fieldLink RX3 40 "FutexKernelModel" "many" "[I", Cond.methodLink RX3 116 yX3_place, Cond.instanceMethod yX3_place, Cond.selects RX3 yX3_place yX3_place, Cond.code yX3_place cX3_place 5 (some .int)]
def wsX3_passes : List Cond := .code yX3_passes cX3_passes 5 (some .int) :: ((wsX3_passes_r1 ++ wsX3_passes_r2) ++ wsX30)
def wsX3_isDeadlock : List Cond := .code yX3_isDeadlock cX3_isDeadlock 6 (some .boolean) :: ([.fieldLink RX3 13 "FutexKernelModel" "state" "[I", .fieldLink RX3 7 "FutexKernelModel" "word" "[I", .fieldLink RX3 25 "FutexKernelModel" "at" "[I", .methodLink RX3 83 yX3_isThread, .static yX3_isThread, .initialized RX3, .code yX3_isThread cX3_isThread 1 (some .boolean), .methodLink RX3 125 yX3_ownerOf, .static yX3_ownerOf, .code yX3_ownerOf cX3_ownerOf 1 (some .int)] ++ wsX30)
def wsX3_lock_r1 : List Cond := [Cond.fieldLink RX3 7 "FutexKernelModel" "word" "[I", Cond.constant RX3 120 (1073741824), Cond.constant RX3 121 (-2147483648), Cond.fieldLink RX3 13 "FutexKernelModel" "state" "[I", Cond.methodLink RX3 100 yX3_isTimeout, Cond.static yX3_isTimeout, Cond.initialized RX3, Cond.code yX3_isTimeout cX3_isTimeout 1 (some .boolean), Cond.methodLink RX3 89 yX3_asksRunning, Cond.instanceMethod yX3_asksRunning, Cond.selects RX3 yX3_asksRunning yX3_asksRunning, Cond.code yX3_asksRunning cX3_asksRunning 5 (some .boolean), Cond.fieldLink RX3 46 "FutexKernelModel" "thrown" "I", Cond.methodLink RX3 83 yX3_isThread, Cond.static yX3_isThread, Cond.code yX3_isThread cX3_isThread 1 (some .boolean), Cond.methodLink RX3 86 yX3_isAddress, Cond.static yX3_isAddress, Cond.code yX3_isAddress cX3_isAddress 1 (some .boolean), Cond.methodLink RX3 125 yX3_ownerOf, Cond.static yX3_ownerOf, Cond.code yX3_ownerOf cX3_ownerOf 1 (some .int), Cond.methodLink RX3 63 yX3_isSomebodyLocking, Cond.instanceMethod yX3_isSomebodyLocking]
def wsX3_lock_r2 : List Cond := [Cond.selects RX3 yX3_isSomebodyLocking yX3_isSomebodyLocking, Cond.code yX3_isSomebodyLocking cX3_isSomebodyLocking 2 (some .boolean), Cond.methodLink RX3 56 yX3_first, Cond.instanceMethod yX3_first, Cond.selects RX3 yX3_first yX3_first, Cond.code yX3_first cX3_first 7 (some .int), Cond.fieldLink RX3 25 "FutexKernelModel" "at" "[I", Cond.fieldLink RX3 28 "FutexKernelModel" "mask" "[I", Cond.methodLink RX3 52 yX3_key, Cond.instanceMethod yX3_key, Cond.selects RX3 yX3_key yX3_key, Cond.code yX3_key cX3_key 2 (some .long), Cond.fieldLink RX3 16 "FutexKernelModel" "priority" "[I", Cond.constantLong RX3 50 (1000000000), Cond.fieldLink RX3 37 "FutexKernelModel" "joined" "[I", Cond.methodLink RX3 122 yX3_gets, Cond.instanceMethod yX3_gets, Cond.selects RX3 yX3_gets yX3_gets, Cond.code yX3_gets cX3_gets 3 none, Cond.fieldLink RX3 43 "FutexKernelModel" "list" "[I", Cond.fieldLink RX3 40 "FutexKernelModel" "many" "[I", Cond.methodLink RX3 116 yX3_place, Cond.instanceMethod yX3_place, Cond.selects RX3 yX3_place yX3_place]
def wsX3_lock_r3 : List Cond := [Cond.code yX3_place cX3_place 5 (some .int), Cond.methodLink RX3 128 yX3_isDeadlock, Cond.instanceMethod yX3_isDeadlock, Cond.selects RX3 yX3_isDeadlock yX3_isDeadlock, Cond.code yX3_isDeadlock cX3_isDeadlock 6 (some .boolean), Cond.methodLink RX3 103 yX3_waits, Cond.instanceMethod yX3_waits, Cond.selects RX3 yX3_waits yX3_waits, Cond.code yX3_waits cX3_waits 6 none, Cond.fieldLink RX3 31 "FutexKernelModel" "deadline" "[I", Cond.fieldLink RX3 75 "FutexKernelModel" "time" "I", Cond.fieldLink RX3 78 "FutexKernelModel" "begins" "I", Cond.fieldLink RX3 34 "FutexKernelModel" "began" "[I", Cond.methodLink RX3 81 yX3_joins, Cond.instanceMethod yX3_joins, Cond.selects RX3 yX3_joins yX3_joins, Cond.code yX3_joins cX3_joins 3 none, Cond.fieldLink RX3 60 "FutexKernelModel" "joins" "I"]
def wsX3_lock : List Cond := .code yX3_lock cX3_lock 6 (some .int) :: ((wsX3_lock_r1 ++ (wsX3_lock_r2 ++ wsX3_lock_r3)) ++ wsX30)
def wsX3_unlock_r1 : List Cond := [Cond.fieldLink RX3 7 "FutexKernelModel" "word" "[I", Cond.methodLink RX3 89 yX3_asksRunning, Cond.instanceMethod yX3_asksRunning, Cond.selects RX3 yX3_asksRunning yX3_asksRunning, Cond.initialized RX3, Cond.code yX3_asksRunning cX3_asksRunning 5 (some .boolean), Cond.fieldLink RX3 13 "FutexKernelModel" "state" "[I", Cond.fieldLink RX3 46 "FutexKernelModel" "thrown" "I", Cond.methodLink RX3 83 yX3_isThread, Cond.static yX3_isThread, Cond.code yX3_isThread cX3_isThread 1 (some .boolean), Cond.methodLink RX3 86 yX3_isAddress, Cond.static yX3_isAddress, Cond.code yX3_isAddress cX3_isAddress 1 (some .boolean), Cond.methodLink RX3 125 yX3_ownerOf, Cond.static yX3_ownerOf, Cond.code yX3_ownerOf cX3_ownerOf 1 (some .int), Cond.methodLink RX3 112 yX3_fails, Cond.instanceMethod yX3_fails, Cond.selects RX3 yX3_fails yX3_fails, Cond.code yX3_fails cX3_fails 2 (some .int), Cond.methodLink RX3 132 yX3_drops, Cond.instanceMethod yX3_drops, Cond.selects RX3 yX3_drops yX3_drops]
def wsX3_unlock_r2 : List Cond := [Cond.code yX3_drops cX3_drops 4 none, Cond.fieldLink RX3 40 "FutexKernelModel" "many" "[I", Cond.fieldLink RX3 43 "FutexKernelModel" "list" "[I", Cond.methodLink RX3 116 yX3_place, Cond.instanceMethod yX3_place, Cond.selects RX3 yX3_place yX3_place, Cond.code yX3_place cX3_place 5 (some .int), Cond.methodLink RX3 135 yX3_passes, Cond.instanceMethod yX3_passes, Cond.selects RX3 yX3_passes yX3_passes, Cond.code yX3_passes cX3_passes 5 (some .int), Cond.constant RX3 120 (1073741824), Cond.constant RX3 121 (-2147483648), Cond.methodLink RX3 56 yX3_first, Cond.instanceMethod yX3_first, Cond.selects RX3 yX3_first yX3_first, Cond.code yX3_first cX3_first 7 (some .int), Cond.fieldLink RX3 25 "FutexKernelModel" "at" "[I", Cond.fieldLink RX3 28 "FutexKernelModel" "mask" "[I", Cond.methodLink RX3 52 yX3_key, Cond.instanceMethod yX3_key, Cond.selects RX3 yX3_key yX3_key, Cond.code yX3_key cX3_key 2 (some .long), Cond.fieldLink RX3 16 "FutexKernelModel" "priority" "[I"]
def wsX3_unlock_r3 : List Cond := [Cond.constantLong RX3 50 (1000000000), Cond.fieldLink RX3 37 "FutexKernelModel" "joined" "[I", Cond.methodLink RX3 107 yX3_ends, Cond.instanceMethod yX3_ends, Cond.selects RX3 yX3_ends yX3_ends, Cond.code yX3_ends cX3_ends 3 none, Cond.fieldLink RX3 19 "FutexKernelModel" "result" "[I", Cond.fieldLink RX3 72 "FutexKernelModel" "ends" "I", Cond.fieldLink RX3 22 "FutexKernelModel" "serial" "[I", Cond.methodLink RX3 68 yX3_leaves, Cond.instanceMethod yX3_leaves, Cond.selects RX3 yX3_leaves yX3_leaves, Cond.code yX3_leaves cX3_leaves 4 none, Cond.constant RX3 67 (2147483647), Cond.methodLink RX3 63 yX3_isSomebodyLocking, Cond.instanceMethod yX3_isSomebodyLocking, Cond.selects RX3 yX3_isSomebodyLocking yX3_isSomebodyLocking, Cond.code yX3_isSomebodyLocking cX3_isSomebodyLocking 2 (some .boolean), Cond.methodLink RX3 122 yX3_gets, Cond.instanceMethod yX3_gets, Cond.selects RX3 yX3_gets yX3_gets, Cond.code yX3_gets cX3_gets 3 none]
def wsX3_unlock : List Cond := .code yX3_unlock cX3_unlock 3 (some .int) :: ((wsX3_unlock_r1 ++ (wsX3_unlock_r2 ++ wsX3_unlock_r3)) ++ wsX30)
def wsX3_locks : List Cond := .code yX3_locks cX3_locks 2 (some .int) :: ([.fieldLink RX3 40 "FutexKernelModel" "many" "[I", .methodLink RX3 83 yX3_isThread, .static yX3_isThread, .initialized RX3, .code yX3_isThread cX3_isThread 1 (some .boolean), .methodLink RX3 93 yX3_asks, .instanceMethod yX3_asks, .selects RX3 yX3_asks yX3_asks, .code yX3_asks cX3_asks 2 (some .boolean), .fieldLink RX3 46 "FutexKernelModel" "thrown" "I"] ++ wsX30)
def wsX3_lockAt : List Cond := .code yX3_lockAt cX3_lockAt 3 (some .int) :: ([.fieldLink RX3 40 "FutexKernelModel" "many" "[I", .fieldLink RX3 43 "FutexKernelModel" "list" "[I", .methodLink RX3 83 yX3_isThread, .static yX3_isThread, .initialized RX3, .code yX3_isThread cX3_isThread 1 (some .boolean), .methodLink RX3 93 yX3_asks, .instanceMethod yX3_asks, .selects RX3 yX3_asks yX3_asks, .code yX3_asks cX3_asks 2 (some .boolean), .fieldLink RX3 46 "FutexKernelModel" "thrown" "I"] ++ wsX30)
def wsX3_blockedBy : List Cond := .code yX3_blockedBy cX3_blockedBy 6 (some .int) :: ([.fieldLink RX3 13 "FutexKernelModel" "state" "[I", .fieldLink RX3 7 "FutexKernelModel" "word" "[I", .fieldLink RX3 25 "FutexKernelModel" "at" "[I", .methodLink RX3 83 yX3_isThread, .static yX3_isThread, .initialized RX3, .code yX3_isThread cX3_isThread 1 (some .boolean), .methodLink RX3 93 yX3_asks, .instanceMethod yX3_asks, .selects RX3 yX3_asks yX3_asks, .code yX3_asks cX3_asks 2 (some .boolean), .fieldLink RX3 46 "FutexKernelModel" "thrown" "I", .methodLink RX3 125 yX3_ownerOf, .static yX3_ownerOf, .code yX3_ownerOf cX3_ownerOf 1 (some .int)] ++ wsX30)
def wsX3_interrupt_r1 : List Cond := [Cond.fieldLink RX3 46 "FutexKernelModel" "thrown" "I", Cond.methodLink RX3 83 yX3_isThread, Cond.static yX3_isThread, Cond.initialized RX3, Cond.code yX3_isThread cX3_isThread 1 (some .boolean), Cond.methodLink RX3 93 yX3_asks, Cond.instanceMethod yX3_asks, Cond.selects RX3 yX3_asks yX3_asks, Cond.code yX3_asks cX3_asks 2 (some .boolean), Cond.methodLink RX3 139 yX3_isQueued, Cond.instanceMethod yX3_isQueued, Cond.selects RX3 yX3_isQueued yX3_isQueued, Cond.code yX3_isQueued cX3_isQueued 2 (some .boolean), Cond.fieldLink RX3 13 "FutexKernelModel" "state" "[I", Cond.methodLink RX3 107 yX3_ends, Cond.instanceMethod yX3_ends, Cond.selects RX3 yX3_ends yX3_ends, Cond.code yX3_ends cX3_ends 3 none, Cond.fieldLink RX3 19 "FutexKernelModel" "result" "[I", Cond.fieldLink RX3 72 "FutexKernelModel" "ends" "I", Cond.fieldLink RX3 22 "FutexKernelModel" "serial" "[I", Cond.methodLink RX3 68 yX3_leaves, Cond.instanceMethod yX3_leaves, Cond.selects RX3 yX3_leaves yX3_leaves]
def wsX3_interrupt_r2 : List Cond := [Cond.code yX3_leaves cX3_leaves 4 none, Cond.fieldLink RX3 25 "FutexKernelModel" "at" "[I", Cond.fieldLink RX3 7 "FutexKernelModel" "word" "[I", Cond.constant RX3 67 (2147483647), Cond.methodLink RX3 63 yX3_isSomebodyLocking, Cond.instanceMethod yX3_isSomebodyLocking, Cond.selects RX3 yX3_isSomebodyLocking yX3_isSomebodyLocking, Cond.code yX3_isSomebodyLocking cX3_isSomebodyLocking 2 (some .boolean), Cond.methodLink RX3 56 yX3_first, Cond.instanceMethod yX3_first, Cond.selects RX3 yX3_first yX3_first, Cond.code yX3_first cX3_first 7 (some .int), Cond.fieldLink RX3 28 "FutexKernelModel" "mask" "[I", Cond.methodLink RX3 52 yX3_key, Cond.instanceMethod yX3_key, Cond.selects RX3 yX3_key yX3_key, Cond.code yX3_key cX3_key 2 (some .long), Cond.fieldLink RX3 16 "FutexKernelModel" "priority" "[I", Cond.constantLong RX3 50 (1000000000), Cond.fieldLink RX3 37 "FutexKernelModel" "joined" "[I"]
def wsX3_interrupt : List Cond := .code yX3_interrupt cX3_interrupt 2 none :: ((wsX3_interrupt_r1 ++ wsX3_interrupt_r2) ++ wsX30)
def wsX3_exit_r1 : List Cond := [Cond.fieldLink RX3 13 "FutexKernelModel" "state" "[I", Cond.fieldLink RX3 40 "FutexKernelModel" "many" "[I", Cond.fieldLink RX3 43 "FutexKernelModel" "list" "[I", Cond.fieldLink RX3 7 "FutexKernelModel" "word" "[I", Cond.methodLink RX3 83 yX3_isThread, Cond.static yX3_isThread, Cond.initialized RX3, Cond.code yX3_isThread cX3_isThread 1 (some .boolean), Cond.methodLink RX3 93 yX3_asks, Cond.instanceMethod yX3_asks, Cond.selects RX3 yX3_asks yX3_asks, Cond.code yX3_asks cX3_asks 2 (some .boolean), Cond.fieldLink RX3 46 "FutexKernelModel" "thrown" "I", Cond.methodLink RX3 112 yX3_fails, Cond.instanceMethod yX3_fails, Cond.selects RX3 yX3_fails yX3_fails, Cond.code yX3_fails cX3_fails 2 (some .int), Cond.methodLink RX3 68 yX3_leaves, Cond.instanceMethod yX3_leaves, Cond.selects RX3 yX3_leaves yX3_leaves, Cond.code yX3_leaves cX3_leaves 4 none, Cond.fieldLink RX3 25 "FutexKernelModel" "at" "[I", Cond.constant RX3 67 (2147483647), Cond.methodLink RX3 63 yX3_isSomebodyLocking]
def wsX3_exit_r2 : List Cond := [Cond.instanceMethod yX3_isSomebodyLocking, Cond.selects RX3 yX3_isSomebodyLocking yX3_isSomebodyLocking, Cond.code yX3_isSomebodyLocking cX3_isSomebodyLocking 2 (some .boolean), Cond.methodLink RX3 56 yX3_first, Cond.instanceMethod yX3_first, Cond.selects RX3 yX3_first yX3_first, Cond.code yX3_first cX3_first 7 (some .int), Cond.fieldLink RX3 28 "FutexKernelModel" "mask" "[I", Cond.methodLink RX3 52 yX3_key, Cond.instanceMethod yX3_key, Cond.selects RX3 yX3_key yX3_key, Cond.code yX3_key cX3_key 2 (some .long), Cond.fieldLink RX3 16 "FutexKernelModel" "priority" "[I", Cond.constantLong RX3 50 (1000000000), Cond.fieldLink RX3 37 "FutexKernelModel" "joined" "[I", Cond.methodLink RX3 125 yX3_ownerOf, Cond.static yX3_ownerOf, Cond.code yX3_ownerOf cX3_ownerOf 1 (some .int), Cond.methodLink RX3 135 yX3_passes, Cond.instanceMethod yX3_passes, Cond.selects RX3 yX3_passes yX3_passes, Cond.code yX3_passes cX3_passes 5 (some .int), Cond.constant RX3 120 (1073741824), Cond.constant RX3 121 (-2147483648)]
def wsX3_exit_r3 : List Cond := [Cond.methodLink RX3 107 yX3_ends, Cond.instanceMethod yX3_ends, Cond.selects RX3 yX3_ends yX3_ends, Cond.code yX3_ends cX3_ends 3 none, Cond.fieldLink RX3 19 "FutexKernelModel" "result" "[I", Cond.fieldLink RX3 72 "FutexKernelModel" "ends" "I", Cond.fieldLink RX3 22 "FutexKernelModel" "serial" "[I", Cond.methodLink RX3 122 yX3_gets, Cond.instanceMethod yX3_gets, Cond.selects RX3 yX3_gets yX3_gets, Cond.code yX3_gets cX3_gets 3 none, Cond.methodLink RX3 116 yX3_place, Cond.instanceMethod yX3_place, Cond.selects RX3 yX3_place yX3_place, Cond.code yX3_place cX3_place 5 (some .int)]
def wsX3_exit : List Cond := .code yX3_exit cX3_exit 5 (some .int) :: ((wsX3_exit_r1 ++ (wsX3_exit_r2 ++ wsX3_exit_r3)) ++ wsX30)
def wsX3_start : List Cond := .code yX3_start cX3_start 2 none :: ([.fieldLink RX3 13 "FutexKernelModel" "state" "[I", .fieldLink RX3 46 "FutexKernelModel" "thrown" "I", .fieldLink RX3 16 "FutexKernelModel" "priority" "[I", .fieldLink RX3 19 "FutexKernelModel" "result" "[I", .fieldLink RX3 22 "FutexKernelModel" "serial" "[I", .methodLink RX3 83 yX3_isThread, .static yX3_isThread, .initialized RX3, .code yX3_isThread cX3_isThread 1 (some .boolean), .methodLink RX3 93 yX3_asks, .instanceMethod yX3_asks, .selects RX3 yX3_asks yX3_asks, .code yX3_asks cX3_asks 2 (some .boolean)] ++ wsX30)
def wsX3_setPriority_r1 : List Cond := [Cond.fieldLink RX3 13 "FutexKernelModel" "state" "[I", Cond.fieldLink RX3 16 "FutexKernelModel" "priority" "[I", Cond.fieldLink RX3 25 "FutexKernelModel" "at" "[I", Cond.methodLink RX3 83 yX3_isThread, Cond.static yX3_isThread, Cond.initialized RX3, Cond.code yX3_isThread cX3_isThread 1 (some .boolean), Cond.methodLink RX3 93 yX3_asks, Cond.instanceMethod yX3_asks, Cond.selects RX3 yX3_asks yX3_asks, Cond.code yX3_asks cX3_asks 2 (some .boolean), Cond.fieldLink RX3 46 "FutexKernelModel" "thrown" "I", Cond.methodLink RX3 112 yX3_fails, Cond.instanceMethod yX3_fails, Cond.selects RX3 yX3_fails yX3_fails, Cond.code yX3_fails cX3_fails 2 (some .int), Cond.methodLink RX3 139 yX3_isQueued, Cond.instanceMethod yX3_isQueued, Cond.selects RX3 yX3_isQueued yX3_isQueued, Cond.code yX3_isQueued cX3_isQueued 2 (some .boolean), Cond.methodLink RX3 81 yX3_joins, Cond.instanceMethod yX3_joins, Cond.selects RX3 yX3_joins yX3_joins, Cond.code yX3_joins cX3_joins 3 none]
def wsX3_setPriority_r2 : List Cond := [Cond.fieldLink RX3 60 "FutexKernelModel" "joins" "I", Cond.fieldLink RX3 37 "FutexKernelModel" "joined" "[I"]
def wsX3_setPriority : List Cond := .code yX3_setPriority cX3_setPriority 4 (some .int) :: ((wsX3_setPriority_r1 ++ wsX3_setPriority_r2) ++ wsX30)
def wsX3_due : List Cond := .code yX3_due cX3_due 3 (some .int) :: ([.fieldLink RX3 31 "FutexKernelModel" "deadline" "[I", .fieldLink RX3 75 "FutexKernelModel" "time" "I", .fieldLink RX3 34 "FutexKernelModel" "began" "[I", .methodLink RX3 139 yX3_isQueued, .instanceMethod yX3_isQueued, .selects RX3 yX3_isQueued yX3_isQueued, .initialized RX3, .code yX3_isQueued cX3_isQueued 2 (some .boolean), .fieldLink RX3 13 "FutexKernelModel" "state" "[I"] ++ wsX30)
def wsX3_tick_r1 : List Cond := [Cond.fieldLink RX3 75 "FutexKernelModel" "time" "I", Cond.methodLink RX3 93 yX3_asks, Cond.instanceMethod yX3_asks, Cond.selects RX3 yX3_asks yX3_asks, Cond.initialized RX3, Cond.code yX3_asks cX3_asks 2 (some .boolean), Cond.fieldLink RX3 46 "FutexKernelModel" "thrown" "I", Cond.methodLink RX3 142 yX3_due, Cond.instanceMethod yX3_due, Cond.selects RX3 yX3_due yX3_due, Cond.code yX3_due cX3_due 3 (some .int), Cond.fieldLink RX3 31 "FutexKernelModel" "deadline" "[I", Cond.fieldLink RX3 34 "FutexKernelModel" "began" "[I", Cond.methodLink RX3 139 yX3_isQueued, Cond.instanceMethod yX3_isQueued, Cond.selects RX3 yX3_isQueued yX3_isQueued, Cond.code yX3_isQueued cX3_isQueued 2 (some .boolean), Cond.fieldLink RX3 13 "FutexKernelModel" "state" "[I", Cond.methodLink RX3 107 yX3_ends, Cond.instanceMethod yX3_ends, Cond.selects RX3 yX3_ends yX3_ends, Cond.code yX3_ends cX3_ends 3 none, Cond.fieldLink RX3 19 "FutexKernelModel" "result" "[I", Cond.fieldLink RX3 72 "FutexKernelModel" "ends" "I"]
def wsX3_tick_r2 : List Cond := [Cond.fieldLink RX3 22 "FutexKernelModel" "serial" "[I", Cond.methodLink RX3 68 yX3_leaves, Cond.instanceMethod yX3_leaves, Cond.selects RX3 yX3_leaves yX3_leaves, Cond.code yX3_leaves cX3_leaves 4 none, Cond.fieldLink RX3 25 "FutexKernelModel" "at" "[I", Cond.fieldLink RX3 7 "FutexKernelModel" "word" "[I", Cond.constant RX3 67 (2147483647), Cond.methodLink RX3 63 yX3_isSomebodyLocking, Cond.instanceMethod yX3_isSomebodyLocking, Cond.selects RX3 yX3_isSomebodyLocking yX3_isSomebodyLocking, Cond.code yX3_isSomebodyLocking cX3_isSomebodyLocking 2 (some .boolean), Cond.methodLink RX3 56 yX3_first, Cond.instanceMethod yX3_first, Cond.selects RX3 yX3_first yX3_first, Cond.code yX3_first cX3_first 7 (some .int), Cond.fieldLink RX3 28 "FutexKernelModel" "mask" "[I", Cond.methodLink RX3 52 yX3_key, Cond.instanceMethod yX3_key, Cond.selects RX3 yX3_key yX3_key, Cond.code yX3_key cX3_key 2 (some .long), Cond.fieldLink RX3 16 "FutexKernelModel" "priority" "[I", Cond.constantLong RX3 50 (1000000000), Cond.fieldLink RX3 37 "FutexKernelModel" "joined" "[I"]
def wsX3_tick : List Cond := .code yX3_tick cX3_tick 5 (some .int) :: ((wsX3_tick_r1 ++ wsX3_tick_r2) ++ wsX30)
def wsX3_now : List Cond := .code yX3_now cX3_now 1 (some .int) :: ([.fieldLink RX3 46 "FutexKernelModel" "thrown" "I", .fieldLink RX3 75 "FutexKernelModel" "time" "I"] ++ wsX30)
def wsX3_nextTimeout : List Cond := .code yX3_nextTimeout cX3_nextTimeout 4 (some .int) :: ([.fieldLink RX3 46 "FutexKernelModel" "thrown" "I", .fieldLink RX3 31 "FutexKernelModel" "deadline" "[I", .fieldLink RX3 75 "FutexKernelModel" "time" "I", .methodLink RX3 139 yX3_isQueued, .instanceMethod yX3_isQueued, .selects RX3 yX3_isQueued yX3_isQueued, .initialized RX3, .code yX3_isQueued cX3_isQueued 2 (some .boolean), .fieldLink RX3 13 "FutexKernelModel" "state" "[I"] ++ wsX30)
def wsX3_stateOf : List Cond := .code yX3_stateOf cX3_stateOf 2 (some .int) :: ([.fieldLink RX3 13 "FutexKernelModel" "state" "[I", .methodLink RX3 83 yX3_isThread, .static yX3_isThread, .initialized RX3, .code yX3_isThread cX3_isThread 1 (some .boolean), .methodLink RX3 93 yX3_asks, .instanceMethod yX3_asks, .selects RX3 yX3_asks yX3_asks, .code yX3_asks cX3_asks 2 (some .boolean), .fieldLink RX3 46 "FutexKernelModel" "thrown" "I"] ++ wsX30)
def wsX3_addressOf : List Cond := .code yX3_addressOf cX3_addressOf 2 (some .int) :: ([.fieldLink RX3 25 "FutexKernelModel" "at" "[I", .methodLink RX3 83 yX3_isThread, .static yX3_isThread, .initialized RX3, .code yX3_isThread cX3_isThread 1 (some .boolean), .methodLink RX3 93 yX3_asks, .instanceMethod yX3_asks, .selects RX3 yX3_asks yX3_asks, .code yX3_asks cX3_asks 2 (some .boolean), .fieldLink RX3 46 "FutexKernelModel" "thrown" "I", .methodLink RX3 139 yX3_isQueued, .instanceMethod yX3_isQueued, .selects RX3 yX3_isQueued yX3_isQueued, .code yX3_isQueued cX3_isQueued 2 (some .boolean), .fieldLink RX3 13 "FutexKernelModel" "state" "[I"] ++ wsX30)
def wsX3_resultOf : List Cond := .code yX3_resultOf cX3_resultOf 2 (some .int) :: ([.fieldLink RX3 19 "FutexKernelModel" "result" "[I", .methodLink RX3 83 yX3_isThread, .static yX3_isThread, .initialized RX3, .code yX3_isThread cX3_isThread 1 (some .boolean), .methodLink RX3 93 yX3_asks, .instanceMethod yX3_asks, .selects RX3 yX3_asks yX3_asks, .code yX3_asks cX3_asks 2 (some .boolean), .fieldLink RX3 46 "FutexKernelModel" "thrown" "I"] ++ wsX30)
def wsX3_serialOf : List Cond := .code yX3_serialOf cX3_serialOf 2 (some .int) :: ([.fieldLink RX3 22 "FutexKernelModel" "serial" "[I", .methodLink RX3 83 yX3_isThread, .static yX3_isThread, .initialized RX3, .code yX3_isThread cX3_isThread 1 (some .boolean), .methodLink RX3 93 yX3_asks, .instanceMethod yX3_asks, .selects RX3 yX3_asks yX3_asks, .code yX3_asks cX3_asks 2 (some .boolean), .fieldLink RX3 46 "FutexKernelModel" "thrown" "I"] ++ wsX30)
def wsX3_countAt : List Cond := .code yX3_countAt cX3_countAt 4 (some .int) :: ([.fieldLink RX3 25 "FutexKernelModel" "at" "[I", .methodLink RX3 139 yX3_isQueued, .instanceMethod yX3_isQueued, .selects RX3 yX3_isQueued yX3_isQueued, .initialized RX3, .code yX3_isQueued cX3_isQueued 2 (some .boolean), .fieldLink RX3 13 "FutexKernelModel" "state" "[I"] ++ wsX30)
def wsX3_waiters : List Cond := .code yX3_waiters cX3_waiters 2 (some .int) :: ([.methodLink RX3 86 yX3_isAddress, .static yX3_isAddress, .initialized RX3, .code yX3_isAddress cX3_isAddress 1 (some .boolean), .methodLink RX3 93 yX3_asks, .instanceMethod yX3_asks, .selects RX3 yX3_asks yX3_asks, .code yX3_asks cX3_asks 2 (some .boolean), .fieldLink RX3 46 "FutexKernelModel" "thrown" "I", .methodLink RX3 146 yX3_countAt, .instanceMethod yX3_countAt, .selects RX3 yX3_countAt yX3_countAt, .code yX3_countAt cX3_countAt 4 (some .int), .fieldLink RX3 25 "FutexKernelModel" "at" "[I", .methodLink RX3 139 yX3_isQueued, .instanceMethod yX3_isQueued, .selects RX3 yX3_isQueued yX3_isQueued, .code yX3_isQueued cX3_isQueued 2 (some .boolean), .fieldLink RX3 13 "FutexKernelModel" "state" "[I"] ++ wsX30)
def wsX3_isIn : List Cond := .code yX3_isIn cX3_isIn 4 (some .boolean) :: ([.fieldLink RX3 25 "FutexKernelModel" "at" "[I", .methodLink RX3 139 yX3_isQueued, .instanceMethod yX3_isQueued, .selects RX3 yX3_isQueued yX3_isQueued, .initialized RX3, .code yX3_isQueued cX3_isQueued 2 (some .boolean), .fieldLink RX3 13 "FutexKernelModel" "state" "[I", .methodLink RX3 149 yX3_bucketOf, .static yX3_bucketOf, .code yX3_bucketOf cX3_bucketOf 1 (some .int)] ++ wsX30)
def wsX3_thread : List Cond := .code yX3_thread cX3_thread 8 (some .int) :: ([.methodLink RX3 152 yX3_isIn, .instanceMethod yX3_isIn, .selects RX3 yX3_isIn yX3_isIn, .initialized RX3, .code yX3_isIn cX3_isIn 4 (some .boolean), .fieldLink RX3 25 "FutexKernelModel" "at" "[I", .methodLink RX3 139 yX3_isQueued, .instanceMethod yX3_isQueued, .selects RX3 yX3_isQueued yX3_isQueued, .code yX3_isQueued cX3_isQueued 2 (some .boolean), .fieldLink RX3 13 "FutexKernelModel" "state" "[I", .methodLink RX3 149 yX3_bucketOf, .static yX3_bucketOf, .code yX3_bucketOf cX3_bucketOf 1 (some .int), .methodLink RX3 52 yX3_key, .instanceMethod yX3_key, .selects RX3 yX3_key yX3_key, .code yX3_key cX3_key 2 (some .long), .fieldLink RX3 16 "FutexKernelModel" "priority" "[I", .constantLong RX3 50 (1000000000), .fieldLink RX3 37 "FutexKernelModel" "joined" "[I"] ++ wsX30)
def wsX3_waiterAt_r1 : List Cond := [Cond.methodLink RX3 86 yX3_isAddress, Cond.static yX3_isAddress, Cond.initialized RX3, Cond.code yX3_isAddress cX3_isAddress 1 (some .boolean), Cond.methodLink RX3 146 yX3_countAt, Cond.instanceMethod yX3_countAt, Cond.selects RX3 yX3_countAt yX3_countAt, Cond.code yX3_countAt cX3_countAt 4 (some .int), Cond.fieldLink RX3 25 "FutexKernelModel" "at" "[I", Cond.methodLink RX3 139 yX3_isQueued, Cond.instanceMethod yX3_isQueued, Cond.selects RX3 yX3_isQueued yX3_isQueued, Cond.code yX3_isQueued cX3_isQueued 2 (some .boolean), Cond.fieldLink RX3 13 "FutexKernelModel" "state" "[I", Cond.methodLink RX3 93 yX3_asks, Cond.instanceMethod yX3_asks, Cond.selects RX3 yX3_asks yX3_asks, Cond.code yX3_asks cX3_asks 2 (some .boolean), Cond.fieldLink RX3 46 "FutexKernelModel" "thrown" "I", Cond.methodLink RX3 149 yX3_bucketOf, Cond.static yX3_bucketOf, Cond.code yX3_bucketOf cX3_bucketOf 1 (some .int), Cond.methodLink RX3 156 yX3_thread, Cond.instanceMethod yX3_thread]
def wsX3_waiterAt_r2 : List Cond := [Cond.selects RX3 yX3_thread yX3_thread, Cond.code yX3_thread cX3_thread 8 (some .int), Cond.methodLink RX3 152 yX3_isIn, Cond.instanceMethod yX3_isIn, Cond.selects RX3 yX3_isIn yX3_isIn, Cond.code yX3_isIn cX3_isIn 4 (some .boolean), Cond.methodLink RX3 52 yX3_key, Cond.instanceMethod yX3_key, Cond.selects RX3 yX3_key yX3_key, Cond.code yX3_key cX3_key 2 (some .long), Cond.fieldLink RX3 16 "FutexKernelModel" "priority" "[I", Cond.constantLong RX3 50 (1000000000), Cond.fieldLink RX3 37 "FutexKernelModel" "joined" "[I"]
def wsX3_waiterAt : List Cond := .code yX3_waiterAt cX3_waiterAt 3 (some .int) :: ((wsX3_waiterAt_r1 ++ wsX3_waiterAt_r2) ++ wsX30)
def wsX3_queueAt_r1 : List Cond := [Cond.methodLink RX3 93 yX3_asks, Cond.instanceMethod yX3_asks, Cond.selects RX3 yX3_asks yX3_asks, Cond.initialized RX3, Cond.code yX3_asks cX3_asks 2 (some .boolean), Cond.fieldLink RX3 46 "FutexKernelModel" "thrown" "I", Cond.methodLink RX3 156 yX3_thread, Cond.instanceMethod yX3_thread, Cond.selects RX3 yX3_thread yX3_thread, Cond.code yX3_thread cX3_thread 8 (some .int), Cond.methodLink RX3 152 yX3_isIn, Cond.instanceMethod yX3_isIn, Cond.selects RX3 yX3_isIn yX3_isIn, Cond.code yX3_isIn cX3_isIn 4 (some .boolean), Cond.fieldLink RX3 25 "FutexKernelModel" "at" "[I", Cond.methodLink RX3 139 yX3_isQueued, Cond.instanceMethod yX3_isQueued, Cond.selects RX3 yX3_isQueued yX3_isQueued, Cond.code yX3_isQueued cX3_isQueued 2 (some .boolean), Cond.fieldLink RX3 13 "FutexKernelModel" "state" "[I", Cond.methodLink RX3 149 yX3_bucketOf, Cond.static yX3_bucketOf, Cond.code yX3_bucketOf cX3_bucketOf 1 (some .int), Cond.methodLink RX3 52 yX3_key]
def wsX3_queueAt_r2 : List Cond := [Cond.instanceMethod yX3_key, Cond.selects RX3 yX3_key yX3_key, Cond.code yX3_key cX3_key 2 (some .long), Cond.fieldLink RX3 16 "FutexKernelModel" "priority" "[I", Cond.constantLong RX3 50 (1000000000), Cond.fieldLink RX3 37 "FutexKernelModel" "joined" "[I"]
def wsX3_queueAt : List Cond := .code yX3_queueAt cX3_queueAt 3 (some .int) :: ((wsX3_queueAt_r1 ++ wsX3_queueAt_r2) ++ wsX30)
def wsL_store_r1 : List Cond := [Cond.classLink RL 13 "java/lang/IndexOutOfBoundsException", Cond.classLink RL 15 "java/lang/IllegalStateException", Cond.methodLink RL 7 yX2_store, Cond.instanceMethod yX2_store, Cond.selects RX2 yX2_store yX2_store, Cond.initialized RX2, Cond.code yX2_store cX2_store 6 (some .int), Cond.fieldLink RX2 9 "FutexKernel" "words" "[I", Cond.methodLink RX2 35 yX2_taskOf, Cond.instanceMethod yX2_taskOf, Cond.selects RX2 yX2_taskOf yX2_taskOf, Cond.code yX2_taskOf cX2_taskOf 2 (some (.object "FutexKernel$Task")), Cond.classLink RX2 105 "java/lang/IndexOutOfBoundsException", Cond.initialized "java/lang/IndexOutOfBoundsException", Cond.fieldLink RX2 15 "FutexKernel" "tasks" "[LFutexKernel$Task;", Cond.methodLink RX2 39 yX2_requireAddress, Cond.static yX2_requireAddress, Cond.code yX2_requireAddress cX2_requireAddress 1 none, Cond.methodLink RX2 186 yX2_isAddress, Cond.static yX2_isAddress, Cond.code yX2_isAddress cX2_isAddress 1 (some .boolean), Cond.methodLink RX2 42 yX2_requireRunning, Cond.static yX2_requireRunning, Cond.code yX2_requireRunning cX2_requireRunning 1 none]
def wsL_store_r2 : List Cond := [Cond.classLink RX2 84 "java/lang/IllegalStateException", Cond.initialized "java/lang/IllegalStateException", Cond.fieldLink RX2 76 "FutexKernel$Task" "state" "I"]
def wsL_store : List Cond := .codeWith yL_store cL_store 6 (some .int) [(0, 12, 15, 13), (0, 12, 19, 15)] :: ((wsL_store_r1 ++ wsL_store_r2) ++ wsX20 ++ wsX10 ++ (vx_atS RX2 109 "java/lang/IndexOutOfBoundsException" ["java/lang/RuntimeException", "java/lang/Exception"]).filter goodWord ++ (vx_atS RX2 88 "java/lang/IllegalStateException" ["java/lang/RuntimeException", "java/lang/Exception"]).filter goodWord)
def wsL_compareAndSet_r1 : List Cond := [Cond.classLink RL 13 "java/lang/IndexOutOfBoundsException", Cond.classLink RL 15 "java/lang/IllegalStateException", Cond.methodLink RL 17 yX2_compareAndSet, Cond.instanceMethod yX2_compareAndSet, Cond.selects RX2 yX2_compareAndSet yX2_compareAndSet, Cond.initialized RX2, Cond.code yX2_compareAndSet cX2_compareAndSet 6 (some .boolean), Cond.fieldLink RX2 9 "FutexKernel" "words" "[I", Cond.methodLink RX2 35 yX2_taskOf, Cond.instanceMethod yX2_taskOf, Cond.selects RX2 yX2_taskOf yX2_taskOf, Cond.code yX2_taskOf cX2_taskOf 2 (some (.object "FutexKernel$Task")), Cond.classLink RX2 105 "java/lang/IndexOutOfBoundsException", Cond.initialized "java/lang/IndexOutOfBoundsException", Cond.fieldLink RX2 15 "FutexKernel" "tasks" "[LFutexKernel$Task;", Cond.methodLink RX2 39 yX2_requireAddress, Cond.static yX2_requireAddress, Cond.code yX2_requireAddress cX2_requireAddress 1 none, Cond.methodLink RX2 186 yX2_isAddress, Cond.static yX2_isAddress, Cond.code yX2_isAddress cX2_isAddress 1 (some .boolean), Cond.methodLink RX2 42 yX2_requireRunning, Cond.static yX2_requireRunning, Cond.code yX2_requireRunning cX2_requireRunning 1 none]
def wsL_compareAndSet_r2 : List Cond := [Cond.classLink RX2 84 "java/lang/IllegalStateException", Cond.initialized "java/lang/IllegalStateException", Cond.fieldLink RX2 76 "FutexKernel$Task" "state" "I"]
def wsL_compareAndSet : List Cond := .codeWith yL_compareAndSet cL_compareAndSet 7 (some .int) [(0, 21, 24, 13), (0, 21, 28, 15)] :: ((wsL_compareAndSet_r1 ++ wsL_compareAndSet_r2) ++ wsX20 ++ wsX10 ++ (vx_atS RX2 109 "java/lang/IndexOutOfBoundsException" ["java/lang/RuntimeException", "java/lang/Exception"]).filter goodWord ++ (vx_atS RX2 88 "java/lang/IllegalStateException" ["java/lang/RuntimeException", "java/lang/Exception"]).filter goodWord)
def wsL_fetchAdd_r1 : List Cond := [Cond.classLink RL 13 "java/lang/IndexOutOfBoundsException", Cond.classLink RL 15 "java/lang/IllegalStateException", Cond.methodLink RL 21 yX2_fetchAdd, Cond.instanceMethod yX2_fetchAdd, Cond.selects RX2 yX2_fetchAdd yX2_fetchAdd, Cond.initialized RX2, Cond.code yX2_fetchAdd cX2_fetchAdd 6 (some .int), Cond.fieldLink RX2 9 "FutexKernel" "words" "[I", Cond.methodLink RX2 35 yX2_taskOf, Cond.instanceMethod yX2_taskOf, Cond.selects RX2 yX2_taskOf yX2_taskOf, Cond.code yX2_taskOf cX2_taskOf 2 (some (.object "FutexKernel$Task")), Cond.classLink RX2 105 "java/lang/IndexOutOfBoundsException", Cond.initialized "java/lang/IndexOutOfBoundsException", Cond.fieldLink RX2 15 "FutexKernel" "tasks" "[LFutexKernel$Task;", Cond.methodLink RX2 39 yX2_requireAddress, Cond.static yX2_requireAddress, Cond.code yX2_requireAddress cX2_requireAddress 1 none, Cond.methodLink RX2 186 yX2_isAddress, Cond.static yX2_isAddress, Cond.code yX2_isAddress cX2_isAddress 1 (some .boolean), Cond.methodLink RX2 42 yX2_requireRunning, Cond.static yX2_requireRunning, Cond.code yX2_requireRunning cX2_requireRunning 1 none]
def wsL_fetchAdd_r2 : List Cond := [Cond.classLink RX2 84 "java/lang/IllegalStateException", Cond.initialized "java/lang/IllegalStateException", Cond.fieldLink RX2 76 "FutexKernel$Task" "state" "I"]
def wsL_fetchAdd : List Cond := .codeWith yL_fetchAdd cL_fetchAdd 6 (some .int) [(0, 12, 15, 13), (0, 12, 19, 15)] :: ((wsL_fetchAdd_r1 ++ wsL_fetchAdd_r2) ++ wsX20 ++ wsX10 ++ (vx_atS RX2 109 "java/lang/IndexOutOfBoundsException" ["java/lang/RuntimeException", "java/lang/Exception"]).filter goodWord ++ (vx_atS RX2 88 "java/lang/IllegalStateException" ["java/lang/RuntimeException", "java/lang/Exception"]).filter goodWord)
def wsL_word : List Cond := .codeWith yL_word cL_word 4 (some .int) [(0, 9, 12, 13)] :: ([.classLink RL 13 "java/lang/IndexOutOfBoundsException", .methodLink RL 24 yX2_word, .instanceMethod yX2_word, .selects RX2 yX2_word yX2_word, .initialized RX2, .code yX2_word cX2_word 2 (some .int), .fieldLink RX2 9 "FutexKernel" "words" "[I", .methodLink RX2 39 yX2_requireAddress, .static yX2_requireAddress, .code yX2_requireAddress cX2_requireAddress 1 none, .classLink RX2 105 "java/lang/IndexOutOfBoundsException", .initialized "java/lang/IndexOutOfBoundsException", .methodLink RX2 186 yX2_isAddress, .static yX2_isAddress, .code yX2_isAddress cX2_isAddress 1 (some .boolean)] ++ wsX20 ++ (vx_atS RX2 109 "java/lang/IndexOutOfBoundsException" ["java/lang/RuntimeException", "java/lang/Exception"]).filter goodWord)
def wsL_await_r1 : List Cond := [Cond.classLink RL 13 "java/lang/IndexOutOfBoundsException", Cond.classLink RL 32 "java/lang/IllegalArgumentException", Cond.classLink RL 15 "java/lang/IllegalStateException", Cond.methodLink RL 28 yX2_await, Cond.instanceMethod yX2_await, Cond.selects RX2 yX2_await yX2_await, Cond.initialized RX2, Cond.code yX2_await cX2_await 7 (some .boolean), Cond.fieldLink RX2 9 "FutexKernel" "words" "[I", Cond.methodLink RX2 35 yX2_taskOf, Cond.instanceMethod yX2_taskOf, Cond.selects RX2 yX2_taskOf yX2_taskOf, Cond.code yX2_taskOf cX2_taskOf 2 (some (.object "FutexKernel$Task")), Cond.classLink RX2 105 "java/lang/IndexOutOfBoundsException", Cond.initialized "java/lang/IndexOutOfBoundsException", Cond.fieldLink RX2 15 "FutexKernel" "tasks" "[LFutexKernel$Task;", Cond.methodLink RX2 39 yX2_requireAddress, Cond.static yX2_requireAddress, Cond.code yX2_requireAddress cX2_requireAddress 1 none, Cond.methodLink RX2 186 yX2_isAddress, Cond.static yX2_isAddress, Cond.code yX2_isAddress cX2_isAddress 1 (some .boolean), Cond.methodLink RX2 46 yX2_requireBetween, Cond.static yX2_requireBetween]
def wsL_await_r2 : List Cond := [Cond.code yX2_requireBetween cX2_requireBetween 3 none, Cond.classLink RX2 58 "java/lang/IllegalArgumentException", Cond.initialized "java/lang/IllegalArgumentException", Cond.methodLink RX2 42 yX2_requireRunning, Cond.static yX2_requireRunning, Cond.code yX2_requireRunning cX2_requireRunning 1 none, Cond.classLink RX2 84 "java/lang/IllegalStateException", Cond.initialized "java/lang/IllegalStateException", Cond.fieldLink RX2 76 "FutexKernel$Task" "state" "I", Cond.methodLink RX2 50 yX2_beginWait, Cond.instanceMethod yX2_beginWait, Cond.selects RX2 yX2_beginWait yX2_beginWait, Cond.code yX2_beginWait cX2_beginWait 6 none, Cond.fieldLink RX2 205 "FutexKernel$Task" "mask" "I", Cond.fieldLink RX2 19 "FutexKernel" "time" "I", Cond.fieldLink RX2 166 "FutexKernel$Task" "deadline" "I", Cond.fieldLink RX2 26 "FutexKernel" "begunWaits" "I", Cond.fieldLink RX2 212 "FutexKernel$Task" "begun" "I", Cond.methodLink RX2 159 yX2_joinQueue, Cond.instanceMethod yX2_joinQueue, Cond.selects RX2 yX2_joinQueue yX2_joinQueue, Cond.code yX2_joinQueue cX2_joinQueue 3 none, Cond.fieldLink RX2 156 "FutexKernel$Task" "address" "I", Cond.fieldLink RX2 29 "FutexKernel" "joins" "I"]
def wsL_await_r3 : List Cond := [Cond.fieldLink RX2 198 "FutexKernel$Task" "joined" "I"]
def wsL_await : List Cond := .codeWith yL_await cL_await 8 (some .int) [(0, 23, 26, 13), (0, 23, 30, 32), (0, 23, 34, 15)] :: ((wsL_await_r1 ++ (wsL_await_r2 ++ wsL_await_r3)) ++ wsX20 ++ wsX10 ++ (vx_atS RX2 109 "java/lang/IndexOutOfBoundsException" ["java/lang/RuntimeException", "java/lang/Exception"]).filter goodWord ++ (vx_atS RX2 62 "java/lang/IllegalArgumentException" ["java/lang/RuntimeException", "java/lang/Exception"]).filter goodWord ++ (vx_atS RX2 88 "java/lang/IllegalStateException" ["java/lang/RuntimeException", "java/lang/Exception"]).filter goodWord)
def wsL_wake_r1 : List Cond := [Cond.classLink RL 13 "java/lang/IndexOutOfBoundsException", Cond.classLink RL 32 "java/lang/IllegalArgumentException", Cond.classLink RL 15 "java/lang/IllegalStateException", Cond.methodLink RL 34 yX2_wake, Cond.instanceMethod yX2_wake, Cond.selects RX2 yX2_wake yX2_wake, Cond.initialized RX2, Cond.code yX2_wake cX2_wake 6 (some .int), Cond.methodLink RX2 35 yX2_taskOf, Cond.instanceMethod yX2_taskOf, Cond.selects RX2 yX2_taskOf yX2_taskOf, Cond.code yX2_taskOf cX2_taskOf 2 (some (.object "FutexKernel$Task")), Cond.classLink RX2 105 "java/lang/IndexOutOfBoundsException", Cond.initialized "java/lang/IndexOutOfBoundsException", Cond.fieldLink RX2 15 "FutexKernel" "tasks" "[LFutexKernel$Task;", Cond.methodLink RX2 39 yX2_requireAddress, Cond.static yX2_requireAddress, Cond.code yX2_requireAddress cX2_requireAddress 1 none, Cond.methodLink RX2 186 yX2_isAddress, Cond.static yX2_isAddress, Cond.code yX2_isAddress cX2_isAddress 1 (some .boolean), Cond.methodLink RX2 46 yX2_requireBetween, Cond.static yX2_requireBetween, Cond.code yX2_requireBetween cX2_requireBetween 3 none]
def wsL_wake_r2 : List Cond := [Cond.classLink RX2 58 "java/lang/IllegalArgumentException", Cond.initialized "java/lang/IllegalArgumentException", Cond.methodLink RX2 42 yX2_requireRunning, Cond.static yX2_requireRunning, Cond.code yX2_requireRunning cX2_requireRunning 1 none, Cond.classLink RX2 84 "java/lang/IllegalStateException", Cond.initialized "java/lang/IllegalStateException", Cond.fieldLink RX2 76 "FutexKernel$Task" "state" "I", Cond.methodLink RX2 54 yX2_wakeFirst, Cond.instanceMethod yX2_wakeFirst, Cond.selects RX2 yX2_wakeFirst yX2_wakeFirst, Cond.code yX2_wakeFirst cX2_wakeFirst 6 (some .int), Cond.methodLink RX2 208 yX2_firstAt, Cond.instanceMethod yX2_firstAt, Cond.selects RX2 yX2_firstAt yX2_firstAt, Cond.code yX2_firstAt cX2_firstAt 10 (some (.object "FutexKernel$Task")), Cond.fieldLink RX2 156 "FutexKernel$Task" "address" "I", Cond.fieldLink RX2 205 "FutexKernel$Task" "mask" "I", Cond.methodLink RX2 201 yX1_isAheadOf, Cond.instanceMethod yX1_isAheadOf, Cond.selects RX1 yX1_isAheadOf yX1_isAheadOf, Cond.initialized RX1, Cond.code yX1_isAheadOf cX1_isAheadOf 2 (some .boolean), Cond.fieldLink RX1 22 "FutexKernel$Task" "priority" "I"]
def wsL_wake_r3 : List Cond := [Cond.fieldLink RX1 37 "FutexKernel$Task" "joined" "I", Cond.methodLink RX2 132 yX2_endWait, Cond.instanceMethod yX2_endWait, Cond.selects RX2 yX2_endWait yX2_endWait, Cond.code yX2_endWait cX2_endWait 3 none, Cond.fieldLink RX2 150 "FutexKernel$Task" "result" "I", Cond.fieldLink RX2 23 "FutexKernel" "endedWaits" "I", Cond.fieldLink RX2 153 "FutexKernel$Task" "serial" "I", Cond.methodLink RX2 139 yX2_leaveQueue, Cond.instanceMethod yX2_leaveQueue, Cond.selects RX2 yX2_leaveQueue yX2_leaveQueue, Cond.code yX2_leaveQueue cX2_leaveQueue 4 none, Cond.fieldLink RX2 166 "FutexKernel$Task" "deadline" "I", Cond.fieldLink RX2 9 "FutexKernel" "words" "[I", Cond.constant RX2 218 (2147483647), Cond.methodLink RX2 215 yX2_firstLockingAt, Cond.instanceMethod yX2_firstLockingAt, Cond.selects RX2 yX2_firstLockingAt yX2_firstLockingAt, Cond.code yX2_firstLockingAt cX2_firstLockingAt 2 (some (.object "FutexKernel$Task"))]
def wsL_wake : List Cond := .codeWith yL_wake cL_wake 7 (some .int) [(0, 14, 17, 13), (0, 14, 21, 32), (0, 14, 25, 15)] :: ((wsL_wake_r1 ++ (wsL_wake_r2 ++ wsL_wake_r3)) ++ wsX20 ++ wsX10 ++ (vx_atS RX2 109 "java/lang/IndexOutOfBoundsException" ["java/lang/RuntimeException", "java/lang/Exception"]).filter goodWord ++ (vx_atS RX2 62 "java/lang/IllegalArgumentException" ["java/lang/RuntimeException", "java/lang/Exception"]).filter goodWord ++ (vx_atS RX2 88 "java/lang/IllegalStateException" ["java/lang/RuntimeException", "java/lang/Exception"]).filter goodWord)
def wsL_requeue_r1 : List Cond := [Cond.classLink RL 13 "java/lang/IndexOutOfBoundsException", Cond.classLink RL 32 "java/lang/IllegalArgumentException", Cond.classLink RL 15 "java/lang/IllegalStateException", Cond.methodLink RL 38 yX2_requeue, Cond.instanceMethod yX2_requeue, Cond.selects RX2 yX2_requeue yX2_requeue, Cond.initialized RX2, Cond.code yX2_requeue cX2_requeue 9 (some .int), Cond.classLink RX2 58 "java/lang/IllegalArgumentException", Cond.initialized "java/lang/IllegalArgumentException", Cond.fieldLink RX2 9 "FutexKernel" "words" "[I", Cond.methodLink RX2 35 yX2_taskOf, Cond.instanceMethod yX2_taskOf, Cond.selects RX2 yX2_taskOf yX2_taskOf, Cond.code yX2_taskOf cX2_taskOf 2 (some (.object "FutexKernel$Task")), Cond.classLink RX2 105 "java/lang/IndexOutOfBoundsException", Cond.initialized "java/lang/IndexOutOfBoundsException", Cond.fieldLink RX2 15 "FutexKernel" "tasks" "[LFutexKernel$Task;", Cond.methodLink RX2 39 yX2_requireAddress, Cond.static yX2_requireAddress, Cond.code yX2_requireAddress cX2_requireAddress 1 none, Cond.methodLink RX2 186 yX2_isAddress, Cond.static yX2_isAddress, Cond.code yX2_isAddress cX2_isAddress 1 (some .boolean)]
def wsL_requeue_r2 : List Cond := [Cond.methodLink RX2 46 yX2_requireBetween, Cond.static yX2_requireBetween, Cond.code yX2_requireBetween cX2_requireBetween 3 none, Cond.methodLink RX2 42 yX2_requireRunning, Cond.static yX2_requireRunning, Cond.code yX2_requireRunning cX2_requireRunning 1 none, Cond.classLink RX2 84 "java/lang/IllegalStateException", Cond.initialized "java/lang/IllegalStateException", Cond.fieldLink RX2 76 "FutexKernel$Task" "state" "I", Cond.methodLink RX2 54 yX2_wakeFirst, Cond.instanceMethod yX2_wakeFirst, Cond.selects RX2 yX2_wakeFirst yX2_wakeFirst, Cond.code yX2_wakeFirst cX2_wakeFirst 6 (some .int), Cond.methodLink RX2 208 yX2_firstAt, Cond.instanceMethod yX2_firstAt, Cond.selects RX2 yX2_firstAt yX2_firstAt, Cond.code yX2_firstAt cX2_firstAt 10 (some (.object "FutexKernel$Task")), Cond.fieldLink RX2 156 "FutexKernel$Task" "address" "I", Cond.fieldLink RX2 205 "FutexKernel$Task" "mask" "I", Cond.methodLink RX2 201 yX1_isAheadOf, Cond.instanceMethod yX1_isAheadOf, Cond.selects RX1 yX1_isAheadOf yX1_isAheadOf, Cond.initialized RX1, Cond.code yX1_isAheadOf cX1_isAheadOf 2 (some .boolean)]
def wsL_requeue_r3 : List Cond := [Cond.fieldLink RX1 22 "FutexKernel$Task" "priority" "I", Cond.fieldLink RX1 37 "FutexKernel$Task" "joined" "I", Cond.methodLink RX2 132 yX2_endWait, Cond.instanceMethod yX2_endWait, Cond.selects RX2 yX2_endWait yX2_endWait, Cond.code yX2_endWait cX2_endWait 3 none, Cond.fieldLink RX2 150 "FutexKernel$Task" "result" "I", Cond.fieldLink RX2 23 "FutexKernel" "endedWaits" "I", Cond.fieldLink RX2 153 "FutexKernel$Task" "serial" "I", Cond.methodLink RX2 139 yX2_leaveQueue, Cond.instanceMethod yX2_leaveQueue, Cond.selects RX2 yX2_leaveQueue yX2_leaveQueue, Cond.code yX2_leaveQueue cX2_leaveQueue 4 none, Cond.fieldLink RX2 166 "FutexKernel$Task" "deadline" "I", Cond.constant RX2 218 (2147483647), Cond.methodLink RX2 215 yX2_firstLockingAt, Cond.instanceMethod yX2_firstLockingAt, Cond.selects RX2 yX2_firstLockingAt yX2_firstLockingAt, Cond.code yX2_firstLockingAt cX2_firstLockingAt 2 (some (.object "FutexKernel$Task")), Cond.methodLink RX2 65 yX2_moveFirst, Cond.instanceMethod yX2_moveFirst, Cond.selects RX2 yX2_moveFirst yX2_moveFirst, Cond.code yX2_moveFirst cX2_moveFirst 6 (some .int), Cond.methodLink RX2 159 yX2_joinQueue]
def wsL_requeue_r4 : List Cond := [Cond.instanceMethod yX2_joinQueue, Cond.selects RX2 yX2_joinQueue yX2_joinQueue, Cond.code yX2_joinQueue cX2_joinQueue 3 none, Cond.fieldLink RX2 29 "FutexKernel" "joins" "I", Cond.fieldLink RX2 198 "FutexKernel$Task" "joined" "I"]
def wsL_requeue : List Cond := .codeWith yL_requeue cL_requeue 9 (some .int) [(0, 18, 21, 13), (0, 18, 25, 32), (0, 18, 29, 15)] :: ((wsL_requeue_r1 ++ (wsL_requeue_r2 ++ (wsL_requeue_r3 ++ wsL_requeue_r4))) ++ wsX20 ++ wsX10 ++ (vx_atS RX2 62 "java/lang/IllegalArgumentException" ["java/lang/RuntimeException", "java/lang/Exception"]).filter goodWord ++ (vx_atS RX2 109 "java/lang/IndexOutOfBoundsException" ["java/lang/RuntimeException", "java/lang/Exception"]).filter goodWord ++ (vx_atS RX2 88 "java/lang/IllegalStateException" ["java/lang/RuntimeException", "java/lang/Exception"]).filter goodWord)
def wsL_lock_r1 : List Cond := [Cond.classLink RL 13 "java/lang/IndexOutOfBoundsException", Cond.classLink RL 32 "java/lang/IllegalArgumentException", Cond.classLink RL 15 "java/lang/IllegalStateException", Cond.methodLink RL 42 yX2_lock, Cond.instanceMethod yX2_lock, Cond.selects RX2 yX2_lock yX2_lock, Cond.initialized RX2, Cond.code yX2_lock cX2_lock 7 (some .int), Cond.fieldLink RX2 9 "FutexKernel" "words" "[I", Cond.constant RX2 68 (1073741824), Cond.fieldLink RX2 76 "FutexKernel$Task" "state" "I", Cond.constant RX2 83 (-2147483648), Cond.methodLink RX2 35 yX2_taskOf, Cond.instanceMethod yX2_taskOf, Cond.selects RX2 yX2_taskOf yX2_taskOf, Cond.code yX2_taskOf cX2_taskOf 2 (some (.object "FutexKernel$Task")), Cond.classLink RX2 105 "java/lang/IndexOutOfBoundsException", Cond.initialized "java/lang/IndexOutOfBoundsException", Cond.fieldLink RX2 15 "FutexKernel" "tasks" "[LFutexKernel$Task;", Cond.methodLink RX2 39 yX2_requireAddress, Cond.static yX2_requireAddress, Cond.code yX2_requireAddress cX2_requireAddress 1 none, Cond.methodLink RX2 186 yX2_isAddress, Cond.static yX2_isAddress]
def wsL_lock_r2 : List Cond := [Cond.code yX2_isAddress cX2_isAddress 1 (some .boolean), Cond.methodLink RX2 46 yX2_requireBetween, Cond.static yX2_requireBetween, Cond.code yX2_requireBetween cX2_requireBetween 3 none, Cond.classLink RX2 58 "java/lang/IllegalArgumentException", Cond.initialized "java/lang/IllegalArgumentException", Cond.methodLink RX2 42 yX2_requireRunning, Cond.static yX2_requireRunning, Cond.code yX2_requireRunning cX2_requireRunning 1 none, Cond.classLink RX2 84 "java/lang/IllegalStateException", Cond.initialized "java/lang/IllegalStateException", Cond.methodLink RX2 69 yX2_giveLock, Cond.instanceMethod yX2_giveLock, Cond.selects RX2 yX2_giveLock yX2_giveLock, Cond.code yX2_giveLock cX2_giveLock 5 none, Cond.fieldLink RX2 173 "FutexKernel$Task" "number" "I", Cond.fieldLink RX2 89 "FutexKernel$Task" "held" "LFutexKernel$LockList;", Cond.methodLink RX2 215 yX2_firstLockingAt, Cond.instanceMethod yX2_firstLockingAt, Cond.selects RX2 yX2_firstLockingAt yX2_firstLockingAt, Cond.code yX2_firstLockingAt cX2_firstLockingAt 2 (some (.object "FutexKernel$Task")), Cond.methodLink RX2 208 yX2_firstAt, Cond.instanceMethod yX2_firstAt, Cond.selects RX2 yX2_firstAt yX2_firstAt]
def wsL_lock_r3 : List Cond := [Cond.code yX2_firstAt cX2_firstAt 10 (some (.object "FutexKernel$Task")), Cond.fieldLink RX2 156 "FutexKernel$Task" "address" "I", Cond.fieldLink RX2 205 "FutexKernel$Task" "mask" "I", Cond.methodLink RX2 201 yX1_isAheadOf, Cond.instanceMethod yX1_isAheadOf, Cond.selects RX1 yX1_isAheadOf yX1_isAheadOf, Cond.initialized RX1, Cond.code yX1_isAheadOf cX1_isAheadOf 2 (some .boolean), Cond.fieldLink RX1 22 "FutexKernel$Task" "priority" "I", Cond.fieldLink RX1 37 "FutexKernel$Task" "joined" "I", Cond.methodLink RX2 222 yX0_add, Cond.instanceMethod yX0_add, Cond.selects RX0 yX0_add yX0_add, Cond.initialized RX0, Cond.code yX0_add cX0_add 2 none, Cond.fieldLink RX0 15 "FutexKernel$LockList" "size" "I", Cond.fieldLink RX0 9 "FutexKernel$LockList" "addresses" "[I", Cond.methodLink RX0 19 yX0_placeOf, Cond.instanceMethod yX0_placeOf, Cond.selects RX0 yX0_placeOf yX0_placeOf, Cond.code yX0_placeOf cX0_placeOf 3 (some .int), Cond.methodLink RX2 73 yX2_ownerAt, Cond.instanceMethod yX2_ownerAt, Cond.selects RX2 yX2_ownerAt yX2_ownerAt]
def wsL_lock_r4 : List Cond := [Cond.code yX2_ownerAt cX2_ownerAt 3 (some (.object "FutexKernel$Task")), Cond.methodLink RX2 79 yX2_isHeldUpBy, Cond.instanceMethod yX2_isHeldUpBy, Cond.selects RX2 yX2_isHeldUpBy yX2_isHeldUpBy, Cond.code yX2_isHeldUpBy cX2_isHeldUpBy 5 (some .boolean), Cond.methodLink RX2 50 yX2_beginWait, Cond.instanceMethod yX2_beginWait, Cond.selects RX2 yX2_beginWait yX2_beginWait, Cond.code yX2_beginWait cX2_beginWait 6 none, Cond.fieldLink RX2 19 "FutexKernel" "time" "I", Cond.fieldLink RX2 166 "FutexKernel$Task" "deadline" "I", Cond.fieldLink RX2 26 "FutexKernel" "begunWaits" "I", Cond.fieldLink RX2 212 "FutexKernel$Task" "begun" "I", Cond.methodLink RX2 159 yX2_joinQueue, Cond.instanceMethod yX2_joinQueue, Cond.selects RX2 yX2_joinQueue yX2_joinQueue, Cond.code yX2_joinQueue cX2_joinQueue 3 none, Cond.fieldLink RX2 29 "FutexKernel" "joins" "I", Cond.fieldLink RX2 198 "FutexKernel$Task" "joined" "I"]
def wsL_lock : List Cond := .codeWith yL_lock cL_lock 6 (some .int) [(0, 12, 15, 13), (0, 12, 19, 32), (0, 12, 23, 15)] :: ((wsL_lock_r1 ++ (wsL_lock_r2 ++ (wsL_lock_r3 ++ wsL_lock_r4))) ++ wsX20 ++ wsX10 ++ wsX00 ++ (vx_atS RX2 109 "java/lang/IndexOutOfBoundsException" ["java/lang/RuntimeException", "java/lang/Exception"]).filter goodWord ++ (vx_atS RX2 62 "java/lang/IllegalArgumentException" ["java/lang/RuntimeException", "java/lang/Exception"]).filter goodWord ++ (vx_atS RX2 88 "java/lang/IllegalStateException" ["java/lang/RuntimeException", "java/lang/Exception"]).filter goodWord)
def wsL_unlock_r1 : List Cond := [Cond.classLink RL 13 "java/lang/IndexOutOfBoundsException", Cond.classLink RL 15 "java/lang/IllegalStateException", Cond.methodLink RL 45 yX2_unlock, Cond.instanceMethod yX2_unlock, Cond.selects RX2 yX2_unlock yX2_unlock, Cond.initialized RX2, Cond.code yX2_unlock cX2_unlock 4 (some .int), Cond.classLink RX2 84 "java/lang/IllegalStateException", Cond.initialized "java/lang/IllegalStateException", Cond.fieldLink RX2 89 "FutexKernel$Task" "held" "LFutexKernel$LockList;", Cond.methodLink RX2 35 yX2_taskOf, Cond.instanceMethod yX2_taskOf, Cond.selects RX2 yX2_taskOf yX2_taskOf, Cond.code yX2_taskOf cX2_taskOf 2 (some (.object "FutexKernel$Task")), Cond.classLink RX2 105 "java/lang/IndexOutOfBoundsException", Cond.initialized "java/lang/IndexOutOfBoundsException", Cond.fieldLink RX2 15 "FutexKernel" "tasks" "[LFutexKernel$Task;", Cond.methodLink RX2 39 yX2_requireAddress, Cond.static yX2_requireAddress, Cond.code yX2_requireAddress cX2_requireAddress 1 none, Cond.methodLink RX2 186 yX2_isAddress, Cond.static yX2_isAddress, Cond.code yX2_isAddress cX2_isAddress 1 (some .boolean), Cond.methodLink RX2 42 yX2_requireRunning]
def wsL_unlock_r2 : List Cond := [Cond.static yX2_requireRunning, Cond.code yX2_requireRunning cX2_requireRunning 1 none, Cond.fieldLink RX2 76 "FutexKernel$Task" "state" "I", Cond.methodLink RX2 73 yX2_ownerAt, Cond.instanceMethod yX2_ownerAt, Cond.selects RX2 yX2_ownerAt yX2_ownerAt, Cond.code yX2_ownerAt cX2_ownerAt 3 (some (.object "FutexKernel$Task")), Cond.fieldLink RX2 9 "FutexKernel" "words" "[I", Cond.methodLink RX2 93 yX0_drop, Cond.instanceMethod yX0_drop, Cond.selects RX0 yX0_drop yX0_drop, Cond.initialized RX0, Cond.code yX0_drop cX0_drop 4 none, Cond.fieldLink RX0 15 "FutexKernel$LockList" "size" "I", Cond.fieldLink RX0 9 "FutexKernel$LockList" "addresses" "[I", Cond.methodLink RX0 19 yX0_placeOf, Cond.instanceMethod yX0_placeOf, Cond.selects RX0 yX0_placeOf yX0_placeOf, Cond.code yX0_placeOf cX0_placeOf 3 (some .int), Cond.methodLink RX2 98 yX2_passOn, Cond.instanceMethod yX2_passOn, Cond.selects RX2 yX2_passOn yX2_passOn, Cond.code yX2_passOn cX2_passOn 5 (some .int), Cond.constant RX2 68 (1073741824)]
def wsL_unlock_r3 : List Cond := [Cond.fieldLink RX2 173 "FutexKernel$Task" "number" "I", Cond.methodLink RX2 215 yX2_firstLockingAt, Cond.instanceMethod yX2_firstLockingAt, Cond.selects RX2 yX2_firstLockingAt yX2_firstLockingAt, Cond.code yX2_firstLockingAt cX2_firstLockingAt 2 (some (.object "FutexKernel$Task")), Cond.methodLink RX2 208 yX2_firstAt, Cond.instanceMethod yX2_firstAt, Cond.selects RX2 yX2_firstAt yX2_firstAt, Cond.code yX2_firstAt cX2_firstAt 10 (some (.object "FutexKernel$Task")), Cond.fieldLink RX2 156 "FutexKernel$Task" "address" "I", Cond.fieldLink RX2 205 "FutexKernel$Task" "mask" "I", Cond.methodLink RX2 201 yX1_isAheadOf, Cond.instanceMethod yX1_isAheadOf, Cond.selects RX1 yX1_isAheadOf yX1_isAheadOf, Cond.initialized RX1, Cond.code yX1_isAheadOf cX1_isAheadOf 2 (some .boolean), Cond.fieldLink RX1 22 "FutexKernel$Task" "priority" "I", Cond.fieldLink RX1 37 "FutexKernel$Task" "joined" "I", Cond.methodLink RX2 132 yX2_endWait, Cond.instanceMethod yX2_endWait, Cond.selects RX2 yX2_endWait yX2_endWait, Cond.code yX2_endWait cX2_endWait 3 none, Cond.fieldLink RX2 150 "FutexKernel$Task" "result" "I", Cond.fieldLink RX2 23 "FutexKernel" "endedWaits" "I"]
def wsL_unlock_r4 : List Cond := [Cond.fieldLink RX2 153 "FutexKernel$Task" "serial" "I", Cond.methodLink RX2 139 yX2_leaveQueue, Cond.instanceMethod yX2_leaveQueue, Cond.selects RX2 yX2_leaveQueue yX2_leaveQueue, Cond.code yX2_leaveQueue cX2_leaveQueue 4 none, Cond.fieldLink RX2 166 "FutexKernel$Task" "deadline" "I", Cond.constant RX2 218 (2147483647), Cond.methodLink RX2 69 yX2_giveLock, Cond.instanceMethod yX2_giveLock, Cond.selects RX2 yX2_giveLock yX2_giveLock, Cond.code yX2_giveLock cX2_giveLock 5 none, Cond.constant RX2 83 (-2147483648), Cond.methodLink RX2 222 yX0_add, Cond.instanceMethod yX0_add, Cond.selects RX0 yX0_add yX0_add, Cond.code yX0_add cX0_add 2 none]
def wsL_unlock : List Cond := .codeWith yL_unlock cL_unlock 5 (some .int) [(0, 10, 13, 13), (0, 10, 17, 15)] :: ((wsL_unlock_r1 ++ (wsL_unlock_r2 ++ (wsL_unlock_r3 ++ wsL_unlock_r4))) ++ wsX10 ++ wsX20 ++ wsX00 ++ (vx_atS RX2 88 "java/lang/IllegalStateException" ["java/lang/RuntimeException", "java/lang/Exception"]).filter goodWord ++ (vx_atS RX2 109 "java/lang/IndexOutOfBoundsException" ["java/lang/RuntimeException", "java/lang/Exception"]).filter goodWord)
def wsL_locks : List Cond := .codeWith yL_locks cL_locks 4 (some .int) [(0, 9, 12, 13)] :: ([.classLink RL 13 "java/lang/IndexOutOfBoundsException", .methodLink RL 49 yX2_locks, .instanceMethod yX2_locks, .selects RX2 yX2_locks yX2_locks, .initialized RX2, .code yX2_locks cX2_locks 2 (some .int), .fieldLink RX2 89 "FutexKernel$Task" "held" "LFutexKernel$LockList;", .fieldLink RX2 102 "FutexKernel$LockList" "size" "I", .methodLink RX2 35 yX2_taskOf, .instanceMethod yX2_taskOf, .selects RX2 yX2_taskOf yX2_taskOf, .code yX2_taskOf cX2_taskOf 2 (some (.object "FutexKernel$Task")), .classLink RX2 105 "java/lang/IndexOutOfBoundsException", .initialized "java/lang/IndexOutOfBoundsException", .fieldLink RX2 15 "FutexKernel" "tasks" "[LFutexKernel$Task;"] ++ wsX10 ++ wsX00 ++ wsX20 ++ (vx_atS RX2 109 "java/lang/IndexOutOfBoundsException" ["java/lang/RuntimeException", "java/lang/Exception"]).filter goodWord)
def wsL_lockAt : List Cond := .codeWith yL_lockAt cL_lockAt 5 (some .int) [(0, 10, 13, 13)] :: ([.classLink RL 13 "java/lang/IndexOutOfBoundsException", .methodLink RL 52 yX2_lockAt, .instanceMethod yX2_lockAt, .selects RX2 yX2_lockAt yX2_lockAt, .initialized RX2, .code yX2_lockAt cX2_lockAt 4 (some .int), .classLink RX2 105 "java/lang/IndexOutOfBoundsException", .initialized "java/lang/IndexOutOfBoundsException", .fieldLink RX2 89 "FutexKernel$Task" "held" "LFutexKernel$LockList;", .fieldLink RX2 102 "FutexKernel$LockList" "size" "I", .methodLink RX2 35 yX2_taskOf, .instanceMethod yX2_taskOf, .selects RX2 yX2_taskOf yX2_taskOf, .code yX2_taskOf cX2_taskOf 2 (some (.object "FutexKernel$Task")), .fieldLink RX2 15 "FutexKernel" "tasks" "[LFutexKernel$Task;", .methodLink RX2 110 yX0_addressAt, .instanceMethod yX0_addressAt, .selects RX0 yX0_addressAt yX0_addressAt, .initialized RX0, .code yX0_addressAt cX0_addressAt 2 (some .int), .fieldLink RX0 15 "FutexKernel$LockList" "size" "I", .fieldLink RX0 9 "FutexKernel$LockList" "addresses" "[I"] ++ wsX10 ++ wsX00 ++ wsX20 ++ (vx_atS RX2 109 "java/lang/IndexOutOfBoundsException" ["java/lang/RuntimeException", "java/lang/Exception"]).filter goodWord)
def wsL_blockedBy_r1 : List Cond := [Cond.classLink RL 13 "java/lang/IndexOutOfBoundsException", Cond.methodLink RL 55 yX2_blockedBy, Cond.instanceMethod yX2_blockedBy, Cond.selects RX2 yX2_blockedBy yX2_blockedBy, Cond.initialized RX2, Cond.code yX2_blockedBy cX2_blockedBy 4 (some .int), Cond.methodLink RX2 35 yX2_taskOf, Cond.instanceMethod yX2_taskOf, Cond.selects RX2 yX2_taskOf yX2_taskOf, Cond.code yX2_taskOf cX2_taskOf 2 (some (.object "FutexKernel$Task")), Cond.classLink RX2 105 "java/lang/IndexOutOfBoundsException", Cond.initialized "java/lang/IndexOutOfBoundsException", Cond.fieldLink RX2 15 "FutexKernel" "tasks" "[LFutexKernel$Task;", Cond.methodLink RX2 114 yX1_bit, Cond.instanceMethod yX1_bit, Cond.selects RX1 yX1_bit yX1_bit, Cond.initialized RX1, Cond.code yX1_bit cX1_bit 1 (some .int), Cond.fieldLink RX1 46 "FutexKernel$Task" "number" "I", Cond.methodLink RX2 118 yX2_blockedByOneOf, Cond.instanceMethod yX2_blockedByOneOf, Cond.selects RX2 yX2_blockedByOneOf yX2_blockedByOneOf, Cond.code yX2_blockedByOneOf cX2_blockedByOneOf 8 (some .int), Cond.fieldLink RX2 76 "FutexKernel$Task" "state" "I"]
def wsL_blockedBy_r2 : List Cond := [Cond.fieldLink RX2 156 "FutexKernel$Task" "address" "I", Cond.methodLink RX2 73 yX2_ownerAt, Cond.instanceMethod yX2_ownerAt, Cond.selects RX2 yX2_ownerAt yX2_ownerAt, Cond.code yX2_ownerAt cX2_ownerAt 3 (some (.object "FutexKernel$Task")), Cond.fieldLink RX2 9 "FutexKernel" "words" "[I", Cond.methodLink RX2 186 yX2_isAddress, Cond.static yX2_isAddress, Cond.code yX2_isAddress cX2_isAddress 1 (some .boolean), Cond.methodLink RX2 121 yJ6_bitCount_0f7a4, Cond.static yJ6_bitCount_0f7a4, Cond.initialized RJ6, Cond.code yJ6_bitCount_0f7a4 cJ6_bitCount_0f7a4 1 (some .int), Cond.constant RJ6 265 (1431655765), Cond.constant RJ6 266 (858993459), Cond.constant RJ6 267 (252645135)]
def wsL_blockedBy : List Cond := .codeWith yL_blockedBy cL_blockedBy 4 (some .int) [(0, 9, 12, 13)] :: ((wsL_blockedBy_r1 ++ wsL_blockedBy_r2) ++ wsX20 ++ wsX10 ++ (vx_atS RX2 109 "java/lang/IndexOutOfBoundsException" ["java/lang/RuntimeException", "java/lang/Exception"]).filter goodWord)
def wsL_interrupt_r1 : List Cond := [Cond.classLink RL 13 "java/lang/IndexOutOfBoundsException", Cond.classLink RL 15 "java/lang/IllegalStateException", Cond.methodLink RL 58 yX2_interrupt, Cond.instanceMethod yX2_interrupt, Cond.selects RX2 yX2_interrupt yX2_interrupt, Cond.initialized RX2, Cond.code yX2_interrupt cX2_interrupt 3 none, Cond.classLink RX2 84 "java/lang/IllegalStateException", Cond.initialized "java/lang/IllegalStateException", Cond.methodLink RX2 35 yX2_taskOf, Cond.instanceMethod yX2_taskOf, Cond.selects RX2 yX2_taskOf yX2_taskOf, Cond.code yX2_taskOf cX2_taskOf 2 (some (.object "FutexKernel$Task")), Cond.classLink RX2 105 "java/lang/IndexOutOfBoundsException", Cond.initialized "java/lang/IndexOutOfBoundsException", Cond.fieldLink RX2 15 "FutexKernel" "tasks" "[LFutexKernel$Task;", Cond.methodLink RX2 126 yX1_isQueued, Cond.instanceMethod yX1_isQueued, Cond.selects RX1 yX1_isQueued yX1_isQueued, Cond.initialized RX1, Cond.code yX1_isQueued cX1_isQueued 1 (some .boolean), Cond.fieldLink RX1 25 "FutexKernel$Task" "address" "I", Cond.methodLink RX2 132 yX2_endWait, Cond.instanceMethod yX2_endWait]
def wsL_interrupt_r2 : List Cond := [Cond.selects RX2 yX2_endWait yX2_endWait, Cond.code yX2_endWait cX2_endWait 3 none, Cond.fieldLink RX2 150 "FutexKernel$Task" "result" "I", Cond.fieldLink RX2 23 "FutexKernel" "endedWaits" "I", Cond.fieldLink RX2 153 "FutexKernel$Task" "serial" "I", Cond.methodLink RX2 139 yX2_leaveQueue, Cond.instanceMethod yX2_leaveQueue, Cond.selects RX2 yX2_leaveQueue yX2_leaveQueue, Cond.code yX2_leaveQueue cX2_leaveQueue 4 none, Cond.fieldLink RX2 156 "FutexKernel$Task" "address" "I", Cond.fieldLink RX2 76 "FutexKernel$Task" "state" "I", Cond.fieldLink RX2 166 "FutexKernel$Task" "deadline" "I", Cond.fieldLink RX2 9 "FutexKernel" "words" "[I", Cond.constant RX2 218 (2147483647), Cond.methodLink RX2 186 yX2_isAddress, Cond.static yX2_isAddress, Cond.code yX2_isAddress cX2_isAddress 1 (some .boolean), Cond.methodLink RX2 215 yX2_firstLockingAt, Cond.instanceMethod yX2_firstLockingAt, Cond.selects RX2 yX2_firstLockingAt yX2_firstLockingAt, Cond.code yX2_firstLockingAt cX2_firstLockingAt 2 (some (.object "FutexKernel$Task")), Cond.methodLink RX2 208 yX2_firstAt, Cond.instanceMethod yX2_firstAt, Cond.selects RX2 yX2_firstAt yX2_firstAt]
def wsL_interrupt_r3 : List Cond := [Cond.code yX2_firstAt cX2_firstAt 10 (some (.object "FutexKernel$Task")), Cond.fieldLink RX2 205 "FutexKernel$Task" "mask" "I", Cond.methodLink RX2 201 yX1_isAheadOf, Cond.instanceMethod yX1_isAheadOf, Cond.selects RX1 yX1_isAheadOf yX1_isAheadOf, Cond.code yX1_isAheadOf cX1_isAheadOf 2 (some .boolean), Cond.fieldLink RX1 22 "FutexKernel$Task" "priority" "I", Cond.fieldLink RX1 37 "FutexKernel$Task" "joined" "I"]
def wsL_interrupt : List Cond := .codeWith yL_interrupt cL_interrupt 3 (some .int) [(0, 5, 8, 13), (0, 5, 11, 15)] :: ((wsL_interrupt_r1 ++ (wsL_interrupt_r2 ++ wsL_interrupt_r3)) ++ wsX20 ++ wsX10 ++ (vx_atS RX2 88 "java/lang/IllegalStateException" ["java/lang/RuntimeException", "java/lang/Exception"]).filter goodWord ++ (vx_atS RX2 109 "java/lang/IndexOutOfBoundsException" ["java/lang/RuntimeException", "java/lang/Exception"]).filter goodWord)
def wsL_exit_r1 : List Cond := [Cond.classLink RL 13 "java/lang/IndexOutOfBoundsException", Cond.classLink RL 15 "java/lang/IllegalStateException", Cond.methodLink RL 62 yX2_exit, Cond.instanceMethod yX2_exit, Cond.selects RX2 yX2_exit yX2_exit, Cond.initialized RX2, Cond.code yX2_exit cX2_exit 7 (some .int), Cond.fieldLink RX2 76 "FutexKernel$Task" "state" "I", Cond.fieldLink RX2 89 "FutexKernel$Task" "held" "LFutexKernel$LockList;", Cond.fieldLink RX2 102 "FutexKernel$LockList" "size" "I", Cond.methodLink RX2 35 yX2_taskOf, Cond.instanceMethod yX2_taskOf, Cond.selects RX2 yX2_taskOf yX2_taskOf, Cond.code yX2_taskOf cX2_taskOf 2 (some (.object "FutexKernel$Task")), Cond.classLink RX2 105 "java/lang/IndexOutOfBoundsException", Cond.initialized "java/lang/IndexOutOfBoundsException", Cond.fieldLink RX2 15 "FutexKernel" "tasks" "[LFutexKernel$Task;", Cond.methodLink RX2 136 yX2_requireAlive, Cond.static yX2_requireAlive, Cond.code yX2_requireAlive cX2_requireAlive 1 none, Cond.classLink RX2 84 "java/lang/IllegalStateException", Cond.initialized "java/lang/IllegalStateException", Cond.methodLink RX2 126 yX1_isQueued, Cond.instanceMethod yX1_isQueued]
def wsL_exit_r2 : List Cond := [Cond.selects RX1 yX1_isQueued yX1_isQueued, Cond.initialized RX1, Cond.code yX1_isQueued cX1_isQueued 1 (some .boolean), Cond.fieldLink RX1 25 "FutexKernel$Task" "address" "I", Cond.methodLink RX2 139 yX2_leaveQueue, Cond.instanceMethod yX2_leaveQueue, Cond.selects RX2 yX2_leaveQueue yX2_leaveQueue, Cond.code yX2_leaveQueue cX2_leaveQueue 4 none, Cond.fieldLink RX2 156 "FutexKernel$Task" "address" "I", Cond.fieldLink RX2 166 "FutexKernel$Task" "deadline" "I", Cond.fieldLink RX2 9 "FutexKernel" "words" "[I", Cond.constant RX2 218 (2147483647), Cond.methodLink RX2 186 yX2_isAddress, Cond.static yX2_isAddress, Cond.code yX2_isAddress cX2_isAddress 1 (some .boolean), Cond.methodLink RX2 215 yX2_firstLockingAt, Cond.instanceMethod yX2_firstLockingAt, Cond.selects RX2 yX2_firstLockingAt yX2_firstLockingAt, Cond.code yX2_firstLockingAt cX2_firstLockingAt 2 (some (.object "FutexKernel$Task")), Cond.methodLink RX2 208 yX2_firstAt, Cond.instanceMethod yX2_firstAt, Cond.selects RX2 yX2_firstAt yX2_firstAt, Cond.code yX2_firstAt cX2_firstAt 10 (some (.object "FutexKernel$Task")), Cond.fieldLink RX2 205 "FutexKernel$Task" "mask" "I"]
def wsL_exit_r3 : List Cond := [Cond.methodLink RX2 201 yX1_isAheadOf, Cond.instanceMethod yX1_isAheadOf, Cond.selects RX1 yX1_isAheadOf yX1_isAheadOf, Cond.code yX1_isAheadOf cX1_isAheadOf 2 (some .boolean), Cond.fieldLink RX1 22 "FutexKernel$Task" "priority" "I", Cond.fieldLink RX1 37 "FutexKernel$Task" "joined" "I", Cond.methodLink RX2 110 yX0_addressAt, Cond.instanceMethod yX0_addressAt, Cond.selects RX0 yX0_addressAt yX0_addressAt, Cond.initialized RX0, Cond.code yX0_addressAt cX0_addressAt 2 (some .int), Cond.fieldLink RX0 15 "FutexKernel$LockList" "size" "I", Cond.fieldLink RX0 9 "FutexKernel$LockList" "addresses" "[I", Cond.methodLink RX2 73 yX2_ownerAt, Cond.instanceMethod yX2_ownerAt, Cond.selects RX2 yX2_ownerAt yX2_ownerAt, Cond.code yX2_ownerAt cX2_ownerAt 3 (some (.object "FutexKernel$Task")), Cond.methodLink RX2 98 yX2_passOn, Cond.instanceMethod yX2_passOn, Cond.selects RX2 yX2_passOn yX2_passOn, Cond.code yX2_passOn cX2_passOn 5 (some .int), Cond.constant RX2 68 (1073741824), Cond.fieldLink RX2 173 "FutexKernel$Task" "number" "I", Cond.methodLink RX2 132 yX2_endWait]
def wsL_exit_r4 : List Cond := [Cond.instanceMethod yX2_endWait, Cond.selects RX2 yX2_endWait yX2_endWait, Cond.code yX2_endWait cX2_endWait 3 none, Cond.fieldLink RX2 150 "FutexKernel$Task" "result" "I", Cond.fieldLink RX2 23 "FutexKernel" "endedWaits" "I", Cond.fieldLink RX2 153 "FutexKernel$Task" "serial" "I", Cond.methodLink RX2 69 yX2_giveLock, Cond.instanceMethod yX2_giveLock, Cond.selects RX2 yX2_giveLock yX2_giveLock, Cond.code yX2_giveLock cX2_giveLock 5 none, Cond.constant RX2 83 (-2147483648), Cond.methodLink RX2 222 yX0_add, Cond.instanceMethod yX0_add, Cond.selects RX0 yX0_add yX0_add, Cond.code yX0_add cX0_add 2 none, Cond.methodLink RX0 19 yX0_placeOf, Cond.instanceMethod yX0_placeOf, Cond.selects RX0 yX0_placeOf yX0_placeOf, Cond.code yX0_placeOf cX0_placeOf 3 (some .int), Cond.methodLink RX2 142 yX0_clear, Cond.instanceMethod yX0_clear, Cond.selects RX0 yX0_clear yX0_clear, Cond.code yX0_clear cX0_clear 1 none]
def wsL_exit : List Cond := .codeWith yL_exit cL_exit 4 (some .int) [(0, 9, 12, 13), (0, 9, 15, 15)] :: ((wsL_exit_r1 ++ (wsL_exit_r2 ++ (wsL_exit_r3 ++ wsL_exit_r4))) ++ wsX10 ++ wsX00 ++ wsX20 ++ (vx_atS RX2 109 "java/lang/IndexOutOfBoundsException" ["java/lang/RuntimeException", "java/lang/Exception"]).filter goodWord ++ (vx_atS RX2 88 "java/lang/IllegalStateException" ["java/lang/RuntimeException", "java/lang/Exception"]).filter goodWord)
def wsL_start : List Cond := .codeWith yL_start cL_start 3 (some .int) [(0, 5, 8, 13), (0, 5, 11, 15)] :: ([.classLink RL 13 "java/lang/IndexOutOfBoundsException", .classLink RL 15 "java/lang/IllegalStateException", .methodLink RL 65 yX2_start, .instanceMethod yX2_start, .selects RX2 yX2_start yX2_start, .initialized RX2, .code yX2_start cX2_start 3 none, .classLink RX2 84 "java/lang/IllegalStateException", .initialized "java/lang/IllegalStateException", .fieldLink RX2 76 "FutexKernel$Task" "state" "I", .fieldLink RX2 147 "FutexKernel$Task" "priority" "I", .fieldLink RX2 150 "FutexKernel$Task" "result" "I", .fieldLink RX2 153 "FutexKernel$Task" "serial" "I", .methodLink RX2 35 yX2_taskOf, .instanceMethod yX2_taskOf, .selects RX2 yX2_taskOf yX2_taskOf, .code yX2_taskOf cX2_taskOf 2 (some (.object "FutexKernel$Task")), .classLink RX2 105 "java/lang/IndexOutOfBoundsException", .initialized "java/lang/IndexOutOfBoundsException", .fieldLink RX2 15 "FutexKernel" "tasks" "[LFutexKernel$Task;"] ++ wsX10 ++ wsX20 ++ (vx_atS RX2 88 "java/lang/IllegalStateException" ["java/lang/RuntimeException", "java/lang/Exception"]).filter goodWord ++ (vx_atS RX2 109 "java/lang/IndexOutOfBoundsException" ["java/lang/RuntimeException", "java/lang/Exception"]).filter goodWord)
def wsL_setPriority_r1 : List Cond := [Cond.classLink RL 13 "java/lang/IndexOutOfBoundsException", Cond.classLink RL 32 "java/lang/IllegalArgumentException", Cond.classLink RL 15 "java/lang/IllegalStateException", Cond.methodLink RL 68 yX2_setPriority, Cond.instanceMethod yX2_setPriority, Cond.selects RX2 yX2_setPriority yX2_setPriority, Cond.initialized RX2, Cond.code yX2_setPriority cX2_setPriority 5 (some .int), Cond.fieldLink RX2 147 "FutexKernel$Task" "priority" "I", Cond.fieldLink RX2 156 "FutexKernel$Task" "address" "I", Cond.methodLink RX2 35 yX2_taskOf, Cond.instanceMethod yX2_taskOf, Cond.selects RX2 yX2_taskOf yX2_taskOf, Cond.code yX2_taskOf cX2_taskOf 2 (some (.object "FutexKernel$Task")), Cond.classLink RX2 105 "java/lang/IndexOutOfBoundsException", Cond.initialized "java/lang/IndexOutOfBoundsException", Cond.fieldLink RX2 15 "FutexKernel" "tasks" "[LFutexKernel$Task;", Cond.methodLink RX2 46 yX2_requireBetween, Cond.static yX2_requireBetween, Cond.code yX2_requireBetween cX2_requireBetween 3 none, Cond.classLink RX2 58 "java/lang/IllegalArgumentException", Cond.initialized "java/lang/IllegalArgumentException", Cond.methodLink RX2 136 yX2_requireAlive, Cond.static yX2_requireAlive]
def wsL_setPriority_r2 : List Cond := [Cond.code yX2_requireAlive cX2_requireAlive 1 none, Cond.classLink RX2 84 "java/lang/IllegalStateException", Cond.initialized "java/lang/IllegalStateException", Cond.fieldLink RX2 76 "FutexKernel$Task" "state" "I", Cond.methodLink RX2 126 yX1_isQueued, Cond.instanceMethod yX1_isQueued, Cond.selects RX1 yX1_isQueued yX1_isQueued, Cond.initialized RX1, Cond.code yX1_isQueued cX1_isQueued 1 (some .boolean), Cond.fieldLink RX1 25 "FutexKernel$Task" "address" "I", Cond.methodLink RX2 159 yX2_joinQueue, Cond.instanceMethod yX2_joinQueue, Cond.selects RX2 yX2_joinQueue yX2_joinQueue, Cond.code yX2_joinQueue cX2_joinQueue 3 none, Cond.fieldLink RX2 29 "FutexKernel" "joins" "I", Cond.fieldLink RX2 198 "FutexKernel$Task" "joined" "I"]
def wsL_setPriority : List Cond := .codeWith yL_setPriority cL_setPriority 5 (some .int) [(0, 10, 13, 13), (0, 10, 17, 32), (0, 10, 21, 15)] :: ((wsL_setPriority_r1 ++ wsL_setPriority_r2) ++ wsX10 ++ wsX20 ++ (vx_atS RX2 109 "java/lang/IndexOutOfBoundsException" ["java/lang/RuntimeException", "java/lang/Exception"]).filter goodWord ++ (vx_atS RX2 62 "java/lang/IllegalArgumentException" ["java/lang/RuntimeException", "java/lang/Exception"]).filter goodWord ++ (vx_atS RX2 88 "java/lang/IllegalStateException" ["java/lang/RuntimeException", "java/lang/Exception"]).filter goodWord)
def wsL_tick_r1 : List Cond := [Cond.classLink RL 32 "java/lang/IllegalArgumentException", Cond.methodLink RL 71 yX2_tick, Cond.instanceMethod yX2_tick, Cond.selects RX2 yX2_tick yX2_tick, Cond.initialized RX2, Cond.code yX2_tick cX2_tick 6 (some .int), Cond.fieldLink RX2 19 "FutexKernel" "time" "I", Cond.fieldLink RX2 166 "FutexKernel$Task" "deadline" "I", Cond.methodLink RX2 46 yX2_requireBetween, Cond.static yX2_requireBetween, Cond.code yX2_requireBetween cX2_requireBetween 3 none, Cond.classLink RX2 58 "java/lang/IllegalArgumentException", Cond.initialized "java/lang/IllegalArgumentException", Cond.methodLink RX2 162 yX2_firstToTimeOut, Cond.instanceMethod yX2_firstToTimeOut, Cond.selects RX2 yX2_firstToTimeOut yX2_firstToTimeOut, Cond.code yX2_firstToTimeOut cX2_firstToTimeOut 6 (some (.object "FutexKernel$Task")), Cond.fieldLink RX2 15 "FutexKernel" "tasks" "[LFutexKernel$Task;", Cond.methodLink RX2 219 yX1_timesOutBefore, Cond.instanceMethod yX1_timesOutBefore, Cond.selects RX1 yX1_timesOutBefore yX1_timesOutBefore, Cond.initialized RX1, Cond.code yX1_timesOutBefore cX1_timesOutBefore 2 (some .boolean), Cond.fieldLink RX1 31 "FutexKernel$Task" "deadline" "I"]
def wsL_tick_r2 : List Cond := [Cond.fieldLink RX1 34 "FutexKernel$Task" "begun" "I", Cond.methodLink RX2 132 yX2_endWait, Cond.instanceMethod yX2_endWait, Cond.selects RX2 yX2_endWait yX2_endWait, Cond.code yX2_endWait cX2_endWait 3 none, Cond.fieldLink RX2 150 "FutexKernel$Task" "result" "I", Cond.fieldLink RX2 23 "FutexKernel" "endedWaits" "I", Cond.fieldLink RX2 153 "FutexKernel$Task" "serial" "I", Cond.methodLink RX2 139 yX2_leaveQueue, Cond.instanceMethod yX2_leaveQueue, Cond.selects RX2 yX2_leaveQueue yX2_leaveQueue, Cond.code yX2_leaveQueue cX2_leaveQueue 4 none, Cond.fieldLink RX2 156 "FutexKernel$Task" "address" "I", Cond.fieldLink RX2 76 "FutexKernel$Task" "state" "I", Cond.fieldLink RX2 9 "FutexKernel" "words" "[I", Cond.constant RX2 218 (2147483647), Cond.methodLink RX2 186 yX2_isAddress, Cond.static yX2_isAddress, Cond.code yX2_isAddress cX2_isAddress 1 (some .boolean), Cond.methodLink RX2 215 yX2_firstLockingAt, Cond.instanceMethod yX2_firstLockingAt, Cond.selects RX2 yX2_firstLockingAt yX2_firstLockingAt, Cond.code yX2_firstLockingAt cX2_firstLockingAt 2 (some (.object "FutexKernel$Task")), Cond.methodLink RX2 208 yX2_firstAt]
def wsL_tick_r3 : List Cond := [Cond.instanceMethod yX2_firstAt, Cond.selects RX2 yX2_firstAt yX2_firstAt, Cond.code yX2_firstAt cX2_firstAt 10 (some (.object "FutexKernel$Task")), Cond.fieldLink RX2 205 "FutexKernel$Task" "mask" "I", Cond.methodLink RX2 201 yX1_isAheadOf, Cond.instanceMethod yX1_isAheadOf, Cond.selects RX1 yX1_isAheadOf yX1_isAheadOf, Cond.code yX1_isAheadOf cX1_isAheadOf 2 (some .boolean), Cond.fieldLink RX1 22 "FutexKernel$Task" "priority" "I", Cond.fieldLink RX1 37 "FutexKernel$Task" "joined" "I"]
def wsL_tick : List Cond := .codeWith yL_tick cL_tick 4 (some .int) [(0, 9, 12, 32)] :: ((wsL_tick_r1 ++ (wsL_tick_r2 ++ wsL_tick_r3)) ++ wsX20 ++ wsX10 ++ (vx_atS RX2 62 "java/lang/IllegalArgumentException" ["java/lang/RuntimeException", "java/lang/Exception"]).filter goodWord)
def wsL_stateOf : List Cond := .codeWith yL_stateOf cL_stateOf 4 (some .int) [(0, 9, 12, 13)] :: ([.classLink RL 13 "java/lang/IndexOutOfBoundsException", .methodLink RL 74 yX2_stateOf, .instanceMethod yX2_stateOf, .selects RX2 yX2_stateOf yX2_stateOf, .initialized RX2, .code yX2_stateOf cX2_stateOf 2 (some .int), .fieldLink RX2 76 "FutexKernel$Task" "state" "I", .methodLink RX2 35 yX2_taskOf, .instanceMethod yX2_taskOf, .selects RX2 yX2_taskOf yX2_taskOf, .code yX2_taskOf cX2_taskOf 2 (some (.object "FutexKernel$Task")), .classLink RX2 105 "java/lang/IndexOutOfBoundsException", .initialized "java/lang/IndexOutOfBoundsException", .fieldLink RX2 15 "FutexKernel" "tasks" "[LFutexKernel$Task;"] ++ wsX10 ++ wsX20 ++ (vx_atS RX2 109 "java/lang/IndexOutOfBoundsException" ["java/lang/RuntimeException", "java/lang/Exception"]).filter goodWord)
def wsL_addressOf : List Cond := .codeWith yL_addressOf cL_addressOf 4 (some .int) [(0, 9, 12, 13)] :: ([.classLink RL 13 "java/lang/IndexOutOfBoundsException", .methodLink RL 77 yX2_addressOf, .instanceMethod yX2_addressOf, .selects RX2 yX2_addressOf yX2_addressOf, .initialized RX2, .code yX2_addressOf cX2_addressOf 2 (some .int), .fieldLink RX2 156 "FutexKernel$Task" "address" "I", .methodLink RX2 35 yX2_taskOf, .instanceMethod yX2_taskOf, .selects RX2 yX2_taskOf yX2_taskOf, .code yX2_taskOf cX2_taskOf 2 (some (.object "FutexKernel$Task")), .classLink RX2 105 "java/lang/IndexOutOfBoundsException", .initialized "java/lang/IndexOutOfBoundsException", .fieldLink RX2 15 "FutexKernel" "tasks" "[LFutexKernel$Task;"] ++ wsX10 ++ wsX20 ++ (vx_atS RX2 109 "java/lang/IndexOutOfBoundsException" ["java/lang/RuntimeException", "java/lang/Exception"]).filter goodWord)
def wsL_resultOf : List Cond := .codeWith yL_resultOf cL_resultOf 4 (some .int) [(0, 9, 12, 13)] :: ([.classLink RL 13 "java/lang/IndexOutOfBoundsException", .methodLink RL 80 yX2_resultOf, .instanceMethod yX2_resultOf, .selects RX2 yX2_resultOf yX2_resultOf, .initialized RX2, .code yX2_resultOf cX2_resultOf 2 (some .int), .fieldLink RX2 150 "FutexKernel$Task" "result" "I", .methodLink RX2 35 yX2_taskOf, .instanceMethod yX2_taskOf, .selects RX2 yX2_taskOf yX2_taskOf, .code yX2_taskOf cX2_taskOf 2 (some (.object "FutexKernel$Task")), .classLink RX2 105 "java/lang/IndexOutOfBoundsException", .initialized "java/lang/IndexOutOfBoundsException", .fieldLink RX2 15 "FutexKernel" "tasks" "[LFutexKernel$Task;"] ++ wsX10 ++ wsX20 ++ (vx_atS RX2 109 "java/lang/IndexOutOfBoundsException" ["java/lang/RuntimeException", "java/lang/Exception"]).filter goodWord)
def wsL_serialOf : List Cond := .codeWith yL_serialOf cL_serialOf 4 (some .int) [(0, 9, 12, 13)] :: ([.classLink RL 13 "java/lang/IndexOutOfBoundsException", .methodLink RL 83 yX2_serialOf, .instanceMethod yX2_serialOf, .selects RX2 yX2_serialOf yX2_serialOf, .initialized RX2, .code yX2_serialOf cX2_serialOf 2 (some .int), .fieldLink RX2 153 "FutexKernel$Task" "serial" "I", .methodLink RX2 35 yX2_taskOf, .instanceMethod yX2_taskOf, .selects RX2 yX2_taskOf yX2_taskOf, .code yX2_taskOf cX2_taskOf 2 (some (.object "FutexKernel$Task")), .classLink RX2 105 "java/lang/IndexOutOfBoundsException", .initialized "java/lang/IndexOutOfBoundsException", .fieldLink RX2 15 "FutexKernel" "tasks" "[LFutexKernel$Task;"] ++ wsX10 ++ wsX20 ++ (vx_atS RX2 109 "java/lang/IndexOutOfBoundsException" ["java/lang/RuntimeException", "java/lang/Exception"]).filter goodWord)
def wsL_waiters : List Cond := .codeWith yL_waiters cL_waiters 4 (some .int) [(0, 9, 12, 13)] :: ([.classLink RL 13 "java/lang/IndexOutOfBoundsException", .methodLink RL 86 yX2_waiters, .instanceMethod yX2_waiters, .selects RX2 yX2_waiters yX2_waiters, .initialized RX2, .code yX2_waiters cX2_waiters 7 (some .int), .fieldLink RX2 15 "FutexKernel" "tasks" "[LFutexKernel$Task;", .fieldLink RX2 156 "FutexKernel$Task" "address" "I", .methodLink RX2 39 yX2_requireAddress, .static yX2_requireAddress, .code yX2_requireAddress cX2_requireAddress 1 none, .classLink RX2 105 "java/lang/IndexOutOfBoundsException", .initialized "java/lang/IndexOutOfBoundsException", .methodLink RX2 186 yX2_isAddress, .static yX2_isAddress, .code yX2_isAddress cX2_isAddress 1 (some .boolean)] ++ wsX20 ++ wsX10 ++ (vx_atS RX2 109 "java/lang/IndexOutOfBoundsException" ["java/lang/RuntimeException", "java/lang/Exception"]).filter goodWord)
def wsL_waiterAt_r1 : List Cond := [Cond.classLink RL 13 "java/lang/IndexOutOfBoundsException", Cond.methodLink RL 89 yX2_waiterAt, Cond.instanceMethod yX2_waiterAt, Cond.selects RX2 yX2_waiterAt yX2_waiterAt, Cond.initialized RX2, Cond.code yX2_waiterAt cX2_waiterAt 7 (some .int), Cond.classLink RX2 105 "java/lang/IndexOutOfBoundsException", Cond.initialized "java/lang/IndexOutOfBoundsException", Cond.fieldLink RX2 15 "FutexKernel" "tasks" "[LFutexKernel$Task;", Cond.fieldLink RX2 156 "FutexKernel$Task" "address" "I", Cond.fieldLink RX2 173 "FutexKernel$Task" "number" "I", Cond.methodLink RX2 39 yX2_requireAddress, Cond.static yX2_requireAddress, Cond.code yX2_requireAddress cX2_requireAddress 1 none, Cond.methodLink RX2 186 yX2_isAddress, Cond.static yX2_isAddress, Cond.code yX2_isAddress cX2_isAddress 1 (some .boolean), Cond.methodLink RX2 169 yX2_countAheadAtAddress, Cond.instanceMethod yX2_countAheadAtAddress, Cond.selects RX2 yX2_countAheadAtAddress yX2_countAheadAtAddress, Cond.code yX2_countAheadAtAddress cX2_countAheadAtAddress 7 (some .int), Cond.methodLink RX2 201 yX1_isAheadOf, Cond.instanceMethod yX1_isAheadOf, Cond.selects RX1 yX1_isAheadOf yX1_isAheadOf]
def wsL_waiterAt_r2 : List Cond := [Cond.initialized RX1, Cond.code yX1_isAheadOf cX1_isAheadOf 2 (some .boolean), Cond.fieldLink RX1 22 "FutexKernel$Task" "priority" "I", Cond.fieldLink RX1 37 "FutexKernel$Task" "joined" "I"]
def wsL_waiterAt : List Cond := .codeWith yL_waiterAt cL_waiterAt 5 (some .int) [(0, 10, 13, 13)] :: ((wsL_waiterAt_r1 ++ wsL_waiterAt_r2) ++ wsX20 ++ wsX10 ++ (vx_atS RX2 109 "java/lang/IndexOutOfBoundsException" ["java/lang/RuntimeException", "java/lang/Exception"]).filter goodWord)
def wsL_queueAt_r1 : List Cond := [Cond.classLink RL 13 "java/lang/IndexOutOfBoundsException", Cond.methodLink RL 92 yX2_queueAt, Cond.instanceMethod yX2_queueAt, Cond.selects RX2 yX2_queueAt yX2_queueAt, Cond.initialized RX2, Cond.code yX2_queueAt cX2_queueAt 7 (some .int), Cond.classLink RX2 105 "java/lang/IndexOutOfBoundsException", Cond.initialized "java/lang/IndexOutOfBoundsException", Cond.fieldLink RX2 15 "FutexKernel" "tasks" "[LFutexKernel$Task;", Cond.fieldLink RX2 156 "FutexKernel$Task" "address" "I", Cond.fieldLink RX2 173 "FutexKernel$Task" "number" "I", Cond.methodLink RX2 126 yX1_isQueued, Cond.instanceMethod yX1_isQueued, Cond.selects RX1 yX1_isQueued yX1_isQueued, Cond.initialized RX1, Cond.code yX1_isQueued cX1_isQueued 1 (some .boolean), Cond.fieldLink RX1 25 "FutexKernel$Task" "address" "I", Cond.methodLink RX2 178 yX2_bucketOf, Cond.static yX2_bucketOf, Cond.code yX2_bucketOf cX2_bucketOf 1 (some .int), Cond.methodLink RX2 181 yX2_countAheadInBucket, Cond.instanceMethod yX2_countAheadInBucket, Cond.selects RX2 yX2_countAheadInBucket yX2_countAheadInBucket, Cond.code yX2_countAheadInBucket cX2_countAheadInBucket 7 (some .int)]
def wsL_queueAt_r2 : List Cond := [Cond.methodLink RX2 201 yX1_isAheadOf, Cond.instanceMethod yX1_isAheadOf, Cond.selects RX1 yX1_isAheadOf yX1_isAheadOf, Cond.code yX1_isAheadOf cX1_isAheadOf 2 (some .boolean), Cond.fieldLink RX1 22 "FutexKernel$Task" "priority" "I", Cond.fieldLink RX1 37 "FutexKernel$Task" "joined" "I"]
def wsL_queueAt : List Cond := .codeWith yL_queueAt cL_queueAt 5 (some .int) [(0, 10, 13, 13)] :: ((wsL_queueAt_r1 ++ wsL_queueAt_r2) ++ wsX20 ++ wsX10 ++ (vx_atS RX2 109 "java/lang/IndexOutOfBoundsException" ["java/lang/RuntimeException", "java/lang/Exception"]).filter goodWord)
def wsL_law0_r1 : List Cond := [Cond.classLink RL 8 RX2, Cond.instantiable RX2 6, Cond.initialized RX2, Cond.classLink RL 96 RX3, Cond.instantiable RX3 17, Cond.initialized RX3, Cond.arrayClass .long, Cond.methodLink RL 95 yX2_init, Cond.instanceMethod yX2_init, Cond.code yX2_init cX2_init 2 none, Cond.methodLink RX2 1 objectInit, Cond.instanceMethod objectInit, Cond.code objectInit ⟨#[0xb1]⟩ 1 none, Cond.arrayClass .int, Cond.fieldLink RX2 9 "FutexKernel" "words" "[I", Cond.classLink RX2 13 RX1, Cond.fieldLink RX2 15 "FutexKernel" "tasks" "[LFutexKernel$Task;", Cond.fieldLink RX2 19 "FutexKernel" "time" "I", Cond.fieldLink RX2 23 "FutexKernel" "endedWaits" "I", Cond.fieldLink RX2 26 "FutexKernel" "begunWaits" "I", Cond.fieldLink RX2 29 "FutexKernel" "joins" "I", Cond.instantiable RX1 11, Cond.initialized RX1, Cond.methodLink RX2 32 yX1_init]
def wsL_law0_r2 : List Cond := [Cond.instanceMethod yX1_init, Cond.code yX1_init cX1_init 2 none, Cond.methodLink RX1 3 objectInit, Cond.classLink RX1 9 RX0, Cond.instantiable RX0 2, Cond.initialized RX0, Cond.fieldLink RX1 12 "FutexKernel$Task" "held" "LFutexKernel$LockList;", Cond.fieldLink RX1 18 "FutexKernel$Task" "state" "I", Cond.fieldLink RX1 22 "FutexKernel$Task" "priority" "I", Cond.fieldLink RX1 25 "FutexKernel$Task" "address" "I", Cond.fieldLink RX1 28 "FutexKernel$Task" "mask" "I", Cond.fieldLink RX1 31 "FutexKernel$Task" "deadline" "I", Cond.fieldLink RX1 34 "FutexKernel$Task" "begun" "I", Cond.fieldLink RX1 37 "FutexKernel$Task" "joined" "I", Cond.fieldLink RX1 40 "FutexKernel$Task" "result" "I", Cond.fieldLink RX1 43 "FutexKernel$Task" "serial" "I", Cond.fieldLink RX1 46 "FutexKernel$Task" "number" "I", Cond.instanceMethod yX0_init, Cond.code yX0_init cX0_init 1 none, Cond.methodLink RX0 3 objectInit, Cond.fieldLink RX0 9 "FutexKernel$LockList" "addresses" "[I", Cond.fieldLink RX0 15 "FutexKernel$LockList" "size" "I", Cond.methodLink RL 98 yX3_init, Cond.instanceMethod yX3_init]
def wsL_law0_r3 : List Cond := [Cond.code yX3_init cX3_init 2 none, Cond.methodLink RX3 1 objectInit, Cond.fieldLink RX3 7 "FutexKernelModel" "word" "[I", Cond.fieldLink RX3 13 "FutexKernelModel" "state" "[I", Cond.fieldLink RX3 16 "FutexKernelModel" "priority" "[I", Cond.fieldLink RX3 19 "FutexKernelModel" "result" "[I", Cond.fieldLink RX3 22 "FutexKernelModel" "serial" "[I", Cond.fieldLink RX3 25 "FutexKernelModel" "at" "[I", Cond.fieldLink RX3 28 "FutexKernelModel" "mask" "[I", Cond.fieldLink RX3 31 "FutexKernelModel" "deadline" "[I", Cond.fieldLink RX3 34 "FutexKernelModel" "began" "[I", Cond.fieldLink RX3 37 "FutexKernelModel" "joined" "[I", Cond.fieldLink RX3 40 "FutexKernelModel" "many" "[I", Cond.fieldLink RX3 43 "FutexKernelModel" "list" "[I", Cond.methodLink RL 99 yL_store, Cond.static yL_store, Cond.initialized RL, Cond.codeWith yL_store cL_store 6 (some .int) [(0, 12, 15, 13), (0, 12, 19, 15)], Cond.classLink RL 13 "java/lang/IndexOutOfBoundsException", Cond.classLink RL 15 "java/lang/IllegalStateException", Cond.methodLink RL 7 yX2_store, Cond.instanceMethod yX2_store, Cond.selects RX2 yX2_store yX2_store, Cond.code yX2_store cX2_store 6 (some .int)]
def wsL_law0_r4 : List Cond := [Cond.methodLink RX2 35 yX2_taskOf, Cond.instanceMethod yX2_taskOf, Cond.selects RX2 yX2_taskOf yX2_taskOf, Cond.code yX2_taskOf cX2_taskOf 2 (some (.object "FutexKernel$Task")), Cond.classLink RX2 105 "java/lang/IndexOutOfBoundsException", Cond.initialized "java/lang/IndexOutOfBoundsException", Cond.methodLink RX2 39 yX2_requireAddress, Cond.static yX2_requireAddress, Cond.code yX2_requireAddress cX2_requireAddress 1 none, Cond.methodLink RX2 186 yX2_isAddress, Cond.static yX2_isAddress, Cond.code yX2_isAddress cX2_isAddress 1 (some .boolean), Cond.methodLink RX2 42 yX2_requireRunning, Cond.static yX2_requireRunning, Cond.code yX2_requireRunning cX2_requireRunning 1 none, Cond.classLink RX2 84 "java/lang/IllegalStateException", Cond.initialized "java/lang/IllegalStateException", Cond.fieldLink RX2 76 "FutexKernel$Task" "state" "I", Cond.methodLink RL 104 yX3_store, Cond.instanceMethod yX3_store, Cond.selects RX3 yX3_store yX3_store, Cond.code yX3_store cX3_store 5 (some .int), Cond.methodLink RX3 89 yX3_asksRunning, Cond.instanceMethod yX3_asksRunning]
def wsL_law0_r5 : List Cond := [Cond.selects RX3 yX3_asksRunning yX3_asksRunning, Cond.code yX3_asksRunning cX3_asksRunning 5 (some .boolean), Cond.fieldLink RX3 46 "FutexKernelModel" "thrown" "I", Cond.methodLink RX3 83 yX3_isThread, Cond.static yX3_isThread, Cond.code yX3_isThread cX3_isThread 1 (some .boolean), Cond.methodLink RX3 86 yX3_isAddress, Cond.static yX3_isAddress, Cond.code yX3_isAddress cX3_isAddress 1 (some .boolean), Cond.methodLink RL 105 yX3_thrown, Cond.instanceMethod yX3_thrown, Cond.selects RX3 yX3_thrown yX3_thrown, Cond.code yX3_thrown cX3_thrown 1 (some .int), Cond.methodLink RL 109 yL_compareAndSet, Cond.static yL_compareAndSet, Cond.codeWith yL_compareAndSet cL_compareAndSet 7 (some .int) [(0, 21, 24, 13), (0, 21, 28, 15)], Cond.methodLink RL 17 yX2_compareAndSet, Cond.instanceMethod yX2_compareAndSet, Cond.selects RX2 yX2_compareAndSet yX2_compareAndSet, Cond.code yX2_compareAndSet cX2_compareAndSet 6 (some .boolean), Cond.methodLink RL 112 yX3_compareAndSet, Cond.instanceMethod yX3_compareAndSet, Cond.selects RX3 yX3_compareAndSet yX3_compareAndSet, Cond.code yX3_compareAndSet cX3_compareAndSet 5 (some .boolean)]
def wsL_law0_r6 : List Cond := [Cond.methodLink RL 113 yL_fetchAdd, Cond.static yL_fetchAdd, Cond.codeWith yL_fetchAdd cL_fetchAdd 6 (some .int) [(0, 12, 15, 13), (0, 12, 19, 15)], Cond.methodLink RL 21 yX2_fetchAdd, Cond.instanceMethod yX2_fetchAdd, Cond.selects RX2 yX2_fetchAdd yX2_fetchAdd, Cond.code yX2_fetchAdd cX2_fetchAdd 6 (some .int), Cond.methodLink RL 115 yX3_fetchAdd, Cond.instanceMethod yX3_fetchAdd, Cond.selects RX3 yX3_fetchAdd yX3_fetchAdd, Cond.code yX3_fetchAdd cX3_fetchAdd 5 (some .int), Cond.methodLink RL 116 yL_word, Cond.static yL_word, Cond.codeWith yL_word cL_word 4 (some .int) [(0, 9, 12, 13)], Cond.methodLink RL 24 yX2_word, Cond.instanceMethod yX2_word, Cond.selects RX2 yX2_word yX2_word, Cond.code yX2_word cX2_word 2 (some .int), Cond.methodLink RL 119 yX3_word, Cond.instanceMethod yX3_word, Cond.selects RX3 yX3_word yX3_word, Cond.code yX3_word cX3_word 2 (some .int), Cond.methodLink RX3 93 yX3_asks, Cond.instanceMethod yX3_asks]
def wsL_law0_r7 : List Cond := [Cond.selects RX3 yX3_asks yX3_asks, Cond.code yX3_asks cX3_asks 2 (some .boolean), Cond.methodLink RL 120 yL_await, Cond.static yL_await, Cond.codeWith yL_await cL_await 8 (some .int) [(0, 23, 26, 13), (0, 23, 30, 32), (0, 23, 34, 15)], Cond.classLink RL 32 "java/lang/IllegalArgumentException", Cond.methodLink RL 28 yX2_await, Cond.instanceMethod yX2_await, Cond.selects RX2 yX2_await yX2_await, Cond.code yX2_await cX2_await 7 (some .boolean), Cond.methodLink RX2 46 yX2_requireBetween, Cond.static yX2_requireBetween, Cond.code yX2_requireBetween cX2_requireBetween 3 none, Cond.classLink RX2 58 "java/lang/IllegalArgumentException", Cond.initialized "java/lang/IllegalArgumentException", Cond.methodLink RX2 50 yX2_beginWait, Cond.instanceMethod yX2_beginWait, Cond.selects RX2 yX2_beginWait yX2_beginWait, Cond.code yX2_beginWait cX2_beginWait 6 none, Cond.fieldLink RX2 205 "FutexKernel$Task" "mask" "I", Cond.fieldLink RX2 166 "FutexKernel$Task" "deadline" "I", Cond.fieldLink RX2 212 "FutexKernel$Task" "begun" "I", Cond.methodLink RX2 159 yX2_joinQueue, Cond.instanceMethod yX2_joinQueue]
def wsL_law0_r8 : List Cond := [Cond.selects RX2 yX2_joinQueue yX2_joinQueue, Cond.code yX2_joinQueue cX2_joinQueue 3 none, Cond.fieldLink RX2 156 "FutexKernel$Task" "address" "I", Cond.fieldLink RX2 198 "FutexKernel$Task" "joined" "I", Cond.methodLink RL 123 yX3_await, Cond.instanceMethod yX3_await, Cond.selects RX3 yX3_await yX3_await, Cond.code yX3_await cX3_await 6 (some .boolean), Cond.methodLink RX3 97 yX3_isMask, Cond.static yX3_isMask, Cond.code yX3_isMask cX3_isMask 1 (some .boolean), Cond.methodLink RX3 100 yX3_isTimeout, Cond.static yX3_isTimeout, Cond.code yX3_isTimeout cX3_isTimeout 1 (some .boolean), Cond.methodLink RX3 103 yX3_waits, Cond.instanceMethod yX3_waits, Cond.selects RX3 yX3_waits yX3_waits, Cond.code yX3_waits cX3_waits 6 none, Cond.fieldLink RX3 75 "FutexKernelModel" "time" "I", Cond.fieldLink RX3 78 "FutexKernelModel" "begins" "I", Cond.methodLink RX3 81 yX3_joins, Cond.instanceMethod yX3_joins, Cond.selects RX3 yX3_joins yX3_joins, Cond.code yX3_joins cX3_joins 3 none]
def wsL_law0_r9 : List Cond := [Cond.fieldLink RX3 60 "FutexKernelModel" "joins" "I", Cond.methodLink RL 124 yL_wake, Cond.static yL_wake, Cond.codeWith yL_wake cL_wake 7 (some .int) [(0, 14, 17, 13), (0, 14, 21, 32), (0, 14, 25, 15)], Cond.methodLink RL 34 yX2_wake, Cond.instanceMethod yX2_wake, Cond.selects RX2 yX2_wake yX2_wake, Cond.code yX2_wake cX2_wake 6 (some .int), Cond.methodLink RX2 54 yX2_wakeFirst, Cond.instanceMethod yX2_wakeFirst, Cond.selects RX2 yX2_wakeFirst yX2_wakeFirst, Cond.code yX2_wakeFirst cX2_wakeFirst 6 (some .int), Cond.methodLink RX2 208 yX2_firstAt, Cond.instanceMethod yX2_firstAt, Cond.selects RX2 yX2_firstAt yX2_firstAt, Cond.code yX2_firstAt cX2_firstAt 10 (some (.object "FutexKernel$Task")), Cond.methodLink RX2 201 yX1_isAheadOf, Cond.instanceMethod yX1_isAheadOf, Cond.selects RX1 yX1_isAheadOf yX1_isAheadOf, Cond.code yX1_isAheadOf cX1_isAheadOf 2 (some .boolean), Cond.methodLink RX2 132 yX2_endWait, Cond.instanceMethod yX2_endWait, Cond.selects RX2 yX2_endWait yX2_endWait, Cond.code yX2_endWait cX2_endWait 3 none]
def wsL_law0_r10 : List Cond := [Cond.fieldLink RX2 150 "FutexKernel$Task" "result" "I", Cond.fieldLink RX2 153 "FutexKernel$Task" "serial" "I", Cond.methodLink RX2 139 yX2_leaveQueue, Cond.instanceMethod yX2_leaveQueue, Cond.selects RX2 yX2_leaveQueue yX2_leaveQueue, Cond.code yX2_leaveQueue cX2_leaveQueue 4 none, Cond.constant RX2 218 (2147483647), Cond.methodLink RX2 215 yX2_firstLockingAt, Cond.instanceMethod yX2_firstLockingAt, Cond.selects RX2 yX2_firstLockingAt yX2_firstLockingAt, Cond.code yX2_firstLockingAt cX2_firstLockingAt 2 (some (.object "FutexKernel$Task")), Cond.methodLink RL 126 yX3_wake, Cond.instanceMethod yX3_wake, Cond.selects RX3 yX3_wake yX3_wake, Cond.code yX3_wake cX3_wake 5 (some .int), Cond.methodLink RX3 109 yX3_wakes, Cond.instanceMethod yX3_wakes, Cond.selects RX3 yX3_wakes yX3_wakes, Cond.code yX3_wakes cX3_wakes 6 (some .int), Cond.methodLink RX3 56 yX3_first, Cond.instanceMethod yX3_first, Cond.selects RX3 yX3_first yX3_first, Cond.code yX3_first cX3_first 7 (some .int), Cond.methodLink RX3 52 yX3_key]
def wsL_law0_r11 : List Cond := [Cond.instanceMethod yX3_key, Cond.selects RX3 yX3_key yX3_key, Cond.code yX3_key cX3_key 2 (some .long), Cond.constantLong RX3 50 (1000000000), Cond.methodLink RX3 107 yX3_ends, Cond.instanceMethod yX3_ends, Cond.selects RX3 yX3_ends yX3_ends, Cond.code yX3_ends cX3_ends 3 none, Cond.fieldLink RX3 72 "FutexKernelModel" "ends" "I", Cond.methodLink RX3 68 yX3_leaves, Cond.instanceMethod yX3_leaves, Cond.selects RX3 yX3_leaves yX3_leaves, Cond.code yX3_leaves cX3_leaves 4 none, Cond.constant RX3 67 (2147483647), Cond.methodLink RX3 63 yX3_isSomebodyLocking, Cond.instanceMethod yX3_isSomebodyLocking, Cond.selects RX3 yX3_isSomebodyLocking yX3_isSomebodyLocking, Cond.code yX3_isSomebodyLocking cX3_isSomebodyLocking 2 (some .boolean), Cond.methodLink RL 127 yL_requeue, Cond.static yL_requeue, Cond.codeWith yL_requeue cL_requeue 9 (some .int) [(0, 18, 21, 13), (0, 18, 25, 32), (0, 18, 29, 15)], Cond.methodLink RL 38 yX2_requeue, Cond.instanceMethod yX2_requeue, Cond.selects RX2 yX2_requeue yX2_requeue]
def wsL_law0_r12 : List Cond := [Cond.code yX2_requeue cX2_requeue 9 (some .int), Cond.methodLink RX2 65 yX2_moveFirst, Cond.instanceMethod yX2_moveFirst, Cond.selects RX2 yX2_moveFirst yX2_moveFirst, Cond.code yX2_moveFirst cX2_moveFirst 6 (some .int), Cond.methodLink RL 130 yX3_requeue, Cond.instanceMethod yX3_requeue, Cond.selects RX3 yX3_requeue yX3_requeue, Cond.code yX3_requeue cX3_requeue 10 (some .int), Cond.methodLink RX3 112 yX3_fails, Cond.instanceMethod yX3_fails, Cond.selects RX3 yX3_fails yX3_fails, Cond.code yX3_fails cX3_fails 2 (some .int), Cond.methodLink RL 131 yL_lock, Cond.static yL_lock, Cond.codeWith yL_lock cL_lock 6 (some .int) [(0, 12, 15, 13), (0, 12, 19, 32), (0, 12, 23, 15)], Cond.methodLink RL 42 yX2_lock, Cond.instanceMethod yX2_lock, Cond.selects RX2 yX2_lock yX2_lock, Cond.code yX2_lock cX2_lock 7 (some .int), Cond.constant RX2 68 (1073741824), Cond.constant RX2 83 (-2147483648), Cond.methodLink RX2 69 yX2_giveLock, Cond.instanceMethod yX2_giveLock]
def wsL_law0_r13 : List Cond := [Cond.selects RX2 yX2_giveLock yX2_giveLock, Cond.code yX2_giveLock cX2_giveLock 5 none, Cond.fieldLink RX2 173 "FutexKernel$Task" "number" "I", Cond.fieldLink RX2 89 "FutexKernel$Task" "held" "LFutexKernel$LockList;", Cond.methodLink RX2 222 yX0_add, Cond.instanceMethod yX0_add, Cond.selects RX0 yX0_add yX0_add, Cond.code yX0_add cX0_add 2 none, Cond.methodLink RX0 19 yX0_placeOf, Cond.instanceMethod yX0_placeOf, Cond.selects RX0 yX0_placeOf yX0_placeOf, Cond.code yX0_placeOf cX0_placeOf 3 (some .int), Cond.methodLink RX2 73 yX2_ownerAt, Cond.instanceMethod yX2_ownerAt, Cond.selects RX2 yX2_ownerAt yX2_ownerAt, Cond.code yX2_ownerAt cX2_ownerAt 3 (some (.object "FutexKernel$Task")), Cond.methodLink RX2 79 yX2_isHeldUpBy, Cond.instanceMethod yX2_isHeldUpBy, Cond.selects RX2 yX2_isHeldUpBy yX2_isHeldUpBy, Cond.code yX2_isHeldUpBy cX2_isHeldUpBy 5 (some .boolean), Cond.methodLink RL 133 yX3_lock, Cond.instanceMethod yX3_lock, Cond.selects RX3 yX3_lock yX3_lock, Cond.code yX3_lock cX3_lock 6 (some .int)]
def wsL_law0_r14 : List Cond := [Cond.constant RX3 120 (1073741824), Cond.constant RX3 121 (-2147483648), Cond.methodLink RX3 125 yX3_ownerOf, Cond.static yX3_ownerOf, Cond.code yX3_ownerOf cX3_ownerOf 1 (some .int), Cond.methodLink RX3 122 yX3_gets, Cond.instanceMethod yX3_gets, Cond.selects RX3 yX3_gets yX3_gets, Cond.code yX3_gets cX3_gets 3 none, Cond.methodLink RX3 116 yX3_place, Cond.instanceMethod yX3_place, Cond.selects RX3 yX3_place yX3_place, Cond.code yX3_place cX3_place 5 (some .int), Cond.methodLink RX3 128 yX3_isDeadlock, Cond.instanceMethod yX3_isDeadlock, Cond.selects RX3 yX3_isDeadlock yX3_isDeadlock, Cond.code yX3_isDeadlock cX3_isDeadlock 6 (some .boolean), Cond.methodLink RL 134 yL_unlock, Cond.static yL_unlock, Cond.codeWith yL_unlock cL_unlock 5 (some .int) [(0, 10, 13, 13), (0, 10, 17, 15)], Cond.methodLink RL 45 yX2_unlock, Cond.instanceMethod yX2_unlock, Cond.selects RX2 yX2_unlock yX2_unlock, Cond.code yX2_unlock cX2_unlock 4 (some .int)]
def wsL_law0_r15 : List Cond := [Cond.methodLink RX2 93 yX0_drop, Cond.instanceMethod yX0_drop, Cond.selects RX0 yX0_drop yX0_drop, Cond.code yX0_drop cX0_drop 4 none, Cond.methodLink RX2 98 yX2_passOn, Cond.instanceMethod yX2_passOn, Cond.selects RX2 yX2_passOn yX2_passOn, Cond.code yX2_passOn cX2_passOn 5 (some .int), Cond.methodLink RL 137 yX3_unlock, Cond.instanceMethod yX3_unlock, Cond.selects RX3 yX3_unlock yX3_unlock, Cond.code yX3_unlock cX3_unlock 3 (some .int), Cond.methodLink RX3 132 yX3_drops, Cond.instanceMethod yX3_drops, Cond.selects RX3 yX3_drops yX3_drops, Cond.code yX3_drops cX3_drops 4 none, Cond.methodLink RX3 135 yX3_passes, Cond.instanceMethod yX3_passes, Cond.selects RX3 yX3_passes yX3_passes, Cond.code yX3_passes cX3_passes 5 (some .int), Cond.methodLink RL 138 yL_locks, Cond.static yL_locks, Cond.codeWith yL_locks cL_locks 4 (some .int) [(0, 9, 12, 13)], Cond.methodLink RL 49 yX2_locks]
def wsL_law0_r16 : List Cond := [Cond.instanceMethod yX2_locks, Cond.selects RX2 yX2_locks yX2_locks, Cond.code yX2_locks cX2_locks 2 (some .int), Cond.fieldLink RX2 102 "FutexKernel$LockList" "size" "I", Cond.methodLink RL 140 yX3_locks, Cond.instanceMethod yX3_locks, Cond.selects RX3 yX3_locks yX3_locks, Cond.code yX3_locks cX3_locks 2 (some .int), Cond.methodLink RL 141 yL_lockAt, Cond.static yL_lockAt, Cond.codeWith yL_lockAt cL_lockAt 5 (some .int) [(0, 10, 13, 13)], Cond.methodLink RL 52 yX2_lockAt, Cond.instanceMethod yX2_lockAt, Cond.selects RX2 yX2_lockAt yX2_lockAt, Cond.code yX2_lockAt cX2_lockAt 4 (some .int), Cond.methodLink RX2 110 yX0_addressAt, Cond.instanceMethod yX0_addressAt, Cond.selects RX0 yX0_addressAt yX0_addressAt, Cond.code yX0_addressAt cX0_addressAt 2 (some .int), Cond.methodLink RL 143 yX3_lockAt, Cond.instanceMethod yX3_lockAt, Cond.selects RX3 yX3_lockAt yX3_lockAt, Cond.code yX3_lockAt cX3_lockAt 3 (some .int), Cond.methodLink RL 144 yL_blockedBy]
def wsL_law0_r17 : List Cond := [Cond.static yL_blockedBy, Cond.codeWith yL_blockedBy cL_blockedBy 4 (some .int) [(0, 9, 12, 13)], Cond.methodLink RL 55 yX2_blockedBy, Cond.instanceMethod yX2_blockedBy, Cond.selects RX2 yX2_blockedBy yX2_blockedBy, Cond.code yX2_blockedBy cX2_blockedBy 4 (some .int), Cond.methodLink RX2 114 yX1_bit, Cond.instanceMethod yX1_bit, Cond.selects RX1 yX1_bit yX1_bit, Cond.code yX1_bit cX1_bit 1 (some .int), Cond.methodLink RX2 118 yX2_blockedByOneOf, Cond.instanceMethod yX2_blockedByOneOf, Cond.selects RX2 yX2_blockedByOneOf yX2_blockedByOneOf, Cond.code yX2_blockedByOneOf cX2_blockedByOneOf 8 (some .int), Cond.methodLink RX2 121 yJ6_bitCount_0f7a4, Cond.static yJ6_bitCount_0f7a4, Cond.initialized RJ6, Cond.code yJ6_bitCount_0f7a4 cJ6_bitCount_0f7a4 1 (some .int), Cond.constant RJ6 265 (1431655765), Cond.constant RJ6 266 (858993459), Cond.constant RJ6 267 (252645135), Cond.methodLink RL 146 yX3_blockedBy, Cond.instanceMethod yX3_blockedBy, Cond.selects RX3 yX3_blockedBy yX3_blockedBy]
def wsL_law0_r18 : List Cond := [Cond.code yX3_blockedBy cX3_blockedBy 6 (some .int), Cond.methodLink RL 147 yL_interrupt, Cond.static yL_interrupt, Cond.codeWith yL_interrupt cL_interrupt 3 (some .int) [(0, 5, 8, 13), (0, 5, 11, 15)], Cond.methodLink RL 58 yX2_interrupt, Cond.instanceMethod yX2_interrupt, Cond.selects RX2 yX2_interrupt yX2_interrupt, Cond.code yX2_interrupt cX2_interrupt 3 none, Cond.methodLink RX2 126 yX1_isQueued, Cond.instanceMethod yX1_isQueued, Cond.selects RX1 yX1_isQueued yX1_isQueued, Cond.code yX1_isQueued cX1_isQueued 1 (some .boolean), Cond.methodLink RL 150 yX3_interrupt, Cond.instanceMethod yX3_interrupt, Cond.selects RX3 yX3_interrupt yX3_interrupt, Cond.code yX3_interrupt cX3_interrupt 2 none, Cond.methodLink RX3 139 yX3_isQueued, Cond.instanceMethod yX3_isQueued, Cond.selects RX3 yX3_isQueued yX3_isQueued, Cond.code yX3_isQueued cX3_isQueued 2 (some .boolean), Cond.methodLink RL 151 yL_exit, Cond.static yL_exit, Cond.codeWith yL_exit cL_exit 4 (some .int) [(0, 9, 12, 13), (0, 9, 15, 15)], Cond.methodLink RL 62 yX2_exit]
def wsL_law0_r19 : List Cond := [Cond.instanceMethod yX2_exit, Cond.selects RX2 yX2_exit yX2_exit, Cond.code yX2_exit cX2_exit 7 (some .int), Cond.methodLink RX2 136 yX2_requireAlive, Cond.static yX2_requireAlive, Cond.code yX2_requireAlive cX2_requireAlive 1 none, Cond.methodLink RX2 142 yX0_clear, Cond.instanceMethod yX0_clear, Cond.selects RX0 yX0_clear yX0_clear, Cond.code yX0_clear cX0_clear 1 none, Cond.methodLink RL 153 yX3_exit, Cond.instanceMethod yX3_exit, Cond.selects RX3 yX3_exit yX3_exit, Cond.code yX3_exit cX3_exit 5 (some .int), Cond.methodLink RL 154 yL_start, Cond.static yL_start, Cond.codeWith yL_start cL_start 3 (some .int) [(0, 5, 8, 13), (0, 5, 11, 15)], Cond.methodLink RL 65 yX2_start, Cond.instanceMethod yX2_start, Cond.selects RX2 yX2_start yX2_start, Cond.code yX2_start cX2_start 3 none, Cond.fieldLink RX2 147 "FutexKernel$Task" "priority" "I", Cond.methodLink RL 156 yX3_start, Cond.instanceMethod yX3_start]
def wsL_law0_r20 : List Cond := [Cond.selects RX3 yX3_start yX3_start, Cond.code yX3_start cX3_start 2 none, Cond.methodLink RL 157 yL_setPriority, Cond.static yL_setPriority, Cond.codeWith yL_setPriority cL_setPriority 5 (some .int) [(0, 10, 13, 13), (0, 10, 17, 32), (0, 10, 21, 15)], Cond.methodLink RL 68 yX2_setPriority, Cond.instanceMethod yX2_setPriority, Cond.selects RX2 yX2_setPriority yX2_setPriority, Cond.code yX2_setPriority cX2_setPriority 5 (some .int), Cond.methodLink RL 159 yX3_setPriority, Cond.instanceMethod yX3_setPriority, Cond.selects RX3 yX3_setPriority yX3_setPriority, Cond.code yX3_setPriority cX3_setPriority 4 (some .int), Cond.methodLink RL 160 yL_tick, Cond.static yL_tick, Cond.codeWith yL_tick cL_tick 4 (some .int) [(0, 9, 12, 32)], Cond.methodLink RL 71 yX2_tick, Cond.instanceMethod yX2_tick, Cond.selects RX2 yX2_tick yX2_tick, Cond.code yX2_tick cX2_tick 6 (some .int), Cond.methodLink RX2 162 yX2_firstToTimeOut, Cond.instanceMethod yX2_firstToTimeOut, Cond.selects RX2 yX2_firstToTimeOut yX2_firstToTimeOut, Cond.code yX2_firstToTimeOut cX2_firstToTimeOut 6 (some (.object "FutexKernel$Task"))]
def wsL_law0_r21 : List Cond := [Cond.methodLink RX2 219 yX1_timesOutBefore, Cond.instanceMethod yX1_timesOutBefore, Cond.selects RX1 yX1_timesOutBefore yX1_timesOutBefore, Cond.code yX1_timesOutBefore cX1_timesOutBefore 2 (some .boolean), Cond.methodLink RL 162 yX3_tick, Cond.instanceMethod yX3_tick, Cond.selects RX3 yX3_tick yX3_tick, Cond.code yX3_tick cX3_tick 5 (some .int), Cond.methodLink RX3 142 yX3_due, Cond.instanceMethod yX3_due, Cond.selects RX3 yX3_due yX3_due, Cond.code yX3_due cX3_due 3 (some .int), Cond.methodLink RL 163 yX2_now, Cond.instanceMethod yX2_now, Cond.selects RX2 yX2_now yX2_now, Cond.code yX2_now cX2_now 1 (some .int), Cond.methodLink RL 166 yX3_now, Cond.instanceMethod yX3_now, Cond.selects RX3 yX3_now yX3_now, Cond.code yX3_now cX3_now 1 (some .int), Cond.methodLink RL 167 yX2_nextTimeout, Cond.instanceMethod yX2_nextTimeout, Cond.selects RX2 yX2_nextTimeout yX2_nextTimeout, Cond.code yX2_nextTimeout cX2_nextTimeout 2 (some .int)]
def wsL_law0_r22 : List Cond := [Cond.methodLink RL 170 yX3_nextTimeout, Cond.instanceMethod yX3_nextTimeout, Cond.selects RX3 yX3_nextTimeout yX3_nextTimeout, Cond.code yX3_nextTimeout cX3_nextTimeout 4 (some .int), Cond.methodLink RL 171 yL_stateOf, Cond.static yL_stateOf, Cond.codeWith yL_stateOf cL_stateOf 4 (some .int) [(0, 9, 12, 13)], Cond.methodLink RL 74 yX2_stateOf, Cond.instanceMethod yX2_stateOf, Cond.selects RX2 yX2_stateOf yX2_stateOf, Cond.code yX2_stateOf cX2_stateOf 2 (some .int), Cond.methodLink RL 173 yX3_stateOf, Cond.instanceMethod yX3_stateOf, Cond.selects RX3 yX3_stateOf yX3_stateOf, Cond.code yX3_stateOf cX3_stateOf 2 (some .int), Cond.methodLink RL 174 yL_addressOf, Cond.static yL_addressOf, Cond.codeWith yL_addressOf cL_addressOf 4 (some .int) [(0, 9, 12, 13)], Cond.methodLink RL 77 yX2_addressOf, Cond.instanceMethod yX2_addressOf, Cond.selects RX2 yX2_addressOf yX2_addressOf, Cond.code yX2_addressOf cX2_addressOf 2 (some .int), Cond.methodLink RL 176 yX3_addressOf, Cond.instanceMethod yX3_addressOf]
def wsL_law0_r23 : List Cond := [Cond.selects RX3 yX3_addressOf yX3_addressOf, Cond.code yX3_addressOf cX3_addressOf 2 (some .int), Cond.methodLink RL 177 yL_resultOf, Cond.static yL_resultOf, Cond.codeWith yL_resultOf cL_resultOf 4 (some .int) [(0, 9, 12, 13)], Cond.methodLink RL 80 yX2_resultOf, Cond.instanceMethod yX2_resultOf, Cond.selects RX2 yX2_resultOf yX2_resultOf, Cond.code yX2_resultOf cX2_resultOf 2 (some .int), Cond.methodLink RL 179 yX3_resultOf, Cond.instanceMethod yX3_resultOf, Cond.selects RX3 yX3_resultOf yX3_resultOf, Cond.code yX3_resultOf cX3_resultOf 2 (some .int), Cond.methodLink RL 180 yL_serialOf, Cond.static yL_serialOf, Cond.codeWith yL_serialOf cL_serialOf 4 (some .int) [(0, 9, 12, 13)], Cond.methodLink RL 83 yX2_serialOf, Cond.instanceMethod yX2_serialOf, Cond.selects RX2 yX2_serialOf yX2_serialOf, Cond.code yX2_serialOf cX2_serialOf 2 (some .int), Cond.methodLink RL 182 yX3_serialOf, Cond.instanceMethod yX3_serialOf, Cond.selects RX3 yX3_serialOf yX3_serialOf, Cond.code yX3_serialOf cX3_serialOf 2 (some .int)]
def wsL_law0_r24 : List Cond := [Cond.methodLink RL 183 yL_waiters, Cond.static yL_waiters, Cond.codeWith yL_waiters cL_waiters 4 (some .int) [(0, 9, 12, 13)], Cond.methodLink RL 86 yX2_waiters, Cond.instanceMethod yX2_waiters, Cond.selects RX2 yX2_waiters yX2_waiters, Cond.code yX2_waiters cX2_waiters 7 (some .int), Cond.methodLink RL 185 yX3_waiters, Cond.instanceMethod yX3_waiters, Cond.selects RX3 yX3_waiters yX3_waiters, Cond.code yX3_waiters cX3_waiters 2 (some .int), Cond.methodLink RX3 146 yX3_countAt, Cond.instanceMethod yX3_countAt, Cond.selects RX3 yX3_countAt yX3_countAt, Cond.code yX3_countAt cX3_countAt 4 (some .int), Cond.methodLink RL 186 yL_waiterAt, Cond.static yL_waiterAt, Cond.codeWith yL_waiterAt cL_waiterAt 5 (some .int) [(0, 10, 13, 13)], Cond.methodLink RL 89 yX2_waiterAt, Cond.instanceMethod yX2_waiterAt, Cond.selects RX2 yX2_waiterAt yX2_waiterAt, Cond.code yX2_waiterAt cX2_waiterAt 7 (some .int), Cond.methodLink RX2 169 yX2_countAheadAtAddress, Cond.instanceMethod yX2_countAheadAtAddress]
def wsL_law0_r25 : List Cond := [Cond.selects RX2 yX2_countAheadAtAddress yX2_countAheadAtAddress, Cond.code yX2_countAheadAtAddress cX2_countAheadAtAddress 7 (some .int), Cond.methodLink RL 188 yX3_waiterAt, Cond.instanceMethod yX3_waiterAt, Cond.selects RX3 yX3_waiterAt yX3_waiterAt, Cond.code yX3_waiterAt cX3_waiterAt 3 (some .int), Cond.methodLink RX3 149 yX3_bucketOf, Cond.static yX3_bucketOf, Cond.code yX3_bucketOf cX3_bucketOf 1 (some .int), Cond.methodLink RX3 156 yX3_thread, Cond.instanceMethod yX3_thread, Cond.selects RX3 yX3_thread yX3_thread, Cond.code yX3_thread cX3_thread 8 (some .int), Cond.methodLink RX3 152 yX3_isIn, Cond.instanceMethod yX3_isIn, Cond.selects RX3 yX3_isIn yX3_isIn, Cond.code yX3_isIn cX3_isIn 4 (some .boolean), Cond.methodLink RL 189 yL_queueAt, Cond.static yL_queueAt, Cond.codeWith yL_queueAt cL_queueAt 5 (some .int) [(0, 10, 13, 13)], Cond.methodLink RL 92 yX2_queueAt, Cond.instanceMethod yX2_queueAt, Cond.selects RX2 yX2_queueAt yX2_queueAt, Cond.code yX2_queueAt cX2_queueAt 7 (some .int)]
def wsL_law0_r26 : List Cond := [Cond.methodLink RX2 178 yX2_bucketOf, Cond.static yX2_bucketOf, Cond.code yX2_bucketOf cX2_bucketOf 1 (some .int), Cond.methodLink RX2 181 yX2_countAheadInBucket, Cond.instanceMethod yX2_countAheadInBucket, Cond.selects RX2 yX2_countAheadInBucket yX2_countAheadInBucket, Cond.code yX2_countAheadInBucket cX2_countAheadInBucket 7 (some .int), Cond.methodLink RL 191 yX3_queueAt, Cond.instanceMethod yX3_queueAt, Cond.selects RX3 yX3_queueAt yX3_queueAt, Cond.code yX3_queueAt cX3_queueAt 3 (some .int)]
def wsL_law0 : List Cond := (wsL_law0_r1 ++ (wsL_law0_r2 ++ (wsL_law0_r3 ++ (wsL_law0_r4 ++ (wsL_law0_r5 ++ (wsL_law0_r6 ++ (wsL_law0_r7 ++ (wsL_law0_r8 ++ (wsL_law0_r9 ++ (wsL_law0_r10 ++ (wsL_law0_r11 ++ (wsL_law0_r12 ++ (wsL_law0_r13 ++ (wsL_law0_r14 ++ (wsL_law0_r15 ++ (wsL_law0_r16 ++ (wsL_law0_r17 ++ (wsL_law0_r18 ++ (wsL_law0_r19 ++ (wsL_law0_r20 ++ (wsL_law0_r21 ++ (wsL_law0_r22 ++ (wsL_law0_r23 ++ (wsL_law0_r24 ++ (wsL_law0_r25 ++ wsL_law0_r26))))))))))))))))))))))))) ++ wsX20 ++ wsX30 ++ wsX10 ++ wsX00 ++ ([] : List Cond)
def wsL_law : List Cond := wsL_law0 ++ (vx_atS RX2 109 "java/lang/IndexOutOfBoundsException" ["java/lang/RuntimeException", "java/lang/Exception"]).filter goodWord ++ (vx_atS RX2 88 "java/lang/IllegalStateException" ["java/lang/RuntimeException", "java/lang/Exception"]).filter goodWord ++ (vx_atS RX2 62 "java/lang/IllegalArgumentException" ["java/lang/RuntimeException", "java/lang/Exception"]).filter goodWord
abbrev vwCl : List vw_C := [(RX0, TX0, 2), (RX1, TX1, 11), (RX2, TX2, 6), (RX3, TX3, 17)]
