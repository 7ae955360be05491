/-! cell: some number out of the script; nothing is written -/
abbrev rmL_cell : Room := { frames := 0, cells := 0, slots := 0, locals := 0 }
def fk_QN : Array Value → State → Outcome → State → Prop := fun _ st oc t => (∃ v : Int32, oc = .returned (some (.int v))) ∧ va_F (fun _ => False) st t
def fk_PN (b L : Nat) (xs : Nat → Int32) (av : List Value) : Array Value → State → Prop := va_Pc av (fun U => va_X b L xs U U.heap ∧ b < U.heap.size)
theorem fk_blindN {b L : Nat} {xs : Nat → Int32} {av : List Value} : FrameBlind (fk_PN b L xs av) := fun a U g mk q => by
  obtain ⟨q0, q1, q2⟩ := q
  exact ⟨q0, va_X.moved (u := U) (U := U.calling g mk a) (Vm.Alike.refl U.vm) q1, q2⟩
set_option maxHeartbeats 4000000 in
set_option maxRecDepth 100000 in
theorem kl_cell (l : Launch) {b L j : Nat} {xs : Nat → Int32} (hL : L < 2 ^ 20) (hj : j < 2 ^ 20) : Met l yL_cell wsL_cell rmL_cell (fk_PN b L xs [.ref b, .int (nI j)]) fk_QN 0 0 (fun _ => False) := by
  refine Met.ofW (cc := cL_cell) (maxL := 3) (ret := some .int) (by decide) rfl ?_
  intro p e s m args below meth c s₁ B hml hv
  obtain ⟨rfl, hX, hbl⟩ := hv
  have hx := B.exec
  have hb := B.bytes
  have hr := B.returns
  have hlocks := B.notSynchronized
  have hts := atoms_spec (ws := wsL_cell) B.pre
  have hown : s.vm.findClass RL = some m.cls := findClass_of_methodNamed B.named
  have hS : va_S (fun _ => False) s.heap s.heap [] := va_S.rf
  have hl := lv_entry ([.ref b, .int (nI j)]) (n := 3) (Nat.le_of_ble_eq_true rfl)
  rw [lg_entry_eq]
  generalize (lg_sl ([.ref b, .int (nI j)]) ++ List.replicate (3 - (lg_sl ([.ref b, .int (nI j)])).length) Slot.unset).toArray = ls at hl ⊢
  have hl : lv_has ls 3 [(0, .ref b), (1, .int (nI j))] := hl
  refine lv_iload_n hx hb dL_cell_0 rfl (lv_at hl 1 rfl) ?_
  refine lv_aload_n hx hb dL_cell_1 rfl (lv_at hl 0 rfl) ?_
  refine va_slen hx hb hX hbl (fun z => z) hS dL_cell_2 ?_
  have tail : ∀ v : Int32, W p l e rmL_cell s m ([.ref b, .int (nI j)] : List Value).toArray below meth c s.heap [] 0 0 (MQ below (fk_QN) ([.ref b, .int (nI j)] : List Value).toArray s 0 0 (fun _ => False)) (F0 m 19 ls [.int v]) := by
    intro v
    refine lv_istore_n (lv' := [(2, .int v), (0, .ref b), (1, .int (nI j))]) hx hb dL_cell_19 rfl hl (by decide) rfl (fun ls hl => ?_)
    refine lv_iload_n hx hb dL_cell_20 rfl (lv_at hl 0 rfl) ?_
    refine lv_iload_n hx hb dL_cell_21 rfl (lv_at hl 0 rfl) ?_
    refine lv_bipush (v := 16) hx hb dL_cell_22 (by decide) ?_
    refine lv_iushr hx hb dL_cell_24 rfl ?_
    refine lv_ixor hx hb dL_cell_25 ?_
    refine lv_ldc (own := RL) (v := 2146121005) hx hb hown (hts (.constant RL 8 (2146121005)) (List.mem_of_getElem? (i := 2) rfl)) dL_cell_26 ?_
    refine lv_imul hx hb dL_cell_28 ?_
    refine lv_bipush (v := 41) hx hb dL_cell_29 (by decide) ?_
    refine lv_iload_n hx hb dL_cell_31 rfl (lv_at hl 2 rfl) ?_
    refine lv_imul hx hb dL_cell_32 ?_
    refine W.eq (g2 := F0 m 33 ls [.int (nI (41 * j)), .int ((v ^^^ ((v.toUInt32 >>> ((16 : Int32).toUInt32 &&& Int32.toUInt32 31)).toInt32)) * 2146121005)]) (by rw [show (41 : Int32) = nI 41 from rfl, pk_mul]) ?_
    refine lv_iadd hx hb dL_cell_33 ?_
    exact W.iret hx hb hr (fun t ht _ => ⟨⟨_, rfl⟩, hS.F ht⟩) hS.2.2 dL_cell_34 hlocks
  refine lv_icmp_ge (tgt := 12) hx hb dL_cell_3 (by decide) (fun _ => ?_) (fun c9 => ?_)
  · refine lv_ldc (own := RL) (v := 45491) hx hb hown (hts (.constant RL 7 (45491)) (List.mem_of_getElem? (i := 1) rfl)) dL_cell_12 ?_
    refine lv_iload_n hx hb dL_cell_14 rfl (lv_at hl 1 rfl) ?_
    refine lv_bipush (v := 7) hx hb dL_cell_15 (by decide) ?_
    refine lv_iadd hx hb dL_cell_17 ?_
    refine lv_imul hx hb dL_cell_18 ?_
    exact tail _
  · refine lv_aload_n hx hb dL_cell_6 rfl (lv_at hl 0 rfl) ?_
    refine lv_iload_n hx hb dL_cell_7 rfl (lv_at hl 1 rfl) ?_
    refine va_sld hx hb hX hbl (fun z => z) hS (vp_in_nI (show j < L from Nat.not_le.mp (fun z => c9 (nI_le z (by omega)))) (by omega)) dL_cell_8 ?_
    refine lv_goto (tgt := 19) hx hb dL_cell_9 (by decide) ?_
    exact tail _
section
variable {p : Program} {l : Launch} {e : Env} {R : Room} {s : State} {m : MethodId} {args : Array Value} {below : List Frame} {meth : Method} {c : Code} {H H0 : Heap} {locs : List Loc} {cells slots : Nat} {Q : State → Prop}
variable {D : va_G} {A0 : Nat → Prop} {W0 : va_W} {a : Array Value} {pc : Nat} {ls : Array Slot} {st0 rest : List Value}
theorem fk_ncall (hr : va_Run p l e R s m args below meth c H locs cells slots 0 0 (F0 m pc ls st0) rest (fk_QN a) (fun _ => False)) (hP : va_P D vwCl W0 H) (hS : va_S A0 H0 H locs)
    (kk : ∀ (v : Int32) (H1 : Heap) (locs1 : List Loc), va_P D vwCl W0 H1 → va_S A0 H0 H1 locs1 → W p l e R s m args below meth c H1 locs1 cells slots Q (F0 m (pc + 3) ls (.int v :: rest))) : W p l e R s m args below meth c H locs cells slots Q (F0 m pc ls st0) := by
  intro T hT X
  obtain ⟨v, st₀, t, T', L, h0, X', hL, e1, e2, ⟨⟨v9, hv⟩, hz, hk⟩, st⟩ := hr T hT X
  cases hv
  rw [h0] at hz hk
  obtain ⟨t2, a1, b1⟩ := kk v9 T'.heap (locs ++ L) (by rw [e1]; exact hP.kept (fun k q hq => hk q.1 (hP k q hq).lt (fun z => z)))
    ⟨Nat.le_trans hS.1 (by rw [e1]; exact hz), fun q h1 h2 => by rw [e1, hk q (Nat.lt_of_lt_of_le h1 hS.1) (fun z => z)]; exact hS.2.1 q h1 h2, fun q hq => by
      rcases List.mem_append.mp hq with h | h
      · exact hS.2.2 q h
      · exact (hL q h).elim⟩ T' rfl X'
  exact ⟨t2, st t2 a1, b1⟩
end
