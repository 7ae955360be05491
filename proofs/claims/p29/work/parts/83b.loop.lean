def lw_A (s : State) : Nat → Prop := fun q => s.heap.size ≤ q
set_option maxRecDepth 20000 in
theorem lw_bad : ∀ w ∈ fk_bad, w ∈ lw_tbl := by decide +kernel
set_option maxRecDepth 20000 in
theorem lw_strs : ∀ q ∈ fk_strs, Cond.stringRef RX2 q.1 q.2 ∈ lw_tbl := by decide +kernel
set_option maxRecDepth 20000 in
theorem lw_zq : Cond.laysStatic Bundle.tN "UNASSIGNED_STACK" Bundle.steD ∈ lw_tbl ∧ Cond.laysStatic Bundle.tN "SUPPRESSED_SENTINEL" Bundle.listD ∈ lw_tbl ∧ Cond.initialized Bundle.tN ∈ lw_tbl ∧ Cond.arrayOver (.object RX1) ∈ lw_tbl ∧ fk_nest ∈ lw_tbl := by decide +kernel
set_option maxRecDepth 20000 in
theorem lw_giv : Cond.isRef (.static Bundle.tN "UNASSIGNED_STACK" Bundle.steD) ∈ flatC (Jvm.Cond.and given_1 narrow_1) ∧ Cond.isRef (.static Bundle.tN "SUPPRESSED_SENTINEL" Bundle.listD) ∈ flatC (Jvm.Cond.and given_1 narrow_1) ∧ Cond.not (.castable "java/lang/IllegalStateException" "java/lang/IndexOutOfBoundsException") ∈ flatC (Jvm.Cond.and given_1 narrow_1) ∧ Cond.not (.castable "java/lang/IllegalArgumentException" "java/lang/IndexOutOfBoundsException") ∈ flatC (Jvm.Cond.and given_1 narrow_1) ∧ Cond.not (.castable "java/lang/IllegalStateException" "java/lang/IllegalArgumentException") ∈ flatC (Jvm.Cond.and given_1 narrow_1) := by decide +kernel
theorem lw_Zs {s : State} {b : Nat} {cX : ClassId} (hts : ∀ w ∈ lw_tbl, w.before #[Value.ref b] s = true) (hgv : (Jvm.Cond.and given_1 narrow_1).before #[Value.ref b] s = true) (hc : s.vm.findClass RX2 = some cX) : fk_Zs (lw_A s) s s.heap := by
  have hf := flat_of_before _ hgv
  have hA : ∀ a : Nat, a < s.heap.size → ¬ lw_A s a := fun a h => Nat.not_le.mpr h
  refine ⟨vx_Zqof (hts _ lw_zq.1) (hts _ lw_zq.2.2.1) (hf _ lw_giv.1) hA, vx_Zqof (hts _ lw_zq.2.1) (hts _ lw_zq.2.2.1) (hf _ lw_giv.2.1) hA, fun q hq => ?_, fun w hw => va_Nw.of (fk_dc_on (fk_bad_dc w hw)) (hts w (lw_bad w hw))⟩
  have h1 := hts _ (lw_strs q hq)
  obtain ⟨-, -, -, sa, -, -, -, -, -, hev⟩ := Cond.stringRef_spec hc h1
  exact ⟨sa, vk_R.of (A := #[Value.ref b]) h1 hev⟩
theorem lw_Nc {s : State} {b : Nat} (hgv : (Jvm.Cond.and given_1 narrow_1).before #[Value.ref b] s = true) : fk_Nc s := by
  have hf := flat_of_before _ hgv
  exact ⟨va_Nc.of (hf _ lw_giv.2.2.1), va_Nc.of (hf _ lw_giv.2.2.2.1), va_Nc.of (hf _ lw_giv.2.2.2.2)⟩
/-! the start -/
theorem fk_S0_v (f i : Nat) (h3 : f ≠ 3) (h5 : f ≠ 5) (h8 : f ≠ 8) : fk_S0 f i = 0 := by
  unfold fk_S0 fk_Mt
  rw [if_neg (by omega), if_neg (by omega)]
theorem fk_S0_G : kq_G 0 fk_S0 fk_z16 := by
  have h3 : ∀ u, fk_S0 3 u = -1 := fun u => by unfold fk_S0; rw [if_pos (Or.inl rfl)]
  have h5 : ∀ u, fk_S0 5 u = -1 := fun u => by unfold fk_S0; rw [if_pos (Or.inr rfl)]
  have h8 : ∀ u, u < 8 → fk_S0 8 u = -1 := fun u hu => by unfold fk_S0 fk_Mt; rw [if_neg (by omega), if_pos ⟨rfl, hu⟩]
  have h0 : ∀ f i, f ≠ 3 → f ≠ 5 → f ≠ 8 → fk_S0 f i = 0 := fk_S0_v
  have hq : ∀ u, kk_q fk_S0 u = false := fun u => by unfold kk_q; rw [h3]; rfl
  refine ⟨⟨fun u hu => ⟨0, by omega, (h0 10 u (by decide) (by decide) (by decide)).trans nI_0.symm, fun j hj => absurd hj (by omega), fun i j _ hj => absurd hj (by omega)⟩, fun u hu => ⟨Or.inl ⟨h0 1 u (by decide) (by decide) (by decide), h3 u, h5 u⟩, ?_, ?_⟩, fun u v _ _ a _ _ => ?_, fun u v _ _ _ => Or.inr (h0 9 u (by decide) (by decide) (by decide)), ⟨0, Nat.le_refl _, (h0 12 3 (by decide) (by decide) (by decide)).trans nI_0.symm, fun u _ => ⟨0, Nat.le_refl _, (h0 7 u (by decide) (by decide) (by decide)).trans nI_0.symm⟩⟩, ⟨0, Nat.le_refl _, (h0 12 1 (by decide) (by decide) (by decide)).trans nI_0.symm, fun u _ => ⟨0, Nat.le_refl _, (h0 9 u (by decide) (by decide) (by decide)).trans nI_0.symm⟩⟩, 0, Nat.le_refl _, (h0 12 0 (by decide) (by decide) (by decide)).trans nI_0.symm, fun u _ => Or.inl (h5 u)⟩, fun u hu e => ?_⟩
  · rw [h0 2 u (by decide) (by decide) (by decide)]
    unfold fk_z16
    split <;> rfl
  · rw [h8 u hu, h0 9 u (by decide) (by decide) (by decide)]
    exact ⟨fun _ => rfl, fun _ => rfl⟩
  · rw [hq] at a
    cases a
  · rw [h0 10 u (by decide) (by decide) (by decide)]
/-- a place of the law: the kernel, the row p, what the locals are, how much room is used up -/
def lw_St (p : Program) (l : Launch) (e : Env) (s : State) (m : MethodId) (below : List Frame) (meth : Method) (c : Code) (D : va_G) (ad : Nat → Nat) (cI cT : ClassId) (b q : Nat) (pc : Nat) (loc : List (Nat × Value)) (n : Nat) : Prop :=
  ∀ (S : fk_S) (P : Nat → Int32) (H : Heap) (locs : List Loc) (ls : Array Slot), kq_G (20 * n) S P → va_P D vwCl (fk_kW ad cI cT S ++ (q, fk_pr cI P) :: []) H → va_D (lw_A s) (fk_kW ad cI cT S ++ (q, fk_pr cI P) :: []) → va_S (lw_A s) s.heap H locs → lv_has ls 11 loc →
    W p l e room_1 s m #[Value.ref b] below meth c H locs (60 + 2 * n) (900 + 12 * n) (lw_Z below #[Value.ref b] s) (F0 m pc ls [])

set_option maxHeartbeats 8000000 in
set_option maxRecDepth 100000 in
theorem law_turn0 {p : Program} {l : Launch} {e : Env} {s : State} {m : MethodId} {below : List Frame} {meth : Method} {c : Code} {D : va_G} {ad : Nat → Nat} {cI cT cJ : ClassId} {b q L : Nat} {xs : Nat → Int32} {k n : Nat} (x y : Int32) (hst : l.stackTraces = false) (C0 : lw_At p s m meth c b L xs) (hK : va_K D vwCl (fk_ty cI cT cJ) s) (hZ : fk_Zs (lw_A s) s s.heap) (hN : fk_Nc s) (hL : L ≤ 260) (hn : n ≤ 112) (hk : lw_St p l e s m below meth c D ad cI cT b q 58 [(7, .int 1), (6, .int y), (5, .int x), (4, .int (nI k)), (3, .int 1), (0, .ref b), (1, .ref (ad 0)), (2, .ref q)] (n + 1)) : lw_St p l e s m below meth c D ad cI cT b q 58 [(7, .int 0), (6, .int y), (5, .int x), (4, .int (nI k)), (3, .int 1), (0, .ref b), (1, .ref (ad 0)), (2, .ref q)] n := by
  obtain ⟨hx, hb, hr, hml, hown, hts0, hX, hbl, hlocks, hgv⟩ := id C0
  have hts : ∀ w ∈ wsL_law, w.before #[Value.ref b] s = true := fun w h => hts0 w (wsL_law_in w h)
  have hown : s.vm.findClass RL = some m.cls := hown
  have hA : ∀ q : Nat, s.heap.size ≤ q → lw_A s q := fun _ h => h
  have hbA : ¬ lw_A s b := Nat.not_le.mpr hbl
  intro S P H locs ls hG hP hD hS hl
  refine lv_iload hx hb dL_law_58 (lv_at hl 0 rfl) ?_
  refine lv_iconst (v := 2) hx hb dL_law_60 (by decide) ?_
  refine lv_icmp_ge (tgt := 235) hx hb dL_law_61 (by decide) (fun c => absurd c (by decide)) (fun _ => ?_)
  refine lv_iload_n hx hb dL_law_64 rfl (lv_at hl 4 rfl) ?_
  refine lv_if_eq (tgt := 235) hx hb dL_law_65 (by decide) (fun c => absurd c (by decide)) (fun _ => ?_)
  refine lv_iload hx hb dL_law_68 (lv_at hl 0 rfl) ?_
  refine lv_if_ne (tgt := 78) hx hb dL_law_70 (by decide) (fun c => absurd c (by decide)) (fun _ => ?_)
  refine lv_iload hx hb dL_law_73 (lv_at hl 2 rfl) ?_
  refine lv_goto (tgt := 83) hx hb dL_law_75 (by decide) ?_
  refine lv_bipush (v := 20) hx hb dL_law_83 (by decide) ?_
  refine fk_callS (As := [.int x, .int 20]) (rest := []) ⟨hx, hb, hml, hown, hts⟩ (kl_some l D ad cI cT cJ _ S x 20 (by decide)) (va_cwS 2 hts gL_law_L_some rfl rfl rfl (by decide +kernel) ⟨Nat.le_of_ble_eq_true rfl, Nat.le_of_ble_eq_true rfl⟩) hK hP hD hS hA rfl hl.1 rfl (Nat.le_of_ble_eq_true rfl) dL_law_85 ⟨by show 60 + 2 * n ≤ 666441; omega, by show 900 + 12 * n ≤ 7102448; omega⟩ (fun H locs hP hD hS => ?_)
  refine W.eq (g2 := F0 m 88 ls [.int (pl_some x 20)]) rfl ?_
  refine lv_istore (lv' := [(8, .int (pl_some x 20)), (7, .int 0), (6, .int y), (5, .int x), (4, .int (nI k)), (3, .int 1), (0, .ref b), (1, .ref (ad 0)), (2, .ref q)]) hx hb dL_law_88 hl (by decide) rfl (fun ls hl => ?_)
  refine lv_iload hx hb dL_law_90 (lv_at hl 1 rfl) ?_
  refine lv_if_ne (tgt := 100) hx hb dL_law_92 (by decide) (fun c => absurd c (by decide)) (fun _ => ?_)
  refine lv_iload hx hb dL_law_95 (lv_at hl 2 rfl) ?_
  refine lv_goto (tgt := 104) hx hb dL_law_97 (by decide) ?_
  refine lv_istore (lv' := [(9, .int y), (8, .int (pl_some x 20)), (7, .int 0), (6, .int y), (5, .int x), (4, .int (nI k)), (3, .int 1), (0, .ref b), (1, .ref (ad 0)), (2, .ref q)]) hx hb dL_law_104 hl (by decide) rfl (fun ls hl => ?_)
  have jn127 : ∀ (od : Int32) (H : Heap) (locs : List Loc) (ls : Array Slot), va_P D vwCl (fk_kW ad cI cT S ++ (q, fk_pr cI P) :: []) H → va_D (lw_A s) (fk_kW ad cI cT S ++ (q, fk_pr cI P) :: []) → va_S (lw_A s) s.heap H locs → lv_has ls 11 [(9, .int y), (8, .int (pl_some x 20)), (7, .int 0), (6, .int y), (5, .int x), (4, .int (nI k)), (3, .int 1), (0, .ref b), (1, .ref (ad 0)), (2, .ref q)] → W p l e room_1 s m #[Value.ref b] below meth c H locs (60 + 2 * n) (900 + 12 * n) (lw_Z below #[Value.ref b] s) (F0 m 127 ls [.int od]) := by
    intro od H locs ls hP hD hS hl
    refine lv_istore (lv' := [(10, .int od), (9, .int y), (8, .int (pl_some x 20)), (7, .int 0), (6, .int y), (5, .int x), (4, .int (nI k)), (3, .int 1), (0, .ref b), (1, .ref (ad 0)), (2, .ref q)]) hx hb dL_law_127 hl (by decide) rfl (fun ls hl => ?_)
    refine lv_iload hx hb dL_law_129 (lv_at hl 2 rfl) ?_
    refine lv_iconst (v := 2) hx hb dL_law_131 (by decide) ?_
    refine lv_icmp_ge (tgt := 146) hx hb dL_law_132 (by decide) (fun c_5 => ?_) (fun c_5 => ?_)
    · refine lv_iload hx hb dL_law_146 (lv_at hl 2 rfl) ?_
      refine lv_bipush (v := 6) hx hb dL_law_148 (by decide) ?_
      refine lv_icmp_ge (tgt := 165) hx hb dL_law_150 (by decide) (fun c_6 => ?_) (fun c_6 => ?_)
      · refine lv_iload hx hb dL_law_165 (lv_at hl 2 rfl) ?_
        refine lv_bipush (v := 9) hx hb dL_law_167 (by decide) ?_
        refine lv_icmp_ge (tgt := 184) hx hb dL_law_169 (by decide) (fun c_7 => ?_) (fun c_7 => ?_)
        · refine lv_iload hx hb dL_law_184 (lv_at hl 2 rfl) ?_
          refine lv_bipush (v := 13) hx hb dL_law_186 (by decide) ?_
          refine lv_icmp_ge (tgt := 203) hx hb dL_law_188 (by decide) (fun c_8 => ?_) (fun c_8 => ?_)
          · refine lv_iload hx hb dL_law_203 (lv_at hl 2 rfl) ?_
            refine lv_bipush (v := 15) hx hb dL_law_205 (by decide) ?_
            refine lv_icmp_ge (tgt := 219) hx hb dL_law_207 (by decide) (fun c_9 => ?_) (fun c_9 => ?_)
            · refine lv_aload_n hx hb dL_law_219 rfl (lv_at hl 9 rfl) ?_
              refine lv_aload_n hx hb dL_law_220 rfl (lv_at hl 10 rfl) ?_
              refine lv_iload hx hb dL_law_221 (lv_at hl 1 rfl) ?_
              refine lv_iload hx hb dL_law_223 (lv_at hl 0 rfl) ?_
              refine fk_ecallS (As := [.ref (ad 0), .ref q, .int y, .int od]) (rest := []) ⟨hx, hb, hml, hown, hts⟩ (el_lives l D ad cI cT cJ [] S q P (20 * n) hst hG (by omega) od y) (va_cwS 4 hts gL_law_L_lives rfl rfl rfl (by decide +kernel) ⟨Nat.le_of_ble_eq_true rfl, Nat.le_of_ble_eq_true rfl⟩) hK hP hD hS hA hZ hN rfl hl.1 rfl (Nat.le_of_ble_eq_true rfl) dL_law_225 ⟨by show 60 + 2 * n + 2 ≤ 666441; omega, by show 900 + 12 * n + 12 ≤ 7102448; omega⟩ (fun W1 v9 hv9 H locs hP hD hS => ?_)
              obtain ⟨rfl, S1, P1, rfl, hG1⟩ := hv9
              refine W.eq (g2 := F0 m 228 ls [.int 1]) rfl ?_
              refine lv_istore_n (lv' := [(3, .int 1), (10, .int od), (9, .int y), (8, .int (pl_some x 20)), (7, .int 0), (6, .int y), (5, .int x), (4, .int (nI k)), (0, .ref b), (1, .ref (ad 0)), (2, .ref q)]) hx hb dL_law_228 rfl hl (by decide) rfl (fun ls hl => ?_)
              refine lv_iinc (v := 1) (lv' := [(7, .int 1), (3, .int 1), (10, .int od), (9, .int y), (8, .int (pl_some x 20)), (6, .int y), (5, .int x), (4, .int (nI k)), (0, .ref b), (1, .ref (ad 0)), (2, .ref q)]) hx hb dL_law_229 hl (k := 4) rfl rfl (by decide) rfl (fun ls hl => ?_)
              refine lv_goto (tgt := 58) hx hb dL_law_232 (by decide) ?_
              exact W.widen (k := 60 + 2 * (n + 1)) (n := 900 + 12 * (n + 1)) (by omega) (by omega) (hk S1 P1 H locs ls (hG1.wk (by omega)) hP hD hS (lv_sub hl [0, 5, 6, 7, 1, 8, 9, 10] rfl))
            · refine lv_aload_n hx hb dL_law_210 rfl (lv_at hl 9 rfl) ?_
              refine lv_iload hx hb dL_law_211 (lv_at hl 1 rfl) ?_
              refine fk_ecallS (As := [.ref (ad 0), .int y]) (rest := []) ⟨hx, hb, hml, hown, hts⟩ (el_unlocks l D ad cI cT cJ [] S q P (20 * n) hst hG (by omega) y) (va_cwS 2 hts gL_law_L_unlocks rfl rfl rfl (by decide +kernel) ⟨Nat.le_of_ble_eq_true rfl, Nat.le_of_ble_eq_true rfl⟩) hK hP hD hS hA hZ hN rfl hl.1 rfl (Nat.le_of_ble_eq_true rfl) dL_law_213 ⟨by show 60 + 2 * n + 2 ≤ 666441; omega, by show 900 + 12 * n + 12 ≤ 7102448; omega⟩ (fun W1 v9 hv9 H locs hP hD hS => ?_)
              obtain ⟨rfl, S1, P1, rfl, hG1⟩ := hv9
              refine W.eq (g2 := F0 m 216 ls [.int 1]) rfl ?_
              refine lv_goto (tgt := 228) hx hb dL_law_216 (by decide) ?_
              refine lv_istore_n (lv' := [(3, .int 1), (10, .int od), (9, .int y), (8, .int (pl_some x 20)), (7, .int 0), (6, .int y), (5, .int x), (4, .int (nI k)), (0, .ref b), (1, .ref (ad 0)), (2, .ref q)]) hx hb dL_law_228 rfl hl (by decide) rfl (fun ls hl => ?_)
              refine lv_iinc (v := 1) (lv' := [(7, .int 1), (3, .int 1), (10, .int od), (9, .int y), (8, .int (pl_some x 20)), (6, .int y), (5, .int x), (4, .int (nI k)), (0, .ref b), (1, .ref (ad 0)), (2, .ref q)]) hx hb dL_law_229 hl (k := 4) rfl rfl (by decide) rfl (fun ls hl => ?_)
              refine lv_goto (tgt := 58) hx hb dL_law_232 (by decide) ?_
              exact W.widen (k := 60 + 2 * (n + 1)) (n := 900 + 12 * (n + 1)) (by omega) (by omega) (hk S1 P1 H locs ls (hG1.wk (by omega)) hP hD hS (lv_sub hl [0, 5, 6, 7, 1, 8, 9, 10] rfl))
          · refine lv_aload_n hx hb dL_law_191 rfl (lv_at hl 9 rfl) ?_
            refine lv_aload_n hx hb dL_law_192 rfl (lv_at hl 10 rfl) ?_
            refine lv_iload hx hb dL_law_193 (lv_at hl 1 rfl) ?_
            refine lv_iload hx hb dL_law_195 (lv_at hl 0 rfl) ?_
            refine fk_ecallS (As := [.ref (ad 0), .ref q, .int y, .int od]) (rest := []) ⟨hx, hb, hml, hown, hts⟩ (el_locks l D ad cI cT cJ [] S q P (20 * n) hst hG (by omega) od y) (va_cwS 4 hts gL_law_L_locks rfl rfl rfl (by decide +kernel) ⟨Nat.le_of_ble_eq_true rfl, Nat.le_of_ble_eq_true rfl⟩) hK hP hD hS hA hZ hN rfl hl.1 rfl (Nat.le_of_ble_eq_true rfl) dL_law_197 ⟨by show 60 + 2 * n + 2 ≤ 666441; omega, by show 900 + 12 * n + 12 ≤ 7102448; omega⟩ (fun W1 v9 hv9 H locs hP hD hS => ?_)
            obtain ⟨rfl, S1, P1, rfl, hG1⟩ := hv9
            refine W.eq (g2 := F0 m 200 ls [.int 1]) rfl ?_
            refine lv_goto (tgt := 228) hx hb dL_law_200 (by decide) ?_
            refine lv_istore_n (lv' := [(3, .int 1), (10, .int od), (9, .int y), (8, .int (pl_some x 20)), (7, .int 0), (6, .int y), (5, .int x), (4, .int (nI k)), (0, .ref b), (1, .ref (ad 0)), (2, .ref q)]) hx hb dL_law_228 rfl hl (by decide) rfl (fun ls hl => ?_)
            refine lv_iinc (v := 1) (lv' := [(7, .int 1), (3, .int 1), (10, .int od), (9, .int y), (8, .int (pl_some x 20)), (6, .int y), (5, .int x), (4, .int (nI k)), (0, .ref b), (1, .ref (ad 0)), (2, .ref q)]) hx hb dL_law_229 hl (k := 4) rfl rfl (by decide) rfl (fun ls hl => ?_)
            refine lv_goto (tgt := 58) hx hb dL_law_232 (by decide) ?_
            exact W.widen (k := 60 + 2 * (n + 1)) (n := 900 + 12 * (n + 1)) (by omega) (by omega) (hk S1 P1 H locs ls (hG1.wk (by omega)) hP hD hS (lv_sub hl [0, 5, 6, 7, 1, 8, 9, 10] rfl))
        · refine lv_aload_n hx hb dL_law_172 rfl (lv_at hl 9 rfl) ?_
          refine lv_aload_n hx hb dL_law_173 rfl (lv_at hl 10 rfl) ?_
          refine lv_iload hx hb dL_law_174 (lv_at hl 1 rfl) ?_
          refine lv_iload hx hb dL_law_176 (lv_at hl 0 rfl) ?_
          refine fk_ecallS (As := [.ref (ad 0), .ref q, .int y, .int od]) (rest := []) ⟨hx, hb, hml, hown, hts⟩ (el_wakes l D ad cI cT cJ [] S q P (20 * n) hst hG (by omega) od y) (va_cwS 4 hts gL_law_L_wakes rfl rfl rfl (by decide +kernel) ⟨Nat.le_of_ble_eq_true rfl, Nat.le_of_ble_eq_true rfl⟩) hK hP hD hS hA hZ hN rfl hl.1 rfl (Nat.le_of_ble_eq_true rfl) dL_law_178 ⟨by show 60 + 2 * n + 2 ≤ 666441; omega, by show 900 + 12 * n + 12 ≤ 7102448; omega⟩ (fun W1 v9 hv9 H locs hP hD hS => ?_)
          obtain ⟨rfl, S1, P1, rfl, hG1⟩ := hv9
          refine W.eq (g2 := F0 m 181 ls [.int 1]) rfl ?_
          refine lv_goto (tgt := 228) hx hb dL_law_181 (by decide) ?_
          refine lv_istore_n (lv' := [(3, .int 1), (10, .int od), (9, .int y), (8, .int (pl_some x 20)), (7, .int 0), (6, .int y), (5, .int x), (4, .int (nI k)), (0, .ref b), (1, .ref (ad 0)), (2, .ref q)]) hx hb dL_law_228 rfl hl (by decide) rfl (fun ls hl => ?_)
          refine lv_iinc (v := 1) (lv' := [(7, .int 1), (3, .int 1), (10, .int od), (9, .int y), (8, .int (pl_some x 20)), (6, .int y), (5, .int x), (4, .int (nI k)), (0, .ref b), (1, .ref (ad 0)), (2, .ref q)]) hx hb dL_law_229 hl (k := 4) rfl rfl (by decide) rfl (fun ls hl => ?_)
          refine lv_goto (tgt := 58) hx hb dL_law_232 (by decide) ?_
          exact W.widen (k := 60 + 2 * (n + 1)) (n := 900 + 12 * (n + 1)) (by omega) (by omega) (hk S1 P1 H locs ls (hG1.wk (by omega)) hP hD hS (lv_sub hl [0, 5, 6, 7, 1, 8, 9, 10] rfl))
      · refine lv_aload_n hx hb dL_law_153 rfl (lv_at hl 9 rfl) ?_
        refine lv_aload_n hx hb dL_law_154 rfl (lv_at hl 10 rfl) ?_
        refine lv_iload hx hb dL_law_155 (lv_at hl 1 rfl) ?_
        refine lv_iload hx hb dL_law_157 (lv_at hl 0 rfl) ?_
        refine fk_ecallS (As := [.ref (ad 0), .ref q, .int y, .int od]) (rest := []) ⟨hx, hb, hml, hown, hts⟩ (el_waits l D ad cI cT cJ [] S q P (20 * n) hst hG (by omega) od y) (va_cwS 4 hts gL_law_L_waits rfl rfl rfl (by decide +kernel) ⟨Nat.le_of_ble_eq_true rfl, Nat.le_of_ble_eq_true rfl⟩) hK hP hD hS hA hZ hN rfl hl.1 rfl (Nat.le_of_ble_eq_true rfl) dL_law_159 ⟨by show 60 + 2 * n + 2 ≤ 666441; omega, by show 900 + 12 * n + 12 ≤ 7102448; omega⟩ (fun W1 v9 hv9 H locs hP hD hS => ?_)
        obtain ⟨rfl, S1, P1, rfl, hG1⟩ := hv9
        refine W.eq (g2 := F0 m 162 ls [.int 1]) rfl ?_
        refine lv_goto (tgt := 228) hx hb dL_law_162 (by decide) ?_
        refine lv_istore_n (lv' := [(3, .int 1), (10, .int od), (9, .int y), (8, .int (pl_some x 20)), (7, .int 0), (6, .int y), (5, .int x), (4, .int (nI k)), (0, .ref b), (1, .ref (ad 0)), (2, .ref q)]) hx hb dL_law_228 rfl hl (by decide) rfl (fun ls hl => ?_)
        refine lv_iinc (v := 1) (lv' := [(7, .int 1), (3, .int 1), (10, .int od), (9, .int y), (8, .int (pl_some x 20)), (6, .int y), (5, .int x), (4, .int (nI k)), (0, .ref b), (1, .ref (ad 0)), (2, .ref q)]) hx hb dL_law_229 hl (k := 4) rfl rfl (by decide) rfl (fun ls hl => ?_)
        refine lv_goto (tgt := 58) hx hb dL_law_232 (by decide) ?_
        exact W.widen (k := 60 + 2 * (n + 1)) (n := 900 + 12 * (n + 1)) (by omega) (by omega) (hk S1 P1 H locs ls (hG1.wk (by omega)) hP hD hS (lv_sub hl [0, 5, 6, 7, 1, 8, 9, 10] rfl))
    · refine lv_aload_n hx hb dL_law_135 rfl (lv_at hl 9 rfl) ?_
      refine lv_iload hx hb dL_law_136 (lv_at hl 1 rfl) ?_
      refine lv_iload hx hb dL_law_138 (lv_at hl 0 rfl) ?_
      refine fk_ecallS (As := [.ref (ad 0), .int y, .int od]) (rest := []) ⟨hx, hb, hml, hown, hts⟩ (el_plain l D ad cI cT cJ [] S q P (20 * n) hst hG (by omega) od y) (va_cwS 3 hts gL_law_L_plain rfl rfl rfl (by decide +kernel) ⟨Nat.le_of_ble_eq_true rfl, Nat.le_of_ble_eq_true rfl⟩) hK hP hD hS hA hZ hN rfl hl.1 rfl (Nat.le_of_ble_eq_true rfl) dL_law_140 ⟨by show 60 + 2 * n + 2 ≤ 666441; omega, by show 900 + 12 * n + 12 ≤ 7102448; omega⟩ (fun W1 v9 hv9 H locs hP hD hS => ?_)
      obtain ⟨rfl, S1, P1, rfl, hG1⟩ := hv9
      refine W.eq (g2 := F0 m 143 ls [.int 1]) rfl ?_
      refine lv_goto (tgt := 228) hx hb dL_law_143 (by decide) ?_
      refine lv_istore_n (lv' := [(3, .int 1), (10, .int od), (9, .int y), (8, .int (pl_some x 20)), (7, .int 0), (6, .int y), (5, .int x), (4, .int (nI k)), (0, .ref b), (1, .ref (ad 0)), (2, .ref q)]) hx hb dL_law_228 rfl hl (by decide) rfl (fun ls hl => ?_)
      refine lv_iinc (v := 1) (lv' := [(7, .int 1), (3, .int 1), (10, .int od), (9, .int y), (8, .int (pl_some x 20)), (6, .int y), (5, .int x), (4, .int (nI k)), (0, .ref b), (1, .ref (ad 0)), (2, .ref q)]) hx hb dL_law_229 hl (k := 4) rfl rfl (by decide) rfl (fun ls hl => ?_)
      refine lv_goto (tgt := 58) hx hb dL_law_232 (by decide) ?_
      exact W.widen (k := 60 + 2 * (n + 1)) (n := 900 + 12 * (n + 1)) (by omega) (by omega) (hk S1 P1 H locs ls (hG1.wk (by omega)) hP hD hS (lv_sub hl [0, 5, 6, 7, 1, 8, 9, 10] rfl))
  refine lv_iload hx hb dL_law_106 (lv_at hl 4 rfl) ?_
  refine lv_bipush (v := 10) hx hb dL_law_108 (by decide) ?_
  refine lv_iload hx hb dL_law_110 (lv_at hl 2 rfl) ?_
  refine lv_iadd hx hb dL_law_112 ?_
  refine W.eq (g2 := F0 m 113 ls [.int 10, .int x]) rfl ?_
  refine lv_ishr hx hb dL_law_113 ?_
  refine lv_bipush (v := 12) hx hb dL_law_114 (by decide) ?_
  refine fk_callS (As := [.int (x >>> (10 &&& 31)), .int 12]) (rest := []) ⟨hx, hb, hml, hown, hts⟩ (kl_some l D ad cI cT cJ _ S (x >>> (10 &&& 31)) 12 (by decide)) (va_cwS 2 hts gL_law_L_some rfl rfl rfl (by decide +kernel) ⟨Nat.le_of_ble_eq_true rfl, Nat.le_of_ble_eq_true rfl⟩) hK hP hD hS hA rfl hl.1 rfl (Nat.le_of_ble_eq_true rfl) dL_law_116 ⟨by show 60 + 2 * n ≤ 666441; omega, by show 900 + 12 * n ≤ 7102448; omega⟩ (fun H locs hP hD hS => ?_)
  refine W.eq (g2 := F0 m 119 ls [.int (pl_some (x >>> (10 &&& 31)) 12)]) rfl ?_
  refine lv_if_ne (tgt := 126) hx hb dL_law_119 (by decide) (fun c_10 => ?_) (fun c_10 => ?_)
  · refine lv_iconst (v := 0) hx hb dL_law_126 (by decide) ?_
    exact jn127 0 _ _ _ hP hD hS hl
  · refine lv_iconst (v := 1) hx hb dL_law_122 (by decide) ?_
    refine lv_goto (tgt := 127) hx hb dL_law_123 (by decide) ?_
    exact jn127 1 _ _ _ hP hD hS hl

set_option maxHeartbeats 8000000 in
set_option maxRecDepth 100000 in
theorem law_turn1 {p : Program} {l : Launch} {e : Env} {s : State} {m : MethodId} {below : List Frame} {meth : Method} {c : Code} {D : va_G} {ad : Nat → Nat} {cI cT cJ : ClassId} {b q L : Nat} {xs : Nat → Int32} {k n : Nat} (x y : Int32) (hst : l.stackTraces = false) (C0 : lw_At p s m meth c b L xs) (hK : va_K D vwCl (fk_ty cI cT cJ) s) (hZ : fk_Zs (lw_A s) s s.heap) (hN : fk_Nc s) (hL : L ≤ 260) (hn : n ≤ 112) (hk : lw_St p l e s m below meth c D ad cI cT b q 58 [(7, .int 2), (6, .int y), (5, .int x), (4, .int (nI k)), (3, .int 1), (0, .ref b), (1, .ref (ad 0)), (2, .ref q)] (n + 1)) : lw_St p l e s m below meth c D ad cI cT b q 58 [(7, .int 1), (6, .int y), (5, .int x), (4, .int (nI k)), (3, .int 1), (0, .ref b), (1, .ref (ad 0)), (2, .ref q)] n := by
  obtain ⟨hx, hb, hr, hml, hown, hts0, hX, hbl, hlocks, hgv⟩ := id C0
  have hts : ∀ w ∈ wsL_law, w.before #[Value.ref b] s = true := fun w h => hts0 w (wsL_law_in w h)
  have hown : s.vm.findClass RL = some m.cls := hown
  have hA : ∀ q : Nat, s.heap.size ≤ q → lw_A s q := fun _ h => h
  have hbA : ¬ lw_A s b := Nat.not_le.mpr hbl
  intro S P H locs ls hG hP hD hS hl
  refine lv_iload hx hb dL_law_58 (lv_at hl 0 rfl) ?_
  refine lv_iconst (v := 2) hx hb dL_law_60 (by decide) ?_
  refine lv_icmp_ge (tgt := 235) hx hb dL_law_61 (by decide) (fun c => absurd c (by decide)) (fun _ => ?_)
  refine lv_iload_n hx hb dL_law_64 rfl (lv_at hl 4 rfl) ?_
  refine lv_if_eq (tgt := 235) hx hb dL_law_65 (by decide) (fun c => absurd c (by decide)) (fun _ => ?_)
  refine lv_iload hx hb dL_law_68 (lv_at hl 0 rfl) ?_
  refine lv_if_ne (tgt := 78) hx hb dL_law_70 (by decide) (fun _ => ?_) (fun c => absurd c (by decide))
  refine lv_iload hx hb dL_law_78 (lv_at hl 1 rfl) ?_
  refine lv_bipush (v := 6) hx hb dL_law_80 (by decide) ?_
  refine lv_ishr hx hb dL_law_82 ?_
  refine lv_bipush (v := 20) hx hb dL_law_83 (by decide) ?_
  refine fk_callS (As := [.int (y >>> (6 &&& 31)), .int 20]) (rest := []) ⟨hx, hb, hml, hown, hts⟩ (kl_some l D ad cI cT cJ _ S (y >>> (6 &&& 31)) 20 (by decide)) (va_cwS 2 hts gL_law_L_some rfl rfl rfl (by decide +kernel) ⟨Nat.le_of_ble_eq_true rfl, Nat.le_of_ble_eq_true rfl⟩) hK hP hD hS hA rfl hl.1 rfl (Nat.le_of_ble_eq_true rfl) dL_law_85 ⟨by show 60 + 2 * n ≤ 666441; omega, by show 900 + 12 * n ≤ 7102448; omega⟩ (fun H locs hP hD hS => ?_)
  refine W.eq (g2 := F0 m 88 ls [.int (pl_some (y >>> (6 &&& 31)) 20)]) rfl ?_
  refine lv_istore (lv' := [(8, .int (pl_some (y >>> (6 &&& 31)) 20)), (7, .int 1), (6, .int y), (5, .int x), (4, .int (nI k)), (3, .int 1), (0, .ref b), (1, .ref (ad 0)), (2, .ref q)]) hx hb dL_law_88 hl (by decide) rfl (fun ls hl => ?_)
  refine lv_iload hx hb dL_law_90 (lv_at hl 1 rfl) ?_
  refine lv_if_ne (tgt := 100) hx hb dL_law_92 (by decide) (fun _ => ?_) (fun c => absurd c (by decide))
  refine lv_iload hx hb dL_law_100 (lv_at hl 3 rfl) ?_
  refine lv_iconst (v := 4) hx hb dL_law_102 (by decide) ?_
  refine lv_ishr hx hb dL_law_103 ?_
  refine lv_istore (lv' := [(9, .int (x >>> (4 &&& 31))), (8, .int (pl_some (y >>> (6 &&& 31)) 20)), (7, .int 1), (6, .int y), (5, .int x), (4, .int (nI k)), (3, .int 1), (0, .ref b), (1, .ref (ad 0)), (2, .ref q)]) hx hb dL_law_104 hl (by decide) rfl (fun ls hl => ?_)
  have jn127 : ∀ (od : Int32) (H : Heap) (locs : List Loc) (ls : Array Slot), va_P D vwCl (fk_kW ad cI cT S ++ (q, fk_pr cI P) :: []) H → va_D (lw_A s) (fk_kW ad cI cT S ++ (q, fk_pr cI P) :: []) → va_S (lw_A s) s.heap H locs → lv_has ls 11 [(9, .int (x >>> (4 &&& 31))), (8, .int (pl_some (y >>> (6 &&& 31)) 20)), (7, .int 1), (6, .int y), (5, .int x), (4, .int (nI k)), (3, .int 1), (0, .ref b), (1, .ref (ad 0)), (2, .ref q)] → W p l e room_1 s m #[Value.ref b] below meth c H locs (60 + 2 * n) (900 + 12 * n) (lw_Z below #[Value.ref b] s) (F0 m 127 ls [.int od]) := by
    intro od H locs ls hP hD hS hl
    refine lv_istore (lv' := [(10, .int od), (9, .int (x >>> (4 &&& 31))), (8, .int (pl_some (y >>> (6 &&& 31)) 20)), (7, .int 1), (6, .int y), (5, .int x), (4, .int (nI k)), (3, .int 1), (0, .ref b), (1, .ref (ad 0)), (2, .ref q)]) hx hb dL_law_127 hl (by decide) rfl (fun ls hl => ?_)
    refine lv_iload hx hb dL_law_129 (lv_at hl 2 rfl) ?_
    refine lv_iconst (v := 2) hx hb dL_law_131 (by decide) ?_
    refine lv_icmp_ge (tgt := 146) hx hb dL_law_132 (by decide) (fun c_5 => ?_) (fun c_5 => ?_)
    · refine lv_iload hx hb dL_law_146 (lv_at hl 2 rfl) ?_
      refine lv_bipush (v := 6) hx hb dL_law_148 (by decide) ?_
      refine lv_icmp_ge (tgt := 165) hx hb dL_law_150 (by decide) (fun c_6 => ?_) (fun c_6 => ?_)
      · refine lv_iload hx hb dL_law_165 (lv_at hl 2 rfl) ?_
        refine lv_bipush (v := 9) hx hb dL_law_167 (by decide) ?_
        refine lv_icmp_ge (tgt := 184) hx hb dL_law_169 (by decide) (fun c_7 => ?_) (fun c_7 => ?_)
        · refine lv_iload hx hb dL_law_184 (lv_at hl 2 rfl) ?_
          refine lv_bipush (v := 13) hx hb dL_law_186 (by decide) ?_
          refine lv_icmp_ge (tgt := 203) hx hb dL_law_188 (by decide) (fun c_8 => ?_) (fun c_8 => ?_)
          · refine lv_iload hx hb dL_law_203 (lv_at hl 2 rfl) ?_
            refine lv_bipush (v := 15) hx hb dL_law_205 (by decide) ?_
            refine lv_icmp_ge (tgt := 219) hx hb dL_law_207 (by decide) (fun c_9 => ?_) (fun c_9 => ?_)
            · refine lv_aload_n hx hb dL_law_219 rfl (lv_at hl 9 rfl) ?_
              refine lv_aload_n hx hb dL_law_220 rfl (lv_at hl 10 rfl) ?_
              refine lv_iload hx hb dL_law_221 (lv_at hl 1 rfl) ?_
              refine lv_iload hx hb dL_law_223 (lv_at hl 0 rfl) ?_
              refine fk_ecallS (As := [.ref (ad 0), .ref q, .int (x >>> (4 &&& 31)), .int od]) (rest := []) ⟨hx, hb, hml, hown, hts⟩ (el_lives l D ad cI cT cJ [] S q P (20 * n) hst hG (by omega) od (x >>> (4 &&& 31))) (va_cwS 4 hts gL_law_L_lives rfl rfl rfl (by decide +kernel) ⟨Nat.le_of_ble_eq_true rfl, Nat.le_of_ble_eq_true rfl⟩) hK hP hD hS hA hZ hN rfl hl.1 rfl (Nat.le_of_ble_eq_true rfl) dL_law_225 ⟨by show 60 + 2 * n + 2 ≤ 666441; omega, by show 900 + 12 * n + 12 ≤ 7102448; omega⟩ (fun W1 v9 hv9 H locs hP hD hS => ?_)
              obtain ⟨rfl, S1, P1, rfl, hG1⟩ := hv9
              refine W.eq (g2 := F0 m 228 ls [.int 1]) rfl ?_
              refine lv_istore_n (lv' := [(3, .int 1), (10, .int od), (9, .int (x >>> (4 &&& 31))), (8, .int (pl_some (y >>> (6 &&& 31)) 20)), (7, .int 1), (6, .int y), (5, .int x), (4, .int (nI k)), (0, .ref b), (1, .ref (ad 0)), (2, .ref q)]) hx hb dL_law_228 rfl hl (by decide) rfl (fun ls hl => ?_)
              refine lv_iinc (v := 2) (lv' := [(7, .int 2), (3, .int 1), (10, .int od), (9, .int (x >>> (4 &&& 31))), (8, .int (pl_some (y >>> (6 &&& 31)) 20)), (6, .int y), (5, .int x), (4, .int (nI k)), (0, .ref b), (1, .ref (ad 0)), (2, .ref q)]) hx hb dL_law_229 hl (k := 4) rfl rfl (by decide) rfl (fun ls hl => ?_)
              refine lv_goto (tgt := 58) hx hb dL_law_232 (by decide) ?_
              exact W.widen (k := 60 + 2 * (n + 1)) (n := 900 + 12 * (n + 1)) (by omega) (by omega) (hk S1 P1 H locs ls (hG1.wk (by omega)) hP hD hS (lv_sub hl [0, 5, 6, 7, 1, 8, 9, 10] rfl))
            · refine lv_aload_n hx hb dL_law_210 rfl (lv_at hl 9 rfl) ?_
              refine lv_iload hx hb dL_law_211 (lv_at hl 1 rfl) ?_
              refine fk_ecallS (As := [.ref (ad 0), .int (x >>> (4 &&& 31))]) (rest := []) ⟨hx, hb, hml, hown, hts⟩ (el_unlocks l D ad cI cT cJ [] S q P (20 * n) hst hG (by omega) (x >>> (4 &&& 31))) (va_cwS 2 hts gL_law_L_unlocks rfl rfl rfl (by decide +kernel) ⟨Nat.le_of_ble_eq_true rfl, Nat.le_of_ble_eq_true rfl⟩) hK hP hD hS hA hZ hN rfl hl.1 rfl (Nat.le_of_ble_eq_true rfl) dL_law_213 ⟨by show 60 + 2 * n + 2 ≤ 666441; omega, by show 900 + 12 * n + 12 ≤ 7102448; omega⟩ (fun W1 v9 hv9 H locs hP hD hS => ?_)
              obtain ⟨rfl, S1, P1, rfl, hG1⟩ := hv9
              refine W.eq (g2 := F0 m 216 ls [.int 1]) rfl ?_
              refine lv_goto (tgt := 228) hx hb dL_law_216 (by decide) ?_
              refine lv_istore_n (lv' := [(3, .int 1), (10, .int od), (9, .int (x >>> (4 &&& 31))), (8, .int (pl_some (y >>> (6 &&& 31)) 20)), (7, .int 1), (6, .int y), (5, .int x), (4, .int (nI k)), (0, .ref b), (1, .ref (ad 0)), (2, .ref q)]) hx hb dL_law_228 rfl hl (by decide) rfl (fun ls hl => ?_)
              refine lv_iinc (v := 2) (lv' := [(7, .int 2), (3, .int 1), (10, .int od), (9, .int (x >>> (4 &&& 31))), (8, .int (pl_some (y >>> (6 &&& 31)) 20)), (6, .int y), (5, .int x), (4, .int (nI k)), (0, .ref b), (1, .ref (ad 0)), (2, .ref q)]) hx hb dL_law_229 hl (k := 4) rfl rfl (by decide) rfl (fun ls hl => ?_)
              refine lv_goto (tgt := 58) hx hb dL_law_232 (by decide) ?_
              exact W.widen (k := 60 + 2 * (n + 1)) (n := 900 + 12 * (n + 1)) (by omega) (by omega) (hk S1 P1 H locs ls (hG1.wk (by omega)) hP hD hS (lv_sub hl [0, 5, 6, 7, 1, 8, 9, 10] rfl))
          · refine lv_aload_n hx hb dL_law_191 rfl (lv_at hl 9 rfl) ?_
            refine lv_aload_n hx hb dL_law_192 rfl (lv_at hl 10 rfl) ?_
            refine lv_iload hx hb dL_law_193 (lv_at hl 1 rfl) ?_
            refine lv_iload hx hb dL_law_195 (lv_at hl 0 rfl) ?_
            refine fk_ecallS (As := [.ref (ad 0), .ref q, .int (x >>> (4 &&& 31)), .int od]) (rest := []) ⟨hx, hb, hml, hown, hts⟩ (el_locks l D ad cI cT cJ [] S q P (20 * n) hst hG (by omega) od (x >>> (4 &&& 31))) (va_cwS 4 hts gL_law_L_locks rfl rfl rfl (by decide +kernel) ⟨Nat.le_of_ble_eq_true rfl, Nat.le_of_ble_eq_true rfl⟩) hK hP hD hS hA hZ hN rfl hl.1 rfl (Nat.le_of_ble_eq_true rfl) dL_law_197 ⟨by show 60 + 2 * n + 2 ≤ 666441; omega, by show 900 + 12 * n + 12 ≤ 7102448; omega⟩ (fun W1 v9 hv9 H locs hP hD hS => ?_)
            obtain ⟨rfl, S1, P1, rfl, hG1⟩ := hv9
            refine W.eq (g2 := F0 m 200 ls [.int 1]) rfl ?_
            refine lv_goto (tgt := 228) hx hb dL_law_200 (by decide) ?_
            refine lv_istore_n (lv' := [(3, .int 1), (10, .int od), (9, .int (x >>> (4 &&& 31))), (8, .int (pl_some (y >>> (6 &&& 31)) 20)), (7, .int 1), (6, .int y), (5, .int x), (4, .int (nI k)), (0, .ref b), (1, .ref (ad 0)), (2, .ref q)]) hx hb dL_law_228 rfl hl (by decide) rfl (fun ls hl => ?_)
            refine lv_iinc (v := 2) (lv' := [(7, .int 2), (3, .int 1), (10, .int od), (9, .int (x >>> (4 &&& 31))), (8, .int (pl_some (y >>> (6 &&& 31)) 20)), (6, .int y), (5, .int x), (4, .int (nI k)), (0, .ref b), (1, .ref (ad 0)), (2, .ref q)]) hx hb dL_law_229 hl (k := 4) rfl rfl (by decide) rfl (fun ls hl => ?_)
            refine lv_goto (tgt := 58) hx hb dL_law_232 (by decide) ?_
            exact W.widen (k := 60 + 2 * (n + 1)) (n := 900 + 12 * (n + 1)) (by omega) (by omega) (hk S1 P1 H locs ls (hG1.wk (by omega)) hP hD hS (lv_sub hl [0, 5, 6, 7, 1, 8, 9, 10] rfl))
        · refine lv_aload_n hx hb dL_law_172 rfl (lv_at hl 9 rfl) ?_
          refine lv_aload_n hx hb dL_law_173 rfl (lv_at hl 10 rfl) ?_
          refine lv_iload hx hb dL_law_174 (lv_at hl 1 rfl) ?_
          refine lv_iload hx hb dL_law_176 (lv_at hl 0 rfl) ?_
          refine fk_ecallS (As := [.ref (ad 0), .ref q, .int (x >>> (4 &&& 31)), .int od]) (rest := []) ⟨hx, hb, hml, hown, hts⟩ (el_wakes l D ad cI cT cJ [] S q P (20 * n) hst hG (by omega) od (x >>> (4 &&& 31))) (va_cwS 4 hts gL_law_L_wakes rfl rfl rfl (by decide +kernel) ⟨Nat.le_of_ble_eq_true rfl, Nat.le_of_ble_eq_true rfl⟩) hK hP hD hS hA hZ hN rfl hl.1 rfl (Nat.le_of_ble_eq_true rfl) dL_law_178 ⟨by show 60 + 2 * n + 2 ≤ 666441; omega, by show 900 + 12 * n + 12 ≤ 7102448; omega⟩ (fun W1 v9 hv9 H locs hP hD hS => ?_)
          obtain ⟨rfl, S1, P1, rfl, hG1⟩ := hv9
          refine W.eq (g2 := F0 m 181 ls [.int 1]) rfl ?_
          refine lv_goto (tgt := 228) hx hb dL_law_181 (by decide) ?_
          refine lv_istore_n (lv' := [(3, .int 1), (10, .int od), (9, .int (x >>> (4 &&& 31))), (8, .int (pl_some (y >>> (6 &&& 31)) 20)), (7, .int 1), (6, .int y), (5, .int x), (4, .int (nI k)), (0, .ref b), (1, .ref (ad 0)), (2, .ref q)]) hx hb dL_law_228 rfl hl (by decide) rfl (fun ls hl => ?_)
          refine lv_iinc (v := 2) (lv' := [(7, .int 2), (3, .int 1), (10, .int od), (9, .int (x >>> (4 &&& 31))), (8, .int (pl_some (y >>> (6 &&& 31)) 20)), (6, .int y), (5, .int x), (4, .int (nI k)), (0, .ref b), (1, .ref (ad 0)), (2, .ref q)]) hx hb dL_law_229 hl (k := 4) rfl rfl (by decide) rfl (fun ls hl => ?_)
          refine lv_goto (tgt := 58) hx hb dL_law_232 (by decide) ?_
          exact W.widen (k := 60 + 2 * (n + 1)) (n := 900 + 12 * (n + 1)) (by omega) (by omega) (hk S1 P1 H locs ls (hG1.wk (by omega)) hP hD hS (lv_sub hl [0, 5, 6, 7, 1, 8, 9, 10] rfl))
      · refine lv_aload_n hx hb dL_law_153 rfl (lv_at hl 9 rfl) ?_
        refine lv_aload_n hx hb dL_law_154 rfl (lv_at hl 10 rfl) ?_
        refine lv_iload hx hb dL_law_155 (lv_at hl 1 rfl) ?_
        refine lv_iload hx hb dL_law_157 (lv_at hl 0 rfl) ?_
        refine fk_ecallS (As := [.ref (ad 0), .ref q, .int (x >>> (4 &&& 31)), .int od]) (rest := []) ⟨hx, hb, hml, hown, hts⟩ (el_waits l D ad cI cT cJ [] S q P (20 * n) hst hG (by omega) od (x >>> (4 &&& 31))) (va_cwS 4 hts gL_law_L_waits rfl rfl rfl (by decide +kernel) ⟨Nat.le_of_ble_eq_true rfl, Nat.le_of_ble_eq_true rfl⟩) hK hP hD hS hA hZ hN rfl hl.1 rfl (Nat.le_of_ble_eq_true rfl) dL_law_159 ⟨by show 60 + 2 * n + 2 ≤ 666441; omega, by show 900 + 12 * n + 12 ≤ 7102448; omega⟩ (fun W1 v9 hv9 H locs hP hD hS => ?_)
        obtain ⟨rfl, S1, P1, rfl, hG1⟩ := hv9
        refine W.eq (g2 := F0 m 162 ls [.int 1]) rfl ?_
        refine lv_goto (tgt := 228) hx hb dL_law_162 (by decide) ?_
        refine lv_istore_n (lv' := [(3, .int 1), (10, .int od), (9, .int (x >>> (4 &&& 31))), (8, .int (pl_some (y >>> (6 &&& 31)) 20)), (7, .int 1), (6, .int y), (5, .int x), (4, .int (nI k)), (0, .ref b), (1, .ref (ad 0)), (2, .ref q)]) hx hb dL_law_228 rfl hl (by decide) rfl (fun ls hl => ?_)
        refine lv_iinc (v := 2) (lv' := [(7, .int 2), (3, .int 1), (10, .int od), (9, .int (x >>> (4 &&& 31))), (8, .int (pl_some (y >>> (6 &&& 31)) 20)), (6, .int y), (5, .int x), (4, .int (nI k)), (0, .ref b), (1, .ref (ad 0)), (2, .ref q)]) hx hb dL_law_229 hl (k := 4) rfl rfl (by decide) rfl (fun ls hl => ?_)
        refine lv_goto (tgt := 58) hx hb dL_law_232 (by decide) ?_
        exact W.widen (k := 60 + 2 * (n + 1)) (n := 900 + 12 * (n + 1)) (by omega) (by omega) (hk S1 P1 H locs ls (hG1.wk (by omega)) hP hD hS (lv_sub hl [0, 5, 6, 7, 1, 8, 9, 10] rfl))
    · refine lv_aload_n hx hb dL_law_135 rfl (lv_at hl 9 rfl) ?_
      refine lv_iload hx hb dL_law_136 (lv_at hl 1 rfl) ?_
      refine lv_iload hx hb dL_law_138 (lv_at hl 0 rfl) ?_
      refine fk_ecallS (As := [.ref (ad 0), .int (x >>> (4 &&& 31)), .int od]) (rest := []) ⟨hx, hb, hml, hown, hts⟩ (el_plain l D ad cI cT cJ [] S q P (20 * n) hst hG (by omega) od (x >>> (4 &&& 31))) (va_cwS 3 hts gL_law_L_plain rfl rfl rfl (by decide +kernel) ⟨Nat.le_of_ble_eq_true rfl, Nat.le_of_ble_eq_true rfl⟩) hK hP hD hS hA hZ hN rfl hl.1 rfl (Nat.le_of_ble_eq_true rfl) dL_law_140 ⟨by show 60 + 2 * n + 2 ≤ 666441; omega, by show 900 + 12 * n + 12 ≤ 7102448; omega⟩ (fun W1 v9 hv9 H locs hP hD hS => ?_)
      obtain ⟨rfl, S1, P1, rfl, hG1⟩ := hv9
      refine W.eq (g2 := F0 m 143 ls [.int 1]) rfl ?_
      refine lv_goto (tgt := 228) hx hb dL_law_143 (by decide) ?_
      refine lv_istore_n (lv' := [(3, .int 1), (10, .int od), (9, .int (x >>> (4 &&& 31))), (8, .int (pl_some (y >>> (6 &&& 31)) 20)), (7, .int 1), (6, .int y), (5, .int x), (4, .int (nI k)), (0, .ref b), (1, .ref (ad 0)), (2, .ref q)]) hx hb dL_law_228 rfl hl (by decide) rfl (fun ls hl => ?_)
      refine lv_iinc (v := 2) (lv' := [(7, .int 2), (3, .int 1), (10, .int od), (9, .int (x >>> (4 &&& 31))), (8, .int (pl_some (y >>> (6 &&& 31)) 20)), (6, .int y), (5, .int x), (4, .int (nI k)), (0, .ref b), (1, .ref (ad 0)), (2, .ref q)]) hx hb dL_law_229 hl (k := 4) rfl rfl (by decide) rfl (fun ls hl => ?_)
      refine lv_goto (tgt := 58) hx hb dL_law_232 (by decide) ?_
      exact W.widen (k := 60 + 2 * (n + 1)) (n := 900 + 12 * (n + 1)) (by omega) (by omega) (hk S1 P1 H locs ls (hG1.wk (by omega)) hP hD hS (lv_sub hl [0, 5, 6, 7, 1, 8, 9, 10] rfl))
  refine lv_iload hx hb dL_law_106 (lv_at hl 4 rfl) ?_
  refine lv_bipush (v := 10) hx hb dL_law_108 (by decide) ?_
  refine lv_iload hx hb dL_law_110 (lv_at hl 2 rfl) ?_
  refine lv_iadd hx hb dL_law_112 ?_
  refine W.eq (g2 := F0 m 113 ls [.int 11, .int x]) rfl ?_
  refine lv_ishr hx hb dL_law_113 ?_
  refine lv_bipush (v := 12) hx hb dL_law_114 (by decide) ?_
  refine fk_callS (As := [.int (x >>> (11 &&& 31)), .int 12]) (rest := []) ⟨hx, hb, hml, hown, hts⟩ (kl_some l D ad cI cT cJ _ S (x >>> (11 &&& 31)) 12 (by decide)) (va_cwS 2 hts gL_law_L_some rfl rfl rfl (by decide +kernel) ⟨Nat.le_of_ble_eq_true rfl, Nat.le_of_ble_eq_true rfl⟩) hK hP hD hS hA rfl hl.1 rfl (Nat.le_of_ble_eq_true rfl) dL_law_116 ⟨by show 60 + 2 * n ≤ 666441; omega, by show 900 + 12 * n ≤ 7102448; omega⟩ (fun H locs hP hD hS => ?_)
  refine W.eq (g2 := F0 m 119 ls [.int (pl_some (x >>> (11 &&& 31)) 12)]) rfl ?_
  refine lv_if_ne (tgt := 126) hx hb dL_law_119 (by decide) (fun c_10 => ?_) (fun c_10 => ?_)
  · refine lv_iconst (v := 0) hx hb dL_law_126 (by decide) ?_
    exact jn127 0 _ _ _ hP hD hS hl
  · refine lv_iconst (v := 1) hx hb dL_law_122 (by decide) ?_
    refine lv_goto (tgt := 127) hx hb dL_law_123 (by decide) ?_
    exact jn127 1 _ _ _ hP hD hS hl

set_option maxHeartbeats 8000000 in
set_option maxRecDepth 100000 in
theorem law_235 {p : Program} {l : Launch} {e : Env} {s : State} {m : MethodId} {below : List Frame} {meth : Method} {c : Code} {D : va_G} {ad : Nat → Nat} {cI cT cJ : ClassId} {b q L : Nat} {xs : Nat → Int32} {k n : Nat} (x y : Int32) (hst : l.stackTraces = false) (C0 : lw_At p s m meth c b L xs) (hK : va_K D vwCl (fk_ty cI cT cJ) s) (hZ : fk_Zs (lw_A s) s s.heap) (hN : fk_Nc s) (hL : L ≤ 260) (hn : n ≤ 112) (hk9 : k < 56) (hk : lw_St p l e s m below meth c D ad cI cT b q 22 [(4, .int (nI (k + 1))), (3, .int 1), (0, .ref b), (1, .ref (ad 0)), (2, .ref q)] n) : lw_St p l e s m below meth c D ad cI cT b q 235 [(7, .int 2), (6, .int y), (5, .int x), (4, .int (nI k)), (3, .int 1), (0, .ref b), (1, .ref (ad 0)), (2, .ref q)] n := by
  obtain ⟨hx, hb, hr, hml, hown, hts0, hX, hbl, hlocks, hgv⟩ := id C0
  have hts : ∀ w ∈ wsL_law, w.before #[Value.ref b] s = true := fun w h => hts0 w (wsL_law_in w h)
  have hown : s.vm.findClass RL = some m.cls := hown
  have hA : ∀ q : Nat, s.heap.size ≤ q → lw_A s q := fun _ h => h
  have hbA : ¬ lw_A s b := Nat.not_le.mpr hbl
  intro S P H locs ls hG hP hD hS hl
  refine lv_iload_n hx hb dL_law_235 rfl (lv_at hl 4 rfl) ?_
  refine lv_if_eq (tgt := 258) hx hb dL_law_236 (by decide) (fun c => absurd c (by decide)) (fun _ => ?_)
  refine lv_iload hx hb dL_law_239 (lv_at hl 3 rfl) ?_
  refine lv_iconst (v := 3) hx hb dL_law_241 (by decide) ?_
  refine lv_irem hx hb dL_law_242 (by decide) ?_
  refine lv_if_gt (tgt := 254) hx hb dL_law_243 (by decide) (fun c_2 => ?_) (fun c_2 => ?_)
  · refine lv_iconst (v := 1) hx hb dL_law_254 (by decide) ?_
    refine lv_goto (tgt := 259) hx hb dL_law_255 (by decide) ?_
    refine lv_istore_n (lv' := [(3, .int 1), (7, .int 2), (6, .int y), (5, .int x), (4, .int (nI k)), (0, .ref b), (1, .ref (ad 0)), (2, .ref q)]) hx hb dL_law_259 rfl hl (by decide) rfl (fun ls hl => ?_)
    refine lv_iinc (v := (nI (k + 1))) (lv' := [(4, .int (nI (k + 1))), (3, .int 1), (7, .int 2), (6, .int y), (5, .int x), (0, .ref b), (1, .ref (ad 0)), (2, .ref q)]) hx hb dL_law_260 hl (k := 4) rfl (nI_1 k) (by decide) rfl (fun ls hl => ?_)
    refine lv_goto (tgt := 22) hx hb dL_law_263 (by decide) ?_
    exact hk S P H locs ls hG hP hD hS (lv_sub hl [0, 1, 5, 6, 7] rfl)
  · refine lv_aload_n hx hb dL_law_246 rfl (lv_at hl 6 rfl) ?_
    refine lv_aload_n hx hb dL_law_247 rfl (lv_at hl 7 rfl) ?_
    refine fk_callS (As := [.ref (ad 0), .ref q]) (rest := []) ⟨hx, hb, hml, hown, hts⟩ (kl_whole l D ad cI cT cJ [] S q P _ hG (by omega)) (va_cwS 2 hts gL_law_L_whole rfl rfl rfl (by decide +kernel) ⟨Nat.le_of_ble_eq_true rfl, Nat.le_of_ble_eq_true rfl⟩) hK hP hD hS hA rfl hl.1 rfl (Nat.le_of_ble_eq_true rfl) dL_law_248 ⟨by show 60 + 2 * n ≤ 666441; omega, by show 900 + 12 * n ≤ 7102448; omega⟩ (fun H locs hP hD hS => ?_)
    refine W.eq (g2 := F0 m 251 ls [.int 1]) rfl ?_
    refine lv_if_eq (tgt := 258) hx hb dL_law_251 (by decide) (fun c => absurd c (by decide)) (fun _ => ?_)
    refine lv_iconst (v := 1) hx hb dL_law_254 (by decide) ?_
    refine lv_goto (tgt := 259) hx hb dL_law_255 (by decide) ?_
    refine lv_istore_n (lv' := [(3, .int 1), (7, .int 2), (6, .int y), (5, .int x), (4, .int (nI k)), (0, .ref b), (1, .ref (ad 0)), (2, .ref q)]) hx hb dL_law_259 rfl hl (by decide) rfl (fun ls hl => ?_)
    refine lv_iinc (v := (nI (k + 1))) (lv' := [(4, .int (nI (k + 1))), (3, .int 1), (7, .int 2), (6, .int y), (5, .int x), (0, .ref b), (1, .ref (ad 0)), (2, .ref q)]) hx hb dL_law_260 hl (k := 4) rfl (nI_1 k) (by decide) rfl (fun ls hl => ?_)
    refine lv_goto (tgt := 22) hx hb dL_law_263 (by decide) ?_
    exact hk S P H locs ls hG hP hD hS (lv_sub hl [0, 1, 5, 6, 7] rfl)

set_option maxHeartbeats 8000000 in
set_option maxRecDepth 100000 in
theorem law_58 {p : Program} {l : Launch} {e : Env} {s : State} {m : MethodId} {below : List Frame} {meth : Method} {c : Code} {D : va_G} {ad : Nat → Nat} {cI cT cJ : ClassId} {b q L : Nat} {xs : Nat → Int32} {k n : Nat} (x y : Int32) (hst : l.stackTraces = false) (C0 : lw_At p s m meth c b L xs) (hK : va_K D vwCl (fk_ty cI cT cJ) s) (hZ : fk_Zs (lw_A s) s s.heap) (hN : fk_Nc s) (hL : L ≤ 260) (hk : lw_St p l e s m below meth c D ad cI cT b q 235 [(7, .int 2), (6, .int y), (5, .int x), (4, .int (nI k)), (3, .int 1), (0, .ref b), (1, .ref (ad 0)), (2, .ref q)] n) : lw_St p l e s m below meth c D ad cI cT b q 58 [(7, .int 2), (6, .int y), (5, .int x), (4, .int (nI k)), (3, .int 1), (0, .ref b), (1, .ref (ad 0)), (2, .ref q)] n := by
  obtain ⟨hx, hb, hr, hml, hown, hts0, hX, hbl, hlocks, hgv⟩ := id C0
  have hts : ∀ w ∈ wsL_law, w.before #[Value.ref b] s = true := fun w h => hts0 w (wsL_law_in w h)
  have hown : s.vm.findClass RL = some m.cls := hown
  have hA : ∀ q : Nat, s.heap.size ≤ q → lw_A s q := fun _ h => h
  have hbA : ¬ lw_A s b := Nat.not_le.mpr hbl
  intro S P H locs ls hG hP hD hS hl
  refine lv_iload hx hb dL_law_58 (lv_at hl 0 rfl) ?_
  refine lv_iconst (v := 2) hx hb dL_law_60 (by decide) ?_
  refine lv_icmp_ge (tgt := 235) hx hb dL_law_61 (by decide) (fun _ => ?_) (fun c => absurd c (by decide))
  exact hk S P H locs ls hG hP hD hS hl

set_option maxHeartbeats 8000000 in
set_option maxRecDepth 100000 in
theorem law_22 {p : Program} {l : Launch} {e : Env} {s : State} {m : MethodId} {below : List Frame} {meth : Method} {c : Code} {D : va_G} {ad : Nat → Nat} {cI cT cJ : ClassId} {b q L : Nat} {xs : Nat → Int32} {k n : Nat} (hst : l.stackTraces = false) (C0 : lw_At p s m meth c b L xs) (hK : va_K D vwCl (fk_ty cI cT cJ) s) (hZ : fk_Zs (lw_A s) s s.heap) (hN : fk_Nc s) (hL : L ≤ 260) (hn : n ≤ 112) (hk9 : k < 56) (hk : ∀ x y : Int32, lw_St p l e s m below meth c D ad cI cT b q 58 [(7, .int 0), (6, .int y), (5, .int x), (4, .int (nI k)), (3, .int 1), (0, .ref b), (1, .ref (ad 0)), (2, .ref q)] n) : lw_St p l e s m below meth c D ad cI cT b q 22 [(4, .int (nI k)), (3, .int 1), (0, .ref b), (1, .ref (ad 0)), (2, .ref q)] n := by
  obtain ⟨hx, hb, hr, hml, hown, hts0, hX, hbl, hlocks, hgv⟩ := id C0
  have hts : ∀ w ∈ wsL_law, w.before #[Value.ref b] s = true := fun w h => hts0 w (wsL_law_in w h)
  have hown : s.vm.findClass RL = some m.cls := hown
  have hA : ∀ q : Nat, s.heap.size ≤ q → lw_A s q := fun _ h => h
  have hbA : ¬ lw_A s b := Nat.not_le.mpr hbl
  intro S P H locs ls hG hP hD hS hl
  refine lv_iload hx hb dL_law_22 (lv_at hl 0 rfl) ?_
  refine lv_bipush (v := 56) hx hb dL_law_24 (by decide) ?_
  refine lv_icmp_ge (tgt := 266) hx hb dL_law_26 (by decide) (fun c_1 => absurd c_1 (nI_ge (a := k) (b := 56) (by omega) (by omega))) (fun c_1 => ?_)
  refine lv_iload_n hx hb dL_law_29 rfl (lv_at hl 1 rfl) ?_
  refine lv_if_eq (tgt := 266) hx hb dL_law_30 (by decide) (fun c => absurd c (by decide)) (fun _ => ?_)
  refine lv_aload_n hx hb dL_law_33 rfl (lv_at hl 2 rfl) ?_
  refine lv_iconst (v := 2) hx hb dL_law_34 (by decide) ?_
  refine lv_iload hx hb dL_law_35 (lv_at hl 0 rfl) ?_
  refine lv_imul hx hb dL_law_37 ?_
  refine W.eq (g2 := F0 m 38 ls [.int (nI (2 * k)), .ref b]) (by rw [show (2 : Int32) = nI 2 from rfl, pk_mul]) ?_
  refine fk_ncall (va_runS (As := [.ref b, .int (nI (2 * k))]) (rest := []) ⟨hx, hb, hml, hown, hts⟩ (kl_cell l (b := b) (L := L) (j := 2 * k) (xs := xs) (by omega) (by omega)) (va_cwS 2 hts gL_law_L_cell rfl rfl rfl (by decide +kernel) ⟨Nat.le_of_ble_eq_true rfl, Nat.le_of_ble_eq_true rfl⟩) ⟨fk_blindN, fun U hU hW => ⟨rfl, (va_X.moved hW.alike (by rw [hU]; exact hX.kept (hS.2.1 b hbl hbA))), by rw [hU]; exact Nat.lt_of_lt_of_le hbl hS.1⟩⟩ rfl rfl hl.1 rfl (lv_room (Nat.le_of_ble_eq_true rfl)) dL_law_38 ⟨by show 60 + 2 * n + 0 ≤ 666441; omega, by show 900 + 12 * n + 0 ≤ 7102448; omega⟩) hP hS (fun x H locs hP hS => ?_)
  refine W.eq (g2 := F0 m 41 ls [.int x]) rfl ?_
  refine lv_istore (lv' := [(5, .int x), (4, .int (nI k)), (3, .int 1), (0, .ref b), (1, .ref (ad 0)), (2, .ref q)]) hx hb dL_law_41 hl (by decide) rfl (fun ls hl => ?_)
  refine lv_aload_n hx hb dL_law_43 rfl (lv_at hl 3 rfl) ?_
  refine lv_iconst (v := 2) hx hb dL_law_44 (by decide) ?_
  refine lv_iload hx hb dL_law_45 (lv_at hl 1 rfl) ?_
  refine lv_imul hx hb dL_law_47 ?_
  refine W.eq (g2 := F0 m 48 ls [.int (nI (2 * k)), .ref b]) (by rw [show (2 : Int32) = nI 2 from rfl, pk_mul]) ?_
  refine lv_iconst (v := 1) hx hb dL_law_48 (by decide) ?_
  refine lv_iadd hx hb dL_law_49 ?_
  refine W.eq (g2 := F0 m 50 ls [.int (nI (2 * k + 1)), .ref b]) (by rw [nI_1]) ?_
  refine fk_ncall (va_runS (As := [.ref b, .int (nI (2 * k + 1))]) (rest := []) ⟨hx, hb, hml, hown, hts⟩ (kl_cell l (b := b) (L := L) (j := 2 * k + 1) (xs := xs) (by omega) (by omega)) (va_cwS 2 hts gL_law_L_cell rfl rfl rfl (by decide +kernel) ⟨Nat.le_of_ble_eq_true rfl, Nat.le_of_ble_eq_true rfl⟩) ⟨fk_blindN, fun U hU hW => ⟨rfl, (va_X.moved hW.alike (by rw [hU]; exact hX.kept (hS.2.1 b hbl hbA))), by rw [hU]; exact Nat.lt_of_lt_of_le hbl hS.1⟩⟩ rfl rfl hl.1 rfl (lv_room (Nat.le_of_ble_eq_true rfl)) dL_law_50 ⟨by show 60 + 2 * n + 0 ≤ 666441; omega, by show 900 + 12 * n + 0 ≤ 7102448; omega⟩) hP hS (fun y H locs hP hS => ?_)
  refine W.eq (g2 := F0 m 53 ls [.int y]) rfl ?_
  refine lv_istore (lv' := [(6, .int y), (5, .int x), (4, .int (nI k)), (3, .int 1), (0, .ref b), (1, .ref (ad 0)), (2, .ref q)]) hx hb dL_law_53 hl (by decide) rfl (fun ls hl => ?_)
  refine lv_iconst (v := 0) hx hb dL_law_55 (by decide) ?_
  refine lv_istore (lv' := [(7, .int 0), (6, .int y), (5, .int x), (4, .int (nI k)), (3, .int 1), (0, .ref b), (1, .ref (ad 0)), (2, .ref q)]) hx hb dL_law_56 hl (by decide) rfl (fun ls hl => ?_)
  exact hk x y S P H locs ls hG hP hD hS (lv_sub hl [0, 1, 2, 3, 4, 5, 6, 7] rfl)

set_option maxHeartbeats 8000000 in
set_option maxRecDepth 100000 in
theorem law_end {p : Program} {l : Launch} {e : Env} {s : State} {m : MethodId} {below : List Frame} {meth : Method} {c : Code} {D : va_G} {ad : Nat → Nat} {cI cT cJ : ClassId} {b q L : Nat} {xs : Nat → Int32} {k n : Nat} (hst : l.stackTraces = false) (C0 : lw_At p s m meth c b L xs) (hK : va_K D vwCl (fk_ty cI cT cJ) s) (hZ : fk_Zs (lw_A s) s s.heap) (hN : fk_Nc s) (hL : L ≤ 260) (hn : n ≤ 112) (hk9 : k = 56) : lw_St p l e s m below meth c D ad cI cT b q 22 [(4, .int (nI k)), (3, .int 1), (0, .ref b), (1, .ref (ad 0)), (2, .ref q)] n := by
  obtain ⟨hx, hb, hr, hml, hown, hts0, hX, hbl, hlocks, hgv⟩ := id C0
  have hts : ∀ w ∈ wsL_law, w.before #[Value.ref b] s = true := fun w h => hts0 w (wsL_law_in w h)
  have hown : s.vm.findClass RL = some m.cls := hown
  have hA : ∀ q : Nat, s.heap.size ≤ q → lw_A s q := fun _ h => h
  have hbA : ¬ lw_A s b := Nat.not_le.mpr hbl
  intro S P H locs ls hG hP hD hS hl
  refine lv_iload hx hb dL_law_22 (lv_at hl 0 rfl) ?_
  refine lv_bipush (v := 56) hx hb dL_law_24 (by decide) ?_
  refine lv_icmp_ge (tgt := 266) hx hb dL_law_26 (by decide) (fun c_1 => ?_) (fun c_1 => absurd (nI_le (a := 56) (b := k) (by omega) (by omega)) c_1)
  refine lv_iload_n hx hb dL_law_266 rfl (lv_at hl 1 rfl) ?_
  refine lv_if_eq (tgt := 282) hx hb dL_law_267 (by decide) (fun c => absurd c (by decide)) (fun _ => ?_)
  refine lv_aload_n hx hb dL_law_270 rfl (lv_at hl 3 rfl) ?_
  refine lv_aload_n hx hb dL_law_271 rfl (lv_at hl 4 rfl) ?_
  refine fk_callS (As := [.ref (ad 0), .ref q]) (rest := []) ⟨hx, hb, hml, hown, hts⟩ (kl_whole l D ad cI cT cJ [] S q P _ hG (by omega)) (va_cwS 2 hts gL_law_L_whole rfl rfl rfl (by decide +kernel) ⟨Nat.le_of_ble_eq_true rfl, Nat.le_of_ble_eq_true rfl⟩) hK hP hD hS hA rfl hl.1 rfl (Nat.le_of_ble_eq_true rfl) dL_law_272 ⟨by show 60 + 2 * n ≤ 666441; omega, by show 900 + 12 * n ≤ 7102448; omega⟩ (fun H locs hP hD hS => ?_)
  refine W.eq (g2 := F0 m 275 ls [.int 1]) rfl ?_
  refine lv_if_eq (tgt := 282) hx hb dL_law_275 (by decide) (fun c => absurd c (by decide)) (fun _ => ?_)
  refine lv_iconst (v := 1) hx hb dL_law_278 (by decide) ?_
  refine lv_goto (tgt := 283) hx hb dL_law_279 (by decide) ?_
  refine va_forget (fun q hq => hS.2.2 q hq) ?_
  refine W.widen (k := 666441) (n := 7102448) (by omega) (by omega) ?_
  exact lw_ret hx hb hr hlocks dL_law_283

theorem law_loop {p : Program} {l : Launch} {e : Env} {s : State} {m : MethodId} {below : List Frame} {meth : Method} {c : Code} {D : va_G} {ad : Nat → Nat} {cI cT cJ : ClassId} {b q L : Nat} {xs : Nat → Int32} (hst : l.stackTraces = false) (C0 : lw_At p s m meth c b L xs) (hK : va_K D vwCl (fk_ty cI cT cJ) s) (hZ : fk_Zs (lw_A s) s s.heap) (hN : fk_Nc s) (hL : L ≤ 260) : ∀ (n9 k : Nat), k + n9 = 56 → lw_St p l e s m below meth c D ad cI cT b q 22 [(4, .int (nI k)), (3, .int 1), (0, .ref b), (1, .ref (ad 0)), (2, .ref q)] (2 * k) := by
  intro n9
  induction n9 with
  | zero => intro k h; exact law_end hst C0 hK hZ hN hL (by omega) (by omega)
  | succ n9 ih =>
    intro k h
    refine law_22 hst C0 hK hZ hN hL (by omega) (by omega) (fun x y => ?_)
    refine law_turn0 x y hst C0 hK hZ hN hL (by omega) ?_
    refine law_turn1 x y hst C0 hK hZ hN hL (by omega) ?_
    refine law_58 x y hst C0 hK hZ hN hL ?_
    exact law_235 x y hst C0 hK hZ hN hL (by omega) (by omega) (ih (k + 1) (by omega))
