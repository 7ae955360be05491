theorem op_locks {l : Launch} {D : va_G} {ad bd : Nat → Nat} {cI cT cJ : ClassId} {a b : Nat} {M : fk_S} {o : Nat} {f : Nat → Int64} (h : fk_I a b M) (ha : a + 8 < 2 ^ 20) (hb : b + 1000 < 2 ^ 25) (hst : l.stackTraces = false) (p0 : Int32) : fk_Op l D ad bd cI cT cJ a b M o f yL_locks wsL_locks [.ref (ad 0), .int p0, .ref o] yX3_locks wsX3_locks rmX3_locks [.ref (bd 0), .int p0] := by
  by_cases c1 : fk_isT p0 = true
  · obtain ⟨t, ht, rfl⟩ := fk_isT_of c1
    exact fk_Op_ok (M' := (fk_up M 12 4 0)) (fk_es M) (fk_k10 M t) (fk_hs M) (fk_is h) (fun X => Lc_locks l D ad cI cT cJ X _ o f _ _ _ (fun X => kc_locks l D ad cI cT cJ X _ t ht)) (fun X => mc_locks l D bd cI cT cJ X M t ht)
  · exact fk_Op_no h 1 (by decide) (by decide) (u := 1) (w := 1) rfl rfl (fun X => Lx_locks_IO l D ad cI cT cJ X _ o f _ (fun X => kx_locks_1 l D ad cI cT cJ X _ hst _  (eq_false_of_ne_true c1))) (fun X => mn_locks l D bd cI cT cJ X M _  (eq_false_of_ne_true c1))

theorem op_stateOf {l : Launch} {D : va_G} {ad bd : Nat → Nat} {cI cT cJ : ClassId} {a b : Nat} {M : fk_S} {o : Nat} {f : Nat → Int64} (h : fk_I a b M) (ha : a + 8 < 2 ^ 20) (hb : b + 1000 < 2 ^ 25) (hst : l.stackTraces = false) (p0 : Int32) : fk_Op l D ad bd cI cT cJ a b M o f yL_stateOf wsL_stateOf [.ref (ad 0), .int p0, .ref o] yX3_stateOf wsX3_stateOf rmX3_stateOf [.ref (bd 0), .int p0] := by
  by_cases c1 : fk_isT p0 = true
  · obtain ⟨t, ht, rfl⟩ := fk_isT_of c1
    exact fk_Op_ok (M' := (fk_up M 12 4 0)) (fk_es M) (fk_kf (by decide) (by decide) (by omega)) (fk_hs M) (fk_is h) (fun X => Lc_stateOf l D ad cI cT cJ X _ o f _ _ _ (fun X => kc_stateOf l D ad cI cT cJ X _ t ht)) (fun X => mc_stateOf l D bd cI cT cJ X M t ht)
  · exact fk_Op_no h 1 (by decide) (by decide) (u := 1) (w := 1) rfl rfl (fun X => Lx_stateOf_IO l D ad cI cT cJ X _ o f _ (fun X => kx_stateOf_1 l D ad cI cT cJ X _ hst _  (eq_false_of_ne_true c1))) (fun X => mn_stateOf l D bd cI cT cJ X M _  (eq_false_of_ne_true c1))

theorem op_resultOf {l : Launch} {D : va_G} {ad bd : Nat → Nat} {cI cT cJ : ClassId} {a b : Nat} {M : fk_S} {o : Nat} {f : Nat → Int64} (h : fk_I a b M) (ha : a + 8 < 2 ^ 20) (hb : b + 1000 < 2 ^ 25) (hst : l.stackTraces = false) (p0 : Int32) : fk_Op l D ad bd cI cT cJ a b M o f yL_resultOf wsL_resultOf [.ref (ad 0), .int p0, .ref o] yX3_resultOf wsX3_resultOf rmX3_resultOf [.ref (bd 0), .int p0] := by
  by_cases c1 : fk_isT p0 = true
  · obtain ⟨t, ht, rfl⟩ := fk_isT_of c1
    exact fk_Op_ok (M' := (fk_up M 12 4 0)) (fk_es M) (fk_kf (by decide) (by decide) (by omega)) (fk_hs M) (fk_is h) (fun X => Lc_resultOf l D ad cI cT cJ X _ o f _ _ _ (fun X => kc_resultOf l D ad cI cT cJ X _ t ht)) (fun X => mc_resultOf l D bd cI cT cJ X M t ht)
  · exact fk_Op_no h 1 (by decide) (by decide) (u := 1) (w := 1) rfl rfl (fun X => Lx_resultOf_IO l D ad cI cT cJ X _ o f _ (fun X => kx_resultOf_1 l D ad cI cT cJ X _ hst _  (eq_false_of_ne_true c1))) (fun X => mn_resultOf l D bd cI cT cJ X M _  (eq_false_of_ne_true c1))

theorem op_serialOf {l : Launch} {D : va_G} {ad bd : Nat → Nat} {cI cT cJ : ClassId} {a b : Nat} {M : fk_S} {o : Nat} {f : Nat → Int64} (h : fk_I a b M) (ha : a + 8 < 2 ^ 20) (hb : b + 1000 < 2 ^ 25) (hst : l.stackTraces = false) (p0 : Int32) : fk_Op l D ad bd cI cT cJ a b M o f yL_serialOf wsL_serialOf [.ref (ad 0), .int p0, .ref o] yX3_serialOf wsX3_serialOf rmX3_serialOf [.ref (bd 0), .int p0] := by
  by_cases c1 : fk_isT p0 = true
  · obtain ⟨t, ht, rfl⟩ := fk_isT_of c1
    exact fk_Op_ok (M' := (fk_up M 12 4 0)) (fk_es M) (fk_kf (by decide) (by decide) (by omega)) (fk_hs M) (fk_is h) (fun X => Lc_serialOf l D ad cI cT cJ X _ o f _ _ _ (fun X => kc_serialOf l D ad cI cT cJ X _ t ht)) (fun X => mc_serialOf l D bd cI cT cJ X M t ht)
  · exact fk_Op_no h 1 (by decide) (by decide) (u := 1) (w := 1) rfl rfl (fun X => Lx_serialOf_IO l D ad cI cT cJ X _ o f _ (fun X => kx_serialOf_1 l D ad cI cT cJ X _ hst _  (eq_false_of_ne_true c1))) (fun X => mn_serialOf l D bd cI cT cJ X M _  (eq_false_of_ne_true c1))

theorem op_addressOf {l : Launch} {D : va_G} {ad bd : Nat → Nat} {cI cT cJ : ClassId} {a b : Nat} {M : fk_S} {o : Nat} {f : Nat → Int64} (h : fk_I a b M) (ha : a + 8 < 2 ^ 20) (hb : b + 1000 < 2 ^ 25) (hst : l.stackTraces = false) (p0 : Int32) : fk_Op l D ad bd cI cT cJ a b M o f yL_addressOf wsL_addressOf [.ref (ad 0), .int p0, .ref o] yX3_addressOf wsX3_addressOf rmX3_addressOf [.ref (bd 0), .int p0] := by
  by_cases c1 : fk_isT p0 = true
  · obtain ⟨t, ht, rfl⟩ := fk_isT_of c1
    exact fk_Op_ok (M' := (fk_up M 12 4 0)) (fk_es M) (rfl) (fk_hs M) (fk_is h) (fun X => Lc_addressOf l D ad cI cT cJ X _ o f _ _ _ (fun X => kc_addressOf l D ad cI cT cJ X _ t ht)) (fun X => mc_addressOf l D bd cI cT cJ X M t ht)
  · exact fk_Op_no h 1 (by decide) (by decide) (u := 1) (w := 1) rfl rfl (fun X => Lx_addressOf_IO l D ad cI cT cJ X _ o f _ (fun X => kx_addressOf_1 l D ad cI cT cJ X _ hst _  (eq_false_of_ne_true c1))) (fun X => mn_addressOf l D bd cI cT cJ X M _  (eq_false_of_ne_true c1))

theorem op_blockedBy {l : Launch} {D : va_G} {ad bd : Nat → Nat} {cI cT cJ : ClassId} {a b : Nat} {M : fk_S} {o : Nat} {f : Nat → Int64} (h : fk_I a b M) (ha : a + 8 < 2 ^ 20) (hb : b + 1000 < 2 ^ 25) (hst : l.stackTraces = false) (p0 : Int32) : fk_Op l D ad bd cI cT cJ a b M o f yL_blockedBy wsL_blockedBy [.ref (ad 0), .int p0, .ref o] yX3_blockedBy wsX3_blockedBy rmX3_blockedBy [.ref (bd 0), .int p0] := by
  by_cases c1 : fk_isT p0 = true
  · obtain ⟨t, ht, rfl⟩ := fk_isT_of c1
    have K := kk_blocked_k (t := t) (fk_I0 h 0) ht
    rw [fk_k_set] at K
    exact fk_Op_ok (M' := (fk_up M 12 4 0)) (fk_es M) (K.2) (fk_hs M) (fk_is h) (fun X => Lc_blockedBy l D ad cI cT cJ X _ o f _ _ _ (fun X => kc_blockedBy l D ad cI cT cJ X _ t ht)) (fun X => mc_blockedBy l D bd cI cT cJ X M t ht h.at K.1)
  · exact fk_Op_no h 1 (by decide) (by decide) (u := 1) (w := 1) rfl rfl (fun X => Lx_blockedBy_IO l D ad cI cT cJ X _ o f _ (fun X => kx_blockedBy_1 l D ad cI cT cJ X _ hst _  (eq_false_of_ne_true c1))) (fun X => mn_blockedBy l D bd cI cT cJ X M _  (eq_false_of_ne_true c1))

theorem op_lockAt {l : Launch} {D : va_G} {ad bd : Nat → Nat} {cI cT cJ : ClassId} {a b : Nat} {M : fk_S} {o : Nat} {f : Nat → Int64} (h : fk_I a b M) (ha : a + 8 < 2 ^ 20) (hb : b + 1000 < 2 ^ 25) (hst : l.stackTraces = false) (p0 p1 : Int32) : fk_Op l D ad bd cI cT cJ a b M o f yL_lockAt wsL_lockAt [.ref (ad 0), .int p0, .int p1, .ref o] yX3_lockAt wsX3_lockAt rmX3_lockAt [.ref (bd 0), .int p0, .int p1] := by
  by_cases c1 : fk_isT p0 = true
  · obtain ⟨t, ht, rfl⟩ := fk_isT_of c1
    by_cases c2 : 0 ≤ p1 ∧ p1 < M 10 t
    · obtain ⟨k, hk, hs, hv, -⟩ := h.1 t ht
      obtain ⟨j, hj, rfl⟩ := nI_of (x := p1) (Int32.not_lt.mpr c2.1)
      have hjk : j < k := (nI_ltI hj (by omega)).mp (by rw [← hs]; exact c2.2)
      have c5 : 0 ≤ nI j ∧ nI j < fk_kOf M 10 t := by rw [fk_k10]; exact c2
      exact fk_Op_ok (M' := (fk_up M 12 4 0)) (fk_es M) (by unfold kk_addrAt; rw [if_pos c5, fk_kff (f := 11) (by decide) (by decide) (by decide), nI_clamp hj]) (fk_hs M) (fk_is h) (fun X => Lc_lockAt l D ad cI cT cJ X _ o f _ _ _ _ (fun X => kc_lockAt l D ad cI cT cJ X _ t ht _ (fk_ksz h) c5)) (fun X => mc_lockAt l D bd cI cT cJ X M t ht j k hk hs hjk)
    · exact fk_Op_no h 1 (by decide) (by decide) (u := 1) (w := 1) rfl rfl (fun X => Lx_lockAt_IO l D ad cI cT cJ X _ o f _ _ (fun X => kx_lockAt_2 l D ad cI cT cJ X _ hst t ht _ (by rw [fk_k10]; exact c2))) (fun X => mn_lockAt l D bd cI cT cJ X M _ _ (by rw [nI_clamp (by omega)]; exact fun z => c2 z.2))
  · exact fk_Op_no h 1 (by decide) (by decide) (u := 1) (w := 1) rfl rfl (fun X => Lx_lockAt_IO l D ad cI cT cJ X _ o f _ _ (fun X => kx_lockAt_1 l D ad cI cT cJ X _ hst _ _ (eq_false_of_ne_true c1))) (fun X => mn_lockAt l D bd cI cT cJ X M _ _ (fun z => c1 z.1))

theorem op_interrupt {l : Launch} {D : va_G} {ad bd : Nat → Nat} {cI cT cJ : ClassId} {a b : Nat} {M : fk_S} (h : fk_I a b M) (ha : a + 8 < 2 ^ 20) (hb : b + 1000 < 2 ^ 25) (hst : l.stackTraces = false) (p0 : Int32) : fk_OpV l D ad bd cI cT cJ a b M yL_interrupt wsL_interrupt [.ref (ad 0), .int p0] yX3_interrupt wsX3_interrupt rmX3_interrupt [.ref (bd 0), .int p0] := by
  by_cases c1 : fk_isT p0 = true
  · obtain ⟨t, ht, rfl⟩ := fk_isT_of c1
    by_cases c2 : mm_q M t = true
    · have K := kk_end_k (t := t) (fk_I0 h 0) (by omega) ht (show mm_q (fk_up M 12 4 0) t = true from c2) 2
      rw [fk_k_set] at K
      exact fk_OpV_ok (M' := mm_end (fk_up M 12 4 0) t 2) (K) (by rw [mm_end_4, fk_up_s]) ((fk_I_end (fk_I0 h 0)).wk (by omega) (by omega)) (fun X => Lc_interrupt l D ad cI cT cJ X _ _ _ (fun X => kc_interrupt l D ad cI cT cJ X _ t ht ((kk_q_k h ht).trans c2))) (fun X => mc_interrupt l D bd cI cT cJ X M t ht h.at c2)
    · exact fk_OpV_no h 2 (by decide) (u := 2) (w := 2) rfl rfl (fun X => Lx_interrupt_IS l D ad cI cT cJ X _ _ (fun X => kx_interrupt_2 l D ad cI cT cJ X _ hst t ht ((kk_q_k h ht).trans (eq_false_of_ne_true c2)))) (fun X => mn_interrupt_2 l D bd cI cT cJ X M t ht (eq_false_of_ne_true c2))
  · exact fk_OpV_no h 1 (by decide) (u := 1) (w := 1) rfl rfl (fun X => Lx_interrupt_IO l D ad cI cT cJ X _ _ (fun X => kx_interrupt_1 l D ad cI cT cJ X _ hst _  (eq_false_of_ne_true c1))) (fun X => mn_interrupt_1 l D bd cI cT cJ X M _  (eq_false_of_ne_true c1))

theorem op_start {l : Launch} {D : va_G} {ad bd : Nat → Nat} {cI cT cJ : ClassId} {a b : Nat} {M : fk_S} (h : fk_I a b M) (ha : a + 8 < 2 ^ 20) (hb : b + 1000 < 2 ^ 25) (hst : l.stackTraces = false) (p0 : Int32) : fk_OpV l D ad bd cI cT cJ a b M yL_start wsL_start [.ref (ad 0), .int p0] yX3_start wsX3_start rmX3_start [.ref (bd 0), .int p0] := by
  by_cases c1 : fk_isT p0 = true
  · obtain ⟨t, ht, rfl⟩ := fk_isT_of c1
    by_cases c2 : M 1 t = 3
    · have K := kk_start_k (t := t) (fk_I0 h 0) (by rw [fk_m1]; exact c2)
      rw [fk_k_set] at K
      exact fk_OpV_ok (M' := kk_start (fk_up M 12 4 0) t) (K.1) (by rw [kk_start_4, fk_up_s]) (K.2.wk (by omega) (by omega)) (fun X => Lc_start l D ad cI cT cJ X _ _ _ (fun X => kc_start l D ad cI cT cJ X _ t ht (by rw [fk_k1]; exact c2))) (fun X => mc_start l D bd cI cT cJ X M t ht c2)
    · exact fk_OpV_no h 2 (by decide) (u := 2) (w := 2) rfl rfl (fun X => Lx_start_IS l D ad cI cT cJ X _ _ (fun X => kx_start_2 l D ad cI cT cJ X _ hst t ht (by rw [fk_k1]; exact c2))) (fun X => mn_start_2 l D bd cI cT cJ X M t ht c2)
  · exact fk_OpV_no h 1 (by decide) (u := 1) (w := 1) rfl rfl (fun X => Lx_start_IO l D ad cI cT cJ X _ _ (fun X => kx_start_1 l D ad cI cT cJ X _ hst _  (eq_false_of_ne_true c1))) (fun X => mn_start_1 l D bd cI cT cJ X M _  (eq_false_of_ne_true c1))

theorem op_exit {l : Launch} {D : va_G} {ad bd : Nat → Nat} {cI cT cJ : ClassId} {a b : Nat} {M : fk_S} {o : Nat} {f : Nat → Int64} (h : fk_I a b M) (ha : a + 8 < 2 ^ 20) (hb : b + 1000 < 2 ^ 25) (hst : l.stackTraces = false) (p0 : Int32) : fk_Op l D ad bd cI cT cJ a b M o f yL_exit wsL_exit [.ref (ad 0), .int p0, .ref o] yX3_exit wsX3_exit rmX3_exit [.ref (bd 0), .int p0] := by
  by_cases c1 : fk_isT p0 = true
  · obtain ⟨t, ht, rfl⟩ := fk_isT_of c1
    by_cases c2 : M 1 t = 3
    · exact fk_Op_no h 2 (by decide) (by decide) (u := 2) (w := 2) rfl rfl (fun X => Lx_exit_IS l D ad cI cT cJ X _ o f _ (fun X => kx_exit_2 l D ad cI cT cJ X _ hst t ht (by rw [fk_k1]; exact c2))) (fun X => mn_exit_2 l D bd cI cT cJ X M t ht c2)
    · have K := kk_exit_k (t := t) (fk_I0 h 0) (by omega) ht
      rw [fk_k_set] at K
      obtain ⟨K1, K2, K3⟩ := K
      exact fk_Op_ok (M' := mm_exit (fk_up M 12 4 0) t) (K2) (K1) (by rw [mm_exit_4, fk_up_s]) (K3.wk (by omega) (by omega)) (fun X => Lc_exit l D ad cI cT cJ X _ o f _ _ _ (fun X => kc_exit l D ad cI cT cJ X _ t ht (fk_ksz h) (by rw [fk_k1]; exact c2))) (fun X => mc_exit l D bd cI cT cJ X M t ht h.at h.1 c2)
  · exact fk_Op_no h 1 (by decide) (by decide) (u := 1) (w := 1) rfl rfl (fun X => Lx_exit_IO l D ad cI cT cJ X _ o f _ (fun X => kx_exit_1 l D ad cI cT cJ X _ hst _  (eq_false_of_ne_true c1))) (fun X => mn_exit_1 l D bd cI cT cJ X M _  (eq_false_of_ne_true c1))

theorem op_setPriority {l : Launch} {D : va_G} {ad bd : Nat → Nat} {cI cT cJ : ClassId} {a b : Nat} {M : fk_S} {o : Nat} {f : Nat → Int64} (h : fk_I a b M) (ha : a + 8 < 2 ^ 20) (hb : b + 1000 < 2 ^ 25) (hst : l.stackTraces = false) (p0 p1 : Int32) : fk_Op l D ad bd cI cT cJ a b M o f yL_setPriority wsL_setPriority [.ref (ad 0), .int p0, .int p1, .ref o] yX3_setPriority wsX3_setPriority rmX3_setPriority [.ref (bd 0), .int p0, .int p1] := by
  by_cases c1 : fk_isT p0 = true
  · obtain ⟨t, ht, rfl⟩ := fk_isT_of c1
    by_cases c2 : fk_btw p1 0 9 = true
    · by_cases c3 : M 1 t = 3
      · exact fk_Op_no h 3 (by decide) (by decide) (u := 3) (w := 3) rfl rfl (fun X => Lx_setPriority_IS l D ad cI cT cJ X _ o f _ _ (fun X => kx_setPriority_3 l D ad cI cT cJ X _ hst t ht _ c2 (by rw [fk_k1]; exact c3))) (fun X => mn_setPriority_3 l D bd cI cT cJ X M t ht _ c2 c3)
      · obtain ⟨d, hd, hd2⟩ := fk_btw_of (n := 9) (by decide) c2
        have K := kk_prio_k (t := t) (fk_I0 h 0) (by omega) ht hd2 hd
        rw [fk_k_set] at K
        exact fk_Op_ok (M' := mm_prio (fk_up M 12 4 0) t p1) (K.1) (fk_kf (by decide) (by decide) (by omega)) (by rw [mm_prio_4, fk_up_s]) (K.2.wk (Nat.le_refl _) (by omega)) (fun X => Lc_setPriority l D ad cI cT cJ X _ o f _ _ _ _ (fun X => kc_setPriority l D ad cI cT cJ X _ t ht _ c2 (by rw [fk_k1]; exact c3))) (fun X => mc_setPriority l D bd cI cT cJ X M t ht _ c2 c3)
    · exact fk_Op_no h 2 (by decide) (by decide) (u := 2) (w := 2) rfl rfl (fun X => Lx_setPriority_IA l D ad cI cT cJ X _ o f _ _ (fun X => kx_setPriority_2 l D ad cI cT cJ X _ hst t ht _ (eq_false_of_ne_true c2))) (fun X => mn_setPriority_2 l D bd cI cT cJ X M t ht _ (eq_false_of_ne_true c2))
  · exact fk_Op_no h 1 (by decide) (by decide) (u := 1) (w := 1) rfl rfl (fun X => Lx_setPriority_IO l D ad cI cT cJ X _ o f _ _ (fun X => kx_setPriority_1 l D ad cI cT cJ X _ hst _ _ (eq_false_of_ne_true c1))) (fun X => mn_setPriority_1 l D bd cI cT cJ X M _ _ (eq_false_of_ne_true c1))

theorem op_tick {l : Launch} {D : va_G} {ad bd : Nat → Nat} {cI cT cJ : ClassId} {a b : Nat} {M : fk_S} {o : Nat} {f : Nat → Int64} (h : fk_I a b M) (ha : a + 8 < 2 ^ 20) (hb : b + 1000 < 2 ^ 25) (hst : l.stackTraces = false) (p0 : Int32) : fk_Op l D ad bd cI cT cJ a b M o f yL_tick wsL_tick [.ref (ad 0), .int p0, .ref o] yX3_tick wsX3_tick rmX3_tick [.ref (bd 0), .int p0] := by
  by_cases c1 : fk_btw p0 1 1000 = true
  · obtain ⟨k, rfl, hk1, hk2⟩ := fk_btw1_of (n := 1000) (by decide) c1
    have K := kk_tick_k (fk_I0 h 0) (by omega) hk2 hb
    rw [fk_k_set] at K
    obtain ⟨K0, K1, K2, K3⟩ := K
    exact fk_Op_ok (M' := (mm_tickL k (fk_up M 12 4 0)).2) (K2) (K1) (by rw [mm_tickL_4, fk_up_s]) (K3.wk (by omega) (Nat.le_refl _)) (fun X => Lc_tick l D ad cI cT cJ X _ o f _ _ _ (fun X => kc_tick l D ad cI cT cJ X _ _ c1)) (fun X => mc_tick l D bd cI cT cJ X M k hk1 hk2 h.at K0)
  · exact fk_Op_no h 1 (by decide) (by decide) (u := 1) (w := 1) rfl rfl (fun X => Lx_tick_IA l D ad cI cT cJ X _ o f _ (fun X => kx_tick_1 l D ad cI cT cJ X _ hst _ (eq_false_of_ne_true c1))) (fun X => mn_tick l D bd cI cT cJ X M _ (eq_false_of_ne_true c1))

theorem op_waiters {l : Launch} {D : va_G} {ad bd : Nat → Nat} {cI cT cJ : ClassId} {a b : Nat} {M : fk_S} {o : Nat} {f : Nat → Int64} (h : fk_I a b M) (ha : a + 8 < 2 ^ 20) (hb : b + 1000 < 2 ^ 25) (hst : l.stackTraces = false) (p0 : Int32) : fk_Op l D ad bd cI cT cJ a b M o f yL_waiters wsL_waiters [.ref (ad 0), .int p0, .ref o] yX3_waiters wsX3_waiters rmX3_waiters [.ref (bd 0), .int p0] := by
  by_cases c2 : fk_isA p0 = true
  · obtain ⟨x, hx, rfl⟩ := fk_isA_of c2
    have K := kk_waiters_k (fk_up M 12 4 0) hx
    rw [fk_k_set] at K
    exact fk_Op_ok (M' := (fk_up M 12 4 0)) (fk_es M) (K) (fk_hs M) (fk_is h) (fun X => Lc_waiters l D ad cI cT cJ X _ o f _ _ _ (fun X => kc_waiters l D ad cI cT cJ X _ x hx)) (fun X => mc_waiters l D bd cI cT cJ X M x hx)
  · exact fk_Op_no h 1 (by decide) (by decide) (u := 1) (w := 1) rfl rfl (fun X => Lx_waiters_IO l D ad cI cT cJ X _ o f _ (fun X => kx_waiters_1 l D ad cI cT cJ X _ hst _ (eq_false_of_ne_true c2))) (fun X => mn_waiters l D bd cI cT cJ X M _ (eq_false_of_ne_true c2))

theorem op_waiterAt {l : Launch} {D : va_G} {ad bd : Nat → Nat} {cI cT cJ : ClassId} {a b : Nat} {M : fk_S} {o : Nat} {f : Nat → Int64} (h : fk_I a b M) (ha : a + 8 < 2 ^ 20) (hb : b + 1000 < 2 ^ 25) (hst : l.stackTraces = false) (p0 p1 : Int32) : fk_Op l D ad bd cI cT cJ a b M o f yL_waiterAt wsL_waiterAt [.ref (ad 0), .int p0, .int p1, .ref o] yX3_waiterAt wsX3_waiterAt rmX3_waiterAt [.ref (bd 0), .int p0, .int p1] := by
  by_cases c2 : fk_isA p0 = true
  · obtain ⟨x, hx, rfl⟩ := fk_isA_of c2
    have K := kk_wAt_k (fk_I0 h 0) (by omega) hx p1
    rw [fk_k_set] at K
    obtain ⟨K1, K2⟩ := K
    by_cases c3 : 0 ≤ p1 ∧ p1 < mm_cntA (fk_up M 12 4 0) (nI x)
    · obtain ⟨u, hu⟩ := K2.mp c3
      exact fk_Op_ok (M' := (fk_up M 12 4 0)) (fk_es M) (show nI u = fk_oI (mm_th (fk_up M 12 4 0) (fk_bkt (nI x)) (nI x) p1) by rw [← K1, hu]; rfl) (fk_hs M) (fk_is h) (fun X => Lc_waiterAt l D ad cI cT cJ X _ o f _ _ _ _ (fun X => kc_waiterAt l D ad cI cT cJ X _ x hx _ u hu)) (fun X => mc_waiterAt l D bd cI cT cJ X M x hx _ c3.1 c3.2)
    · have hn : kk_wAt (fk_kOf M) (nI x) p1 = none := by
        cases hq : kk_wAt (fk_kOf M) (nI x) p1 with
        | none => rfl
        | some u => exact absurd (K2.mpr ⟨u, hq⟩) c3
      exact fk_Op_no h 1 (by decide) (by decide) (u := 1) (w := 1) rfl rfl (fun X => Lx_waiterAt_IO l D ad cI cT cJ X _ o f _ _ (fun X => kx_waiterAt_2 l D ad cI cT cJ X _ hst x hx _ hn)) (fun X => mn_waiterAt l D bd cI cT cJ X M _ _ (fun z => c3 z.2))
  · exact fk_Op_no h 1 (by decide) (by decide) (u := 1) (w := 1) rfl rfl (fun X => Lx_waiterAt_IO l D ad cI cT cJ X _ o f _ _ (fun X => kx_waiterAt_1 l D ad cI cT cJ X _ hst _ _ (eq_false_of_ne_true c2))) (fun X => mn_waiterAt l D bd cI cT cJ X M _ _ (fun z => c2 z.1))

theorem fk_lt_of {v : Int32} {n : Nat} (hn : n < 2 ^ 31) (h0 : 0 ≤ v) (h : v < nI n) : ∃ d, v = nI d ∧ d < n := by
  obtain ⟨j, hj, rfl⟩ := nI_of (x := v) (Int32.not_lt.mpr h0)
  exact ⟨j, rfl, (nI_ltI hj hn).mp h⟩
theorem op_queueAt {l : Launch} {D : va_G} {ad bd : Nat → Nat} {cI cT cJ : ClassId} {a b : Nat} {M : fk_S} {o : Nat} {f : Nat → Int64} (h : fk_I a b M) (ha : a + 8 < 2 ^ 20) (hb : b + 1000 < 2 ^ 25) (hst : l.stackTraces = false) (p0 p1 : Int32) : fk_Op l D ad bd cI cT cJ a b M o f yL_queueAt wsL_queueAt [.ref (ad 0), .int p0, .int p1, .ref o] yX3_queueAt wsX3_queueAt rmX3_queueAt [.ref (bd 0), .int p0, .int p1] := by
  by_cases c2 : 0 ≤ p0 ∧ p0 < 4 ∧ 0 ≤ p1
  · obtain ⟨y, rfl, hy⟩ := fk_lt_of (n := 4) (by decide) c2.1 c2.2.1
    have K := kk_qAt_k (fk_I0 h 0) (by omega) (nI y) p1
    rw [fk_k_set] at K
    exact fk_Op_ok (M' := (fk_up M 12 4 0)) (fk_es M) (congrArg fk_oI K) (fk_hs M) (fk_is h) (fun X => Lc_queueAt l D ad cI cT cJ X _ o f _ _ _ _ (fun X => kc_queueAt l D ad cI cT cJ X _ y hy _ c2.2.2)) (fun X => mc_queueAt l D bd cI cT cJ X M y hy _ c2.2.2)
  · exact fk_Op_no h 1 (by decide) (by decide) (u := 1) (w := 1) rfl rfl (fun X => Lx_queueAt_IO l D ad cI cT cJ X _ o f _ _ (fun X => kx_queueAt_1 l D ad cI cT cJ X _ hst _ _ c2)) (fun X => mn_queueAt l D bd cI cT cJ X M _ _ c2)
