theorem fk_e0 (M : fk_S) (x : Nat) (v : Int32) : fk_up (fk_kOf M) 0 x v = fk_kOf (fk_up (fk_up M 12 4 0) 0 x v) := by
  rw [fk_k_up _ _ (by decide) (by decide) (by decide) (by omega), fk_k_set]
theorem fk_h0 (M : fk_S) (x : Nat) (v : Int32) : fk_up (fk_up M 12 4 0) 0 x v 12 4 = 0 := by rw [fk_t4 (by omega), fk_up_s]
theorem fk_i0 {a b : Nat} {M : fk_S} (h : fk_I a b M) (x : Nat) (v : Int32) : fk_I (a + 8) (b + 1000) (fk_up (fk_up M 12 4 0) 0 x v) := (fk_I_up (fk_I0 h 0) (Or.inl rfl)).wk (by omega) (by omega)
theorem fk_es (M : fk_S) : fk_kOf M = fk_kOf (fk_up M 12 4 0) := (fk_k_set M 0).symm
theorem fk_hs (M : fk_S) : fk_up M 12 4 0 12 4 = 0 := fk_up_s ..
theorem fk_is {a b : Nat} {M : fk_S} (h : fk_I a b M) : fk_I (a + 8) (b + 1000) (fk_up M 12 4 0) := (fk_I0 h 0).wk (by omega) (by omega)
theorem fk_m1 (M : fk_S) (v : Int32) (t : Nat) : fk_up M 12 4 v 1 t = M 1 t := by rw [fk_up_f (by decide)]
theorem fk_m0 (M : fk_S) (v : Int32) (t : Nat) : fk_up M 12 4 v 0 t = M 0 t := by rw [fk_up_f (by decide)]
theorem fk_le8 {v : Int32} : v ≤ 8 ↔ v < 9 := by
  rw [Int32.le_iff_toInt_le, Int32.lt_iff_toInt_lt]
  have b : (8 : Int32).toInt = 8 := rfl
  have c : (9 : Int32).toInt = 9 := rfl
  omega
theorem fk_rw_btw (mo mk : Int32) : mm_rw mo mk = (fk_btw mo 1 8 && mm_msk mk) := by
  unfold mm_rw
  rw [fk_btw1, decide_eq_decide.mpr fk_le8]

theorem op_store {l : Launch} {D : va_G} {ad bd : Nat → Nat} {cI cT cJ : ClassId} {a b : Nat} {M : fk_S} {o : Nat} {f : Nat → Int64} (h : fk_I a b M) (ha : a + 8 < 2 ^ 20) (hb : b + 1000 < 2 ^ 25) (hst : l.stackTraces = false) (p0 p1 p2 : Int32) : fk_Op l D ad bd cI cT cJ a b M o f yL_store wsL_store [.ref (ad 0), .int p0, .int p1, .int p2, .ref o] yX3_store wsX3_store rmX3_store [.ref (bd 0), .int p0, .int p1, .int p2] := by
  by_cases c1 : fk_isT p0 = true
  · obtain ⟨t, ht, rfl⟩ := fk_isT_of c1
    by_cases c2 : fk_isA p1 = true
    · obtain ⟨x, hx, rfl⟩ := fk_isA_of c2
      by_cases cr : M 1 t = 0
      · exact fk_Op_ok (M' := fk_up (fk_up M 12 4 0) 0 x p2) (fk_e0 M x p2) (fk_k0 M x) (fk_h0 M x p2) (fk_i0 h x p2) (fun X => Lc_store l D ad cI cT cJ X _ o f _ _ _ _ _ (fun X => kc_store l D ad cI cT cJ X _ t ht x hx p2 (by rw [fk_k1]; exact cr))) (fun X => mc_store l D bd cI cT cJ X M t ht x hx p2 cr)
      · exact fk_Op_no h 2 (by decide) (by decide) (u := 2) (w := 2) rfl rfl (fun X => Lx_store_IS l D ad cI cT cJ X _ o f _ _ _ (fun X => kx_store_3 l D ad cI cT cJ X _ hst t ht x hx _ (by rw [fk_k1]; exact cr))) (fun X => mn_store l D bd cI cT cJ X M _ _ _ _ (mm_code_s ht hx rfl cr) (by decide))
    · exact fk_Op_no h 1 (by decide) (by decide) (u := 1) (w := 1) rfl rfl (fun X => Lx_store_IO l D ad cI cT cJ X _ o f _ _ _ (fun X => kx_store_2 l D ad cI cT cJ X _ hst t ht _ _ (eq_false_of_ne_true c2))) (fun X => mn_store l D bd cI cT cJ X M _ _ _ _ (mm_code_a (eq_false_of_ne_true c2)) (by decide))
  · exact fk_Op_no h 1 (by decide) (by decide) (u := 1) (w := 1) rfl rfl (fun X => Lx_store_IO l D ad cI cT cJ X _ o f _ _ _ (fun X => kx_store_1 l D ad cI cT cJ X _ hst _ _ _ (eq_false_of_ne_true c1))) (fun X => mn_store l D bd cI cT cJ X M _ _ _ _ (mm_code_t (eq_false_of_ne_true c1)) (by decide))

theorem op_fetchAdd {l : Launch} {D : va_G} {ad bd : Nat → Nat} {cI cT cJ : ClassId} {a b : Nat} {M : fk_S} {o : Nat} {f : Nat → Int64} (h : fk_I a b M) (ha : a + 8 < 2 ^ 20) (hb : b + 1000 < 2 ^ 25) (hst : l.stackTraces = false) (p0 p1 p2 : Int32) : fk_Op l D ad bd cI cT cJ a b M o f yL_fetchAdd wsL_fetchAdd [.ref (ad 0), .int p0, .int p1, .int p2, .ref o] yX3_fetchAdd wsX3_fetchAdd rmX3_fetchAdd [.ref (bd 0), .int p0, .int p1, .int p2] := by
  by_cases c1 : fk_isT p0 = true
  · obtain ⟨t, ht, rfl⟩ := fk_isT_of c1
    by_cases c2 : fk_isA p1 = true
    · obtain ⟨x, hx, rfl⟩ := fk_isA_of c2
      by_cases cr : M 1 t = 0
      · exact fk_Op_ok (M' := fk_up (fk_up M 12 4 0) 0 x (M 0 x + p2)) ((congrArg (fun z => fk_up (fk_kOf M) 0 x (z + p2)) (fk_k0 M x)).trans (fk_e0 M x _)) (fk_k0 M x) (fk_h0 M x _) (fk_i0 h x _) (fun X => Lc_fetchAdd l D ad cI cT cJ X _ o f _ _ _ _ _ (fun X => kc_fetchAdd l D ad cI cT cJ X _ t ht x hx p2 (by rw [fk_k1]; exact cr))) (fun X => mc_fetchAdd l D bd cI cT cJ X M t ht x hx p2 cr)
      · exact fk_Op_no h 2 (by decide) (by decide) (u := 2) (w := 2) rfl rfl (fun X => Lx_fetchAdd_IS l D ad cI cT cJ X _ o f _ _ _ (fun X => kx_fetchAdd_3 l D ad cI cT cJ X _ hst t ht x hx _ (by rw [fk_k1]; exact cr))) (fun X => mn_fetchAdd l D bd cI cT cJ X M _ _ _ _ (mm_code_s ht hx rfl cr) (by decide))
    · exact fk_Op_no h 1 (by decide) (by decide) (u := 1) (w := 1) rfl rfl (fun X => Lx_fetchAdd_IO l D ad cI cT cJ X _ o f _ _ _ (fun X => kx_fetchAdd_2 l D ad cI cT cJ X _ hst t ht _ _ (eq_false_of_ne_true c2))) (fun X => mn_fetchAdd l D bd cI cT cJ X M _ _ _ _ (mm_code_a (eq_false_of_ne_true c2)) (by decide))
  · exact fk_Op_no h 1 (by decide) (by decide) (u := 1) (w := 1) rfl rfl (fun X => Lx_fetchAdd_IO l D ad cI cT cJ X _ o f _ _ _ (fun X => kx_fetchAdd_1 l D ad cI cT cJ X _ hst _ _ _ (eq_false_of_ne_true c1))) (fun X => mn_fetchAdd l D bd cI cT cJ X M _ _ _ _ (mm_code_t (eq_false_of_ne_true c1)) (by decide))

theorem op_compareAndSet {l : Launch} {D : va_G} {ad bd : Nat → Nat} {cI cT cJ : ClassId} {a b : Nat} {M : fk_S} {o : Nat} {f : Nat → Int64} (h : fk_I a b M) (ha : a + 8 < 2 ^ 20) (hb : b + 1000 < 2 ^ 25) (hst : l.stackTraces = false) (p0 p1 p2 p3 : Int32) : fk_OpB l D ad bd cI cT cJ a b M o f yL_compareAndSet wsL_compareAndSet [.ref (ad 0), .int p0, .int p1, .int p2, .int p3, .ref o] yX3_compareAndSet wsX3_compareAndSet rmX3_compareAndSet [.ref (bd 0), .int p0, .int p1, .int p2, .int p3] := by
  by_cases c1 : fk_isT p0 = true
  · obtain ⟨t, ht, rfl⟩ := fk_isT_of c1
    by_cases c2 : fk_isA p1 = true
    · obtain ⟨x, hx, rfl⟩ := fk_isA_of c2
      by_cases cr : M 1 t = 0
      · by_cases c4 : M 0 x = p2
        · have c5 : fk_kOf M 0 x = p2 := (fk_k0 M x).trans c4
          refine fk_OpB_ok (M' := fk_up (fk_up M 12 4 0) 0 x p3) (fk_e0 M x p3) (v := true) (r := true) rfl (fk_h0 M x p3) (fk_i0 h x p3) (fun X => Lc_compareAndSet l D ad cI cT cJ X _ o f _ _ _ _ _ _ (fun X => ?_)) (fun X => ?_)
          · have h9 := kc_compareAndSet l D ad cI cT cJ X (fk_kOf M) t ht x hx p2 p3 (by rw [fk_k1]; exact cr)
            rw [if_pos c5, decide_eq_true c5] at h9
            exact h9
          · have h9 := mc_compareAndSet l D bd cI cT cJ X M t ht x hx p2 p3 cr
            rw [if_pos c4, decide_eq_true c4] at h9
            exact h9
        · have c5 : ¬ fk_kOf M 0 x = p2 := fun z => c4 ((fk_k0 M x).symm.trans z)
          refine fk_OpB_ok (M' := fk_up M 12 4 0) (fk_es M) (v := false) (r := false) rfl (fk_hs M) (fk_is h) (fun X => Lc_compareAndSet l D ad cI cT cJ X _ o f _ _ _ _ _ _ (fun X => ?_)) (fun X => ?_)
          · have h9 := kc_compareAndSet l D ad cI cT cJ X (fk_kOf M) t ht x hx p2 p3 (by rw [fk_k1]; exact cr)
            rw [if_neg c5, decide_eq_false c5] at h9
            exact h9
          · have h9 := mc_compareAndSet l D bd cI cT cJ X M t ht x hx p2 p3 cr
            rw [if_neg c4, decide_eq_false c4] at h9
            exact h9
      · exact fk_OpB_no h 2 (by decide) (by decide) (u := 2) (w := 2) rfl rfl (fun X => Lx_compareAndSet_IS l D ad cI cT cJ X _ o f _ _ _ _ (fun X => kx_compareAndSet_3 l D ad cI cT cJ X _ hst t ht x hx _ _ (by rw [fk_k1]; exact cr))) (fun X => mn_compareAndSet l D bd cI cT cJ X M _ _ _ _ _ (mm_code_s ht hx rfl cr) (by decide))
    · exact fk_OpB_no h 1 (by decide) (by decide) (u := 1) (w := 1) rfl rfl (fun X => Lx_compareAndSet_IO l D ad cI cT cJ X _ o f _ _ _ _ (fun X => kx_compareAndSet_2 l D ad cI cT cJ X _ hst t ht _ _ _ (eq_false_of_ne_true c2))) (fun X => mn_compareAndSet l D bd cI cT cJ X M _ _ _ _ _ (mm_code_a (eq_false_of_ne_true c2)) (by decide))
  · exact fk_OpB_no h 1 (by decide) (by decide) (u := 1) (w := 1) rfl rfl (fun X => Lx_compareAndSet_IO l D ad cI cT cJ X _ o f _ _ _ _ (fun X => kx_compareAndSet_1 l D ad cI cT cJ X _ hst _ _ _ _ (eq_false_of_ne_true c1))) (fun X => mn_compareAndSet l D bd cI cT cJ X M _ _ _ _ _ (mm_code_t (eq_false_of_ne_true c1)) (by decide))

theorem op_word {l : Launch} {D : va_G} {ad bd : Nat → Nat} {cI cT cJ : ClassId} {a b : Nat} {M : fk_S} {o : Nat} {f : Nat → Int64} (h : fk_I a b M) (ha : a + 8 < 2 ^ 20) (hb : b + 1000 < 2 ^ 25) (hst : l.stackTraces = false) (p0 : Int32) : fk_Op l D ad bd cI cT cJ a b M o f yL_word wsL_word [.ref (ad 0), .int p0, .ref o] yX3_word wsX3_word rmX3_word [.ref (bd 0), .int p0] := by
  by_cases c2 : fk_isA p0 = true
  · obtain ⟨x, hx, rfl⟩ := fk_isA_of c2
    exact fk_Op_ok (M' := (fk_up M 12 4 0)) (fk_es M) (fk_k0 M x) (fk_hs M) (fk_is h) (fun X => Lc_word l D ad cI cT cJ X _ o f _ _ _ (fun X => kc_word l D ad cI cT cJ X _ x hx)) (fun X => mc_word l D bd cI cT cJ X M x hx)
  · exact fk_Op_no h 1 (by decide) (by decide) (u := 1) (w := 1) rfl rfl (fun X => Lx_word_IO l D ad cI cT cJ X _ o f _ (fun X => kx_word_1 l D ad cI cT cJ X _ hst _ (eq_false_of_ne_true c2))) (fun X => mn_word l D bd cI cT cJ X M _ (eq_false_of_ne_true c2))

theorem op_await {l : Launch} {D : va_G} {ad bd : Nat → Nat} {cI cT cJ : ClassId} {a b : Nat} {M : fk_S} {o : Nat} {f : Nat → Int64} (h : fk_I a b M) (ha : a + 8 < 2 ^ 20) (hb : b + 1000 < 2 ^ 25) (hst : l.stackTraces = false) (p0 p1 p2 p3 p4 : Int32) : fk_OpB l D ad bd cI cT cJ a b M o f yL_await wsL_await [.ref (ad 0), .int p0, .int p1, .int p2, .int p3, .int p4, .ref o] yX3_await wsX3_await rmX3_await [.ref (bd 0), .int p0, .int p1, .int p2, .int p3, .int p4] := by
  by_cases c1 : fk_isT p0 = true
  · obtain ⟨t, ht, rfl⟩ := fk_isT_of c1
    by_cases c2 : fk_isA p1 = true
    · obtain ⟨x, hx, rfl⟩ := fk_isA_of c2
      by_cases c3 : fk_btw p3 1 255 = true
      · by_cases c4 : fk_btw p4 0 10000 = true
        · by_cases cr : M 1 t = 0
          · obtain ⟨d, hd, hd2⟩ := fk_btw_of (n := 10000) (by decide) c4
            have K := kk_await_k (t := t) (x := x) (fk_I0 h 0) (by omega) p2 p3 p4 hd hd2
            rw [fk_k_set] at K
            have J := (fk_I_await (t := t) (fk_I0 h 0) (by omega) hx p2 p3 p4 hd hd2 (by rw [fk_m1]; exact cr)).wk (Nat.le_refl _) (show b ≤ b + 1000 by omega)
            exact fk_OpB_ok (M' := if M 0 x = p2 then mm_wait (fk_up M 12 4 0) t (nI x) 1 p3 p4 else fk_up M 12 4 0) (K) (by rw [fk_k0]) (by split <;> first | rw [mm_wait_4, fk_up_s] | exact fk_up_s ..) (J) (fun X => Lc_await l D ad cI cT cJ X _ o f _ _ _ _ _ _ _ (fun X => kc_await l D ad cI cT cJ X _ t ht x hx _ _ _ (by rw [fk_k1]; exact cr) c3 c4)) (fun X => mc_await l D bd cI cT cJ X M t ht x hx _ _ _ cr ((fk_btw_msk p3).symm.trans c3) c4)
          · exact fk_OpB_no h 3 (by decide) (by decide) (u := 3) (w := 3) rfl rfl (fun X => Lx_await_IS l D ad cI cT cJ X _ o f _ _ _ _ _ (fun X => kx_await_5 l D ad cI cT cJ X _ hst t ht x hx _ _ _ c3 c4 (by rw [fk_k1]; exact cr))) (fun X => mn_await l D bd cI cT cJ X M _ _ _ _ _ _ (mm_code_s ht hx (by rw [← fk_btw_msk, c3, show mm_tmo p4 = true from c4]; rfl) cr) (by decide))
        · exact fk_OpB_no h 2 (by decide) (by decide) (u := 2) (w := 2) rfl rfl (fun X => Lx_await_IA l D ad cI cT cJ X _ o f _ _ _ _ _ (fun X => kx_await_4 l D ad cI cT cJ X _ hst t ht x hx _ _ _ c3 (eq_false_of_ne_true c4))) (fun X => mn_await l D bd cI cT cJ X M _ _ _ _ _ _ (mm_code_r ht hx (by rw [show mm_tmo p4 = false from (eq_false_of_ne_true c4), Bool.and_false])) (by decide))
      · exact fk_OpB_no h 2 (by decide) (by decide) (u := 2) (w := 2) rfl rfl (fun X => Lx_await_IA l D ad cI cT cJ X _ o f _ _ _ _ _ (fun X => kx_await_3 l D ad cI cT cJ X _ hst t ht x hx _ _ _ (eq_false_of_ne_true c3))) (fun X => mn_await l D bd cI cT cJ X M _ _ _ _ _ _ (mm_code_r ht hx (by rw [← fk_btw_msk, (eq_false_of_ne_true c3)]; rfl)) (by decide))
    · exact fk_OpB_no h 1 (by decide) (by decide) (u := 1) (w := 1) rfl rfl (fun X => Lx_await_IO l D ad cI cT cJ X _ o f _ _ _ _ _ (fun X => kx_await_2 l D ad cI cT cJ X _ hst t ht _ _ _ _ (eq_false_of_ne_true c2))) (fun X => mn_await l D bd cI cT cJ X M _ _ _ _ _ _ (mm_code_a (eq_false_of_ne_true c2)) (by decide))
  · exact fk_OpB_no h 1 (by decide) (by decide) (u := 1) (w := 1) rfl rfl (fun X => Lx_await_IO l D ad cI cT cJ X _ o f _ _ _ _ _ (fun X => kx_await_1 l D ad cI cT cJ X _ hst _ _ _ _ _ (eq_false_of_ne_true c1))) (fun X => mn_await l D bd cI cT cJ X M _ _ _ _ _ _ (mm_code_t (eq_false_of_ne_true c1)) (by decide))

theorem op_wake {l : Launch} {D : va_G} {ad bd : Nat → Nat} {cI cT cJ : ClassId} {a b : Nat} {M : fk_S} {o : Nat} {f : Nat → Int64} (h : fk_I a b M) (ha : a + 8 < 2 ^ 20) (hb : b + 1000 < 2 ^ 25) (hst : l.stackTraces = false) (p0 p1 p2 p3 : Int32) : fk_Op l D ad bd cI cT cJ a b M o f yL_wake wsL_wake [.ref (ad 0), .int p0, .int p1, .int p2, .int p3, .ref o] yX3_wake wsX3_wake rmX3_wake [.ref (bd 0), .int p0, .int p1, .int p2, .int p3] := by
  by_cases c1 : fk_isT p0 = true
  · obtain ⟨t, ht, rfl⟩ := fk_isT_of c1
    by_cases c2 : fk_isA p1 = true
    · obtain ⟨x, hx, rfl⟩ := fk_isA_of c2
      by_cases c3 : fk_btw p2 1 8 = true
      · by_cases c4 : fk_btw p3 1 255 = true
        · by_cases cr : M 1 t = 0
          · obtain ⟨k, rfl, hk1, hk8⟩ := fk_btw1_of (n := 8) (by decide) c3
            have K := kk_wake_k (a := a) (b := b) (by omega) (nI x) p3 k _ (fk_I0 h 0)
            rw [fk_k_set] at K
            obtain ⟨K1, K2⟩ := K
            exact fk_Op_ok (M' := (mm_wake (nI x) p3 k (fk_up M 12 4 0)).2) (congrArg Prod.snd K1) (congrArg (fun z => nI z.1) K1) (by rw [mm_wake_4, fk_up_s]) (K2.wk (by omega) (by omega)) (fun X => Lc_wake l D ad cI cT cJ X _ o f _ _ _ _ _ _ (fun X => kc_wake l D ad cI cT cJ X _ t ht x hx k hk8 _ (by rw [fk_k1]; exact cr) c3 c4)) (fun X => mc_wake l D bd cI cT cJ X M t ht x hx k hk8 _ cr hk1 ((fk_btw_msk p3).symm.trans c4))
          · exact fk_Op_no h 3 (by decide) (by decide) (u := 3) (w := 3) rfl rfl (fun X => Lx_wake_IS l D ad cI cT cJ X _ o f _ _ _ _ (fun X => kx_wake_5 l D ad cI cT cJ X _ hst t ht x hx _ _ c3 c4 (by rw [fk_k1]; exact cr))) (fun X => mn_wake l D bd cI cT cJ X M _ _ _ _ _ (mm_code_s ht hx (by rw [fk_rw_btw, ← fk_btw_msk, c3, c4]; rfl) cr) (by decide))
        · exact fk_Op_no h 2 (by decide) (by decide) (u := 2) (w := 2) rfl rfl (fun X => Lx_wake_IA l D ad cI cT cJ X _ o f _ _ _ _ (fun X => kx_wake_4 l D ad cI cT cJ X _ hst t ht x hx _ _ c3 (eq_false_of_ne_true c4))) (fun X => mn_wake l D bd cI cT cJ X M _ _ _ _ _ (mm_code_r ht hx (by rw [fk_rw_btw, ← fk_btw_msk, (eq_false_of_ne_true c4), Bool.and_false])) (by decide))
      · exact fk_Op_no h 2 (by decide) (by decide) (u := 2) (w := 2) rfl rfl (fun X => Lx_wake_IA l D ad cI cT cJ X _ o f _ _ _ _ (fun X => kx_wake_3 l D ad cI cT cJ X _ hst t ht x hx _ _ (eq_false_of_ne_true c3))) (fun X => mn_wake l D bd cI cT cJ X M _ _ _ _ _ (mm_code_r ht hx (by rw [fk_rw_btw, (eq_false_of_ne_true c3)]; rfl)) (by decide))
    · exact fk_Op_no h 1 (by decide) (by decide) (u := 1) (w := 1) rfl rfl (fun X => Lx_wake_IO l D ad cI cT cJ X _ o f _ _ _ _ (fun X => kx_wake_2 l D ad cI cT cJ X _ hst t ht _ _ _ (eq_false_of_ne_true c2))) (fun X => mn_wake l D bd cI cT cJ X M _ _ _ _ _ (mm_code_a (eq_false_of_ne_true c2)) (by decide))
  · exact fk_Op_no h 1 (by decide) (by decide) (u := 1) (w := 1) rfl rfl (fun X => Lx_wake_IO l D ad cI cT cJ X _ o f _ _ _ _ (fun X => kx_wake_1 l D ad cI cT cJ X _ hst _ _ _ _ (eq_false_of_ne_true c1))) (fun X => mn_wake l D bd cI cT cJ X M _ _ _ _ _ (mm_code_t (eq_false_of_ne_true c1)) (by decide))

theorem op_lock {l : Launch} {D : va_G} {ad bd : Nat → Nat} {cI cT cJ : ClassId} {a b : Nat} {M : fk_S} {o : Nat} {f : Nat → Int64} (h : fk_I a b M) (ha : a + 8 < 2 ^ 20) (hb : b + 1000 < 2 ^ 25) (hst : l.stackTraces = false) (p0 p1 p2 : Int32) : fk_Op l D ad bd cI cT cJ a b M o f yL_lock wsL_lock [.ref (ad 0), .int p0, .int p1, .int p2, .ref o] yX3_lock wsX3_lock rmX3_lock [.ref (bd 0), .int p0, .int p1, .int p2] := by
  by_cases c1 : fk_isT p0 = true
  · obtain ⟨t, ht, rfl⟩ := fk_isT_of c1
    by_cases c2 : fk_isA p1 = true
    · obtain ⟨x, hx, rfl⟩ := fk_isA_of c2
      by_cases c3 : fk_btw p2 0 10000 = true
      · by_cases cr : M 1 t = 0
        · obtain ⟨d, hd, hd2⟩ := fk_btw_of (n := 10000) (by decide) c3
          have K := kk_lock_k (t := t) (x := x) (fk_I0 h 0) (by omega) (by omega) ht hx p2 hd hd2 (by rw [fk_m1]; exact cr)
          rw [fk_k_set] at K
          obtain ⟨K1, K2, K3⟩ := K
          exact fk_Op_ok (M' := mm_lock (fk_up M 12 4 0) t x p2) (K2) (K1) (by rw [mm_lock_4, fk_up_s]) (K3.wk (Nat.le_refl _) (by omega)) (fun X => Lc_lock l D ad cI cT cJ X _ o f _ _ _ _ _ (fun X => kc_lock l D ad cI cT cJ X _ t ht x hx _ (by rw [fk_k1]; exact cr) c3 (fk_ksz h))) (fun X => mc_lock l D bd cI cT cJ X M t ht x hx _ cr c3 h.at h.1)
        · exact fk_Op_no h 3 (by decide) (by decide) (u := 3) (w := 3) rfl rfl (fun X => Lx_lock_IS l D ad cI cT cJ X _ o f _ _ _ (fun X => kx_lock_4 l D ad cI cT cJ X _ hst t ht x hx _ c3 (by rw [fk_k1]; exact cr))) (fun X => mn_lock l D bd cI cT cJ X M _ _ _ _ (mm_code_s ht hx c3 cr) (by decide))
      · exact fk_Op_no h 2 (by decide) (by decide) (u := 2) (w := 2) rfl rfl (fun X => Lx_lock_IA l D ad cI cT cJ X _ o f _ _ _ (fun X => kx_lock_3 l D ad cI cT cJ X _ hst t ht x hx _ (eq_false_of_ne_true c3))) (fun X => mn_lock l D bd cI cT cJ X M _ _ _ _ (mm_code_r ht hx (eq_false_of_ne_true c3)) (by decide))
    · exact fk_Op_no h 1 (by decide) (by decide) (u := 1) (w := 1) rfl rfl (fun X => Lx_lock_IO l D ad cI cT cJ X _ o f _ _ _ (fun X => kx_lock_2 l D ad cI cT cJ X _ hst t ht _ _ (eq_false_of_ne_true c2))) (fun X => mn_lock l D bd cI cT cJ X M _ _ _ _ (mm_code_a (eq_false_of_ne_true c2)) (by decide))
  · exact fk_Op_no h 1 (by decide) (by decide) (u := 1) (w := 1) rfl rfl (fun X => Lx_lock_IO l D ad cI cT cJ X _ o f _ _ _ (fun X => kx_lock_1 l D ad cI cT cJ X _ hst _ _ _ (eq_false_of_ne_true c1))) (fun X => mn_lock l D bd cI cT cJ X M _ _ _ _ (mm_code_t (eq_false_of_ne_true c1)) (by decide))

theorem op_unlock {l : Launch} {D : va_G} {ad bd : Nat → Nat} {cI cT cJ : ClassId} {a b : Nat} {M : fk_S} {o : Nat} {f : Nat → Int64} (h : fk_I a b M) (ha : a + 8 < 2 ^ 20) (hb : b + 1000 < 2 ^ 25) (hst : l.stackTraces = false) (p0 p1 : Int32) : fk_Op l D ad bd cI cT cJ a b M o f yL_unlock wsL_unlock [.ref (ad 0), .int p0, .int p1, .ref o] yX3_unlock wsX3_unlock rmX3_unlock [.ref (bd 0), .int p0, .int p1] := by
  by_cases c1 : fk_isT p0 = true
  · obtain ⟨t, ht, rfl⟩ := fk_isT_of c1
    by_cases c2 : fk_isA p1 = true
    · obtain ⟨x, hx, rfl⟩ := fk_isA_of c2
      by_cases cr : M 1 t = 0
      · by_cases co : mm_own (M 0 x) = nI t
        · have hw : kk_owner (fk_kOf M) (nI x) = some t := (kk_owner_nI M (vp_in_nI hx (by decide)) ht).mpr (by rw [nI_clamp (by omega)]; exact co)
          have K := kk_unlock_k (t := t) (x := x) (fk_I0 h 0) (by omega) ht hx
          rw [fk_k_set] at K
          obtain ⟨K1, K2, K3⟩ := K
          exact fk_Op_ok (M' := mm_pass (kk_drop (fk_up M 12 4 0) t (nI x)) (nI x) false) (K2) (K1) (by rw [mm_pass_4, kk_drop_4, fk_up_s]) (K3.wk (by omega) (by omega)) (fun X => Lc_unlock l D ad cI cT cJ X _ o f _ _ _ _ (fun X => kc_unlock l D ad cI cT cJ X _ t ht x hx (by rw [fk_k1]; exact cr) (fk_ksz h) hw)) (fun X => mc_unlock l D bd cI cT cJ X M t ht x hx cr h.1 co)
        · exact fk_Op_no h 2 (by decide) (by decide) (u := 2) (w := 2) rfl rfl (fun X => Lx_unlock_IS l D ad cI cT cJ X _ o f _ _ (fun X => kx_unlock_4 l D ad cI cT cJ X _ hst t ht x hx (by rw [fk_k1]; exact cr) (fun z => co (by have h9 := (kk_owner_nI M (vp_in_nI hx (by decide)) ht).mp z; rw [nI_clamp (by omega)] at h9; exact h9)))) (fun X => mn_unlock_2 l D bd cI cT cJ X M t ht x hx cr co)
      · exact fk_Op_no h 2 (by decide) (by decide) (u := 2) (w := 2) rfl rfl (fun X => Lx_unlock_IS l D ad cI cT cJ X _ o f _ _ (fun X => kx_unlock_3 l D ad cI cT cJ X _ hst t ht x hx  (by rw [fk_k1]; exact cr))) (fun X => mn_unlock l D bd cI cT cJ X M _ _ _ (mm_code_s ht hx rfl cr) (by decide))
    · exact fk_Op_no h 1 (by decide) (by decide) (u := 1) (w := 1) rfl rfl (fun X => Lx_unlock_IO l D ad cI cT cJ X _ o f _ _ (fun X => kx_unlock_2 l D ad cI cT cJ X _ hst t ht _  (eq_false_of_ne_true c2))) (fun X => mn_unlock l D bd cI cT cJ X M _ _ _ (mm_code_a (eq_false_of_ne_true c2)) (by decide))
  · exact fk_Op_no h 1 (by decide) (by decide) (u := 1) (w := 1) rfl rfl (fun X => Lx_unlock_IO l D ad cI cT cJ X _ o f _ _ (fun X => kx_unlock_1 l D ad cI cT cJ X _ hst _ _  (eq_false_of_ne_true c1))) (fun X => mn_unlock l D bd cI cT cJ X M _ _ _ (mm_code_t (eq_false_of_ne_true c1)) (by decide))

theorem op_requeue {l : Launch} {D : va_G} {ad bd : Nat → Nat} {cI cT cJ : ClassId} {a b : Nat} {M : fk_S} {o : Nat} {f : Nat → Int64} (h : fk_I a b M) (ha : a + 8 < 2 ^ 20) (hb : b + 1000 < 2 ^ 25) (hst : l.stackTraces = false) (p0 p1 p2 p3 p4 p5 : Int32) : fk_Op l D ad bd cI cT cJ a b M o f yL_requeue wsL_requeue [.ref (ad 0), .int p0, .int p1, .int p2, .int p3, .int p4, .int p5, .ref o] yX3_requeue wsX3_requeue rmX3_requeue [.ref (bd 0), .int p0, .int p1, .int p2, .int p3, .int p4, .int p5] := by
  by_cases c1 : fk_isT p0 = true
  · obtain ⟨t, ht, rfl⟩ := fk_isT_of c1
    by_cases c2 : fk_isA p1 = true
    · obtain ⟨x, hx, rfl⟩ := fk_isA_of c2
      by_cases c3 : fk_isA p4 = true
      · obtain ⟨y, hy, rfl⟩ := fk_isA_of c3
        by_cases ce : x = y
        · subst ce
          exact fk_Op_no h 2 (by decide) (by decide) (u := 2) (w := 2) rfl rfl (fun X => Lx_requeue_IA l D ad cI cT cJ X _ o f _ _ _ _ _ _ (fun X => kx_requeue_4 l D ad cI cT cJ X _ hst t ht x hx _ _ _)) (fun X => mn_requeue_2 l D bd cI cT cJ X M t ht x hx x hx _ _ _ (by simp))
        · by_cases c4 : fk_btw p3 0 8 = true
          · by_cases c5 : fk_btw p5 0 8 = true
            · obtain ⟨k, rfl, hk⟩ := fk_btw_of (n := 8) (by decide) c4
              obtain ⟨j, rfl, hj⟩ := fk_btw_of (n := 8) (by decide) c5
              by_cases cr : M 1 t = 0
              · have K := kk_requeue_k (a := a) (b := b) (x := x) (y := y) (M := M) h (by omega) hy p2 (k := k) hj
                obtain ⟨K1, K2, K3⟩ := K
                exact fk_Op_ok (M' := mm_requeue M x y p2 k j) (K2) (K1) (mm_requeue_4 M x y p2 k j) (K3.wk (Nat.le_refl _) (by omega)) (fun X => Lc_requeue l D ad cI cT cJ X _ o f _ _ _ _ _ _ _ _ (fun X => kc_requeue l D ad cI cT cJ X _ t ht x hx y hy ce k j hk hj _ (by rw [fk_k1]; exact cr) c4 c5)) (fun X => mc_requeue l D bd cI cT cJ X M t ht x hx y hy ce k j hk hj _ cr)
              · exact fk_Op_no h 3 (by decide) (by decide) (u := 3) (w := 3) rfl rfl (fun X => Lx_requeue_IS l D ad cI cT cJ X _ o f _ _ _ _ _ _ (fun X => kx_requeue_7 l D ad cI cT cJ X _ hst t ht x hx y hy ce _ _ _ c4 c5 (by rw [fk_k1]; exact cr))) (fun X => mn_requeue_3 l D bd cI cT cJ X M t ht x hx y hy ce k j hk hj _ cr)
            · exact fk_Op_no h 2 (by decide) (by decide) (u := 2) (w := 2) rfl rfl (fun X => Lx_requeue_IA l D ad cI cT cJ X _ o f _ _ _ _ _ _ (fun X => kx_requeue_6 l D ad cI cT cJ X _ hst t ht x hx y hy ce _ _ _ c4 (eq_false_of_ne_true c5))) (fun X => mn_requeue_2 l D bd cI cT cJ X M t ht x hx y hy _ _ _ (by rw [(eq_false_of_ne_true c5)]; simp))
          · exact fk_Op_no h 2 (by decide) (by decide) (u := 2) (w := 2) rfl rfl (fun X => Lx_requeue_IA l D ad cI cT cJ X _ o f _ _ _ _ _ _ (fun X => kx_requeue_5 l D ad cI cT cJ X _ hst t ht x hx y hy ce _ _ _ (eq_false_of_ne_true c4))) (fun X => mn_requeue_2 l D bd cI cT cJ X M t ht x hx y hy _ _ _ (by rw [(eq_false_of_ne_true c4)]; simp))
      · exact fk_Op_no h 1 (by decide) (by decide) (u := 1) (w := 1) rfl rfl (fun X => Lx_requeue_IO l D ad cI cT cJ X _ o f _ _ _ _ _ _ (fun X => kx_requeue_3 l D ad cI cT cJ X _ hst t ht x hx _ _ _ _ (eq_false_of_ne_true c3))) (fun X => mn_requeue_1 l D bd cI cT cJ X M _ _ _ _ _ _ (by rw [(eq_false_of_ne_true c3), Bool.and_false]))
    · exact fk_Op_no h 1 (by decide) (by decide) (u := 1) (w := 1) rfl rfl (fun X => Lx_requeue_IO l D ad cI cT cJ X _ o f _ _ _ _ _ _ (fun X => kx_requeue_2 l D ad cI cT cJ X _ hst t ht _ _ _ _ _ (eq_false_of_ne_true c2))) (fun X => mn_requeue_1 l D bd cI cT cJ X M _ _ _ _ _ _ (by rw [(eq_false_of_ne_true c2), Bool.and_false, Bool.false_and]))
  · exact fk_Op_no h 1 (by decide) (by decide) (u := 1) (w := 1) rfl rfl (fun X => Lx_requeue_IO l D ad cI cT cJ X _ o f _ _ _ _ _ _ (fun X => kx_requeue_1 l D ad cI cT cJ X _ hst _ _ _ _ _ _ (eq_false_of_ne_true c1))) (fun X => mn_requeue_1 l D bd cI cT cJ X M _ _ _ _ _ _ (by rw [(eq_false_of_ne_true c1), Bool.false_and, Bool.false_and]))
