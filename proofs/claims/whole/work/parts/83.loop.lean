set_option maxRecDepth 20000 in
theorem lw_bad : ∀ w ∈ fk_bad, w ∈ lw_tbl := by decide +kernel
set_option maxRecDepth 20000 in
theorem lw_strs : ∀ q ∈ fk_strs, Cond.stringRef RX2 q.1 q.2 ∈ lw_tbl := by decide +kernel
set_option maxRecDepth 20000 in
theorem lw_zq : Cond.laysStatic Bundle.tN "UNASSIGNED_STACK" Bundle.steD ∈ lw_tbl ∧ Cond.laysStatic Bundle.tN "SUPPRESSED_SENTINEL" Bundle.listD ∈ lw_tbl ∧ Cond.initialized Bundle.tN ∈ lw_tbl ∧ Cond.arrayOver (.object RX1) ∈ lw_tbl ∧ fk_nest ∈ lw_tbl := by decide +kernel
set_option maxRecDepth 20000 in
theorem lw_giv : Cond.isRef (.static Bundle.tN "UNASSIGNED_STACK" Bundle.steD) ∈ flatC (Jvm.Cond.and given_1 narrow_1) ∧ Cond.isRef (.static Bundle.tN "SUPPRESSED_SENTINEL" Bundle.listD) ∈ flatC (Jvm.Cond.and given_1 narrow_1) ∧ Cond.not (.castable "java/lang/IllegalStateException" "java/lang/IndexOutOfBoundsException") ∈ flatC (Jvm.Cond.and given_1 narrow_1) ∧ Cond.not (.castable "java/lang/IllegalArgumentException" "java/lang/IndexOutOfBoundsException") ∈ flatC (Jvm.Cond.and given_1 narrow_1) ∧ Cond.not (.castable "java/lang/IllegalStateException" "java/lang/IllegalArgumentException") ∈ flatC (Jvm.Cond.and given_1 narrow_1) := by decide +kernel
theorem lw_Zs {s : State} {b : Nat} {cX : ClassId} (hts : ∀ w ∈ lw_tbl, w.before #[Value.ref b] s = true) (hgv : (Jvm.Cond.and given_1 narrow_1).before #[Value.ref b] s = true) (hc : s.vm.findClass RX2 = some cX) : fk_Zs (lw_A s) s s.heap := by
  have hf := flat_of_before _ hgv
  have hA : ∀ a : Nat, a < s.heap.size → ¬ lw_A s a := fun a h => Nat.not_le.mpr h
  refine ⟨vx_Zqof (hts _ lw_zq.1) (hts _ lw_zq.2.2.1) (hf _ lw_giv.1) hA, vx_Zqof (hts _ lw_zq.2.1) (hts _ lw_zq.2.2.1) (hf _ lw_giv.2.1) hA, fun q hq => ?_, fun w hw => va_Nw.of (fk_dc_on (fk_bad_dc w hw)) (hts w (lw_bad w hw))⟩
  have h1 := hts _ (lw_strs q hq)
  obtain ⟨-, -, -, sa, -, -, -, -, -, hev⟩ := Cond.stringRef_spec hc h1
  exact ⟨sa, vk_R.of (A := #[Value.ref b]) h1 hev⟩
theorem lw_Nc {s : State} {b : Nat} (hgv : (Jvm.Cond.and given_1 narrow_1).before #[Value.ref b] s = true) : fk_Nc s := by
  have hf := flat_of_before _ hgv
  exact ⟨va_Nc.of (hf _ lw_giv.2.2.1), va_Nc.of (hf _ lw_giv.2.2.2.1), va_Nc.of (hf _ lw_giv.2.2.2.2)⟩
/-! the start: the kernel's numbers are the model's -/
theorem fk_Mt_q (i : Nat) : mm_q (fk_Mt 8) i = false := rfl
theorem fk_start_k : fk_kOf (fk_Mt 8) = fk_S0 := by
  funext f i
  unfold fk_kOf fk_S0
  rw [fk_Mt_q]
  by_cases h3 : f = 3
  · rw [if_pos h3, if_pos (Or.inl h3)]
    rfl
  · rw [if_neg h3]
    by_cases h5 : f = 5
    · rw [if_pos h5, if_pos (Or.inr h5), if_neg (fun z => by cases z.1)]
    · rw [if_neg h5, if_neg (show ¬ (f = 3 ∨ f = 5) from fun z => z.elim h3 h5)]
      by_cases h : f = 12 ∧ i = 4
      · rw [if_pos h]
        obtain ⟨rfl, rfl⟩ := h
        rfl
      · rw [if_neg h]
theorem fk_start_I : fk_I 0 0 (fk_Mt 8) := by
  refine ⟨fun u hu => ⟨0, by omega, rfl, fun j hj => absurd hj (by omega), fun i j _ hj => absurd hj (by omega)⟩, fun u hu hq => ?_, fun u hu => ⟨0, by omega, rfl⟩, ⟨0, Nat.le_refl _, rfl, fun u hu => ⟨0, Nat.le_refl _, rfl⟩⟩, fun u v hu hv hq => ?_, 0, Nat.le_refl _, rfl, fun u hu hq => ?_⟩
  · rw [fk_Mt_q] at hq; cases hq
  · rw [fk_Mt_q] at hq; cases hq
  · rw [fk_Mt_q] at hq; cases hq
/-! the loop -/
section
variable {p : Program} {l : Launch} {e : Env} {s : State} {m : MethodId} {below : List Frame} {meth : Method} {c : Code} {D : va_G} {ad bd : Nat → Nat} {cI cT cJ : ClassId} {b o L : Nat} {xs : Nat → Int32}
theorem law_next {j : Nat} (C0 : lw_At p s m meth c b L xs) (hk : lw_Go p l e s m below meth c D ad bd cI cT cJ b o (j + 1) (j + 1) 23) : lw_Go p l e s m below meth c D ad bd cI cT cJ b o (j + 1) j 1818 := by
  obtain ⟨hx, hb, -⟩ := C0
  intro M f H locs ls hI hP hD hS hl
  refine lv_iinc (v := nI (7 * (j + 1))) (lv' := [(4, .int (nI (7 * (j + 1)))), (0, .ref b), (1, .ref (ad 0)), (2, .ref (bd 0)), (3, .ref o)]) hx hb dL_law_1818 hl (k := 0) rfl (by rw [show Int32.ofInt 7 = nI 7 from rfl, nI_add, Nat.mul_succ]) (by decide) rfl (fun ls hl => ?_)
  refine lv_goto (tgt := 23) hx hb dL_law_1821 (by decide) ?_
  exact hk M f H locs ls hI hP hD hS hl
set_option maxHeartbeats 4000000 in
set_option maxRecDepth 100000 in
theorem law_at33 {j : Nat} (hst : l.stackTraces = false) (C0 : lw_At p s m meth c b L xs) (hK : va_K D vwCl (fk_ty cI cT cJ) s) (hZ : fk_Zs (lw_A s) s s.heap) (hN : fk_Nc s) (hL : L ≤ 3584) (hj : 7 * j + 7 ≤ L) (hk : lw_Go p l e s m below meth c D ad bd cI cT cJ b o (j + 1) j 1818) : lw_Go p l e s m below meth c D ad bd cI cT cJ b o j j 33 := by
  obtain ⟨hx, hb, hr, hml, hown, hts0, hX, hbl, hlocks, hgv⟩ := id C0
  have hbA : ¬ lw_A s b := Nat.not_le.mpr hbl
  intro M f H locs ls hI hP hD hS hl
  refine lv_aload_n hx hb dL_law_33 rfl (lv_at hl 1 rfl) ?_
  refine lv_iload hx hb dL_law_34 (lv_at hl 0 rfl) ?_
  refine va_sld hx hb hX hbl hbA hS (vp_in_nI (show 7 * j < L by omega) (by omega)) dL_law_36 ?_
  refine lv_bipush (v := 31) hx hb dL_law_37 (by decide) ?_
  refine lv_iand hx hb dL_law_39 ?_
  obtain ⟨q, hq, e9⟩ := pk_andE (xs (nI (7 * j)).toNatClampNeg) (m := 31) 5 rfl
  refine W.eq (g2 := F0 m 40 ls [.int (nI q)]) (by rw [e9]) ?_
  rcases Nat.lt_or_ge q 26 with h26 | h26
  · rcases (show q = 0 ∨ q = 1 ∨ q = 2 ∨ q = 3 ∨ q = 4 ∨ q = 5 ∨ q = 6 ∨ q = 7 ∨ q = 8 ∨ q = 9 ∨ q = 10 ∨ q = 11 ∨ q = 12 ∨ q = 13 ∨ q = 14 ∨ q = 15 ∨ q = 16 ∨ q = 17 ∨ q = 18 ∨ q = 19 ∨ q = 20 ∨ q = 21 ∨ q = 22 ∨ q = 23 ∨ q = 24 ∨ q = 25 by omega) with rfl | rfl | rfl | rfl | rfl | rfl | rfl | rfl | rfl | rfl | rfl | rfl | rfl | rfl | rfl | rfl | rfl | rfl | rfl | rfl | rfl | rfl | rfl | rfl | rfl | rfl
    · exact lv_tableIn (off := 120) (tgt := 160) hx hb dL_law_40 (by decide) (by decide) rfl (by decide) (law_c0 hst C0 hK hZ hN hL hj hk M f H locs ls hI hP hD hS hl)
    · exact lv_tableIn (off := 200) (tgt := 240) hx hb dL_law_40 (by decide) (by decide) rfl (by decide) (law_c1 hst C0 hK hZ hN hL hj hk M f H locs ls hI hP hD hS hl)
    · exact lv_tableIn (off := 299) (tgt := 339) hx hb dL_law_40 (by decide) (by decide) rfl (by decide) (law_c2 hst C0 hK hZ hN hL hj hk M f H locs ls hI hP hD hS hl)
    · exact lv_tableIn (off := 379) (tgt := 419) hx hb dL_law_40 (by decide) (by decide) rfl (by decide) (law_c3 hst C0 hK hZ hN hL hj hk M f H locs ls hI hP hD hS hl)
    · exact lv_tableIn (off := 435) (tgt := 475) hx hb dL_law_40 (by decide) (by decide) rfl (by decide) (law_c4 hst C0 hK hZ hN hL hj hk M f H locs ls hI hP hD hS hl)
    · exact lv_tableIn (off := 546) (tgt := 586) hx hb dL_law_40 (by decide) (by decide) rfl (by decide) (law_c5 hst C0 hK hZ hN hL hj hk M f H locs ls hI hP hD hS hl)
    · exact lv_tableIn (off := 638) (tgt := 678) hx hb dL_law_40 (by decide) (by decide) rfl (by decide) (law_c6 hst C0 hK hZ hN hL hj hk M f H locs ls hI hP hD hS hl)
    · exact lv_tableIn (off := 756) (tgt := 796) hx hb dL_law_40 (by decide) (by decide) rfl (by decide) (law_c7 hst C0 hK hZ hN hL hj hk M f H locs ls hI hP hD hS hl)
    · exact lv_tableIn (off := 836) (tgt := 876) hx hb dL_law_40 (by decide) (by decide) rfl (by decide) (law_c8 hst C0 hK hZ hN hL hj hk M f H locs ls hI hP hD hS hl)
    · exact lv_tableIn (off := 904) (tgt := 944) hx hb dL_law_40 (by decide) (by decide) rfl (by decide) (law_c9 hst C0 hK hZ hN hL hj hk M f H locs ls hI hP hD hS hl)
    · exact lv_tableIn (off := 960) (tgt := 1000) hx hb dL_law_40 (by decide) (by decide) rfl (by decide) (law_c10 hst C0 hK hZ hN hL hj hk M f H locs ls hI hP hD hS hl)
    · exact lv_tableIn (off := 1028) (tgt := 1068) hx hb dL_law_40 (by decide) (by decide) rfl (by decide) (law_c11 hst C0 hK hZ hN hL hj hk M f H locs ls hI hP hD hS hl)
    · exact lv_tableIn (off := 1084) (tgt := 1124) hx hb dL_law_40 (by decide) (by decide) rfl (by decide) (law_c12 hst C0 hK hZ hN hL hj hk M f H locs ls hI hP hD hS hl)
    · exact lv_tableIn (off := 1120) (tgt := 1160) hx hb dL_law_40 (by decide) (by decide) rfl (by decide) (law_c13 hst C0 hK hZ hN hL hj hk M f H locs ls hI hP hD hS hl)
    · exact lv_tableIn (off := 1176) (tgt := 1216) hx hb dL_law_40 (by decide) (by decide) rfl (by decide) (law_c14 hst C0 hK hZ hN hL hj hk M f H locs ls hI hP hD hS hl)
    · exact lv_tableIn (off := 1212) (tgt := 1252) hx hb dL_law_40 (by decide) (by decide) rfl (by decide) (law_c15 hst C0 hK hZ hN hL hj hk M f H locs ls hI hP hD hS hl)
    · exact lv_tableIn (off := 1280) (tgt := 1320) hx hb dL_law_40 (by decide) (by decide) rfl (by decide) (law_c16 hst C0 hK hZ hN hL hj hk M f H locs ls hI hP hD hS hl)
    · exact lv_tableIn (off := 1336) (tgt := 1376) hx hb dL_law_40 (by decide) (by decide) rfl (by decide) (law_c17 hst C0 hK hZ hN hL hj hk M f H locs ls hI hP hD hS hl)
    · exact lv_tableIn (off := 1349) (tgt := 1389) hx hb dL_law_40 (by decide) (by decide) rfl (by decide) (law_c18 hst C0 hK hZ hN hL hj hk M f H locs ls hI hP hD hS hl)
    · exact lv_tableIn (off := 1362) (tgt := 1402) hx hb dL_law_40 (by decide) (by decide) rfl (by decide) (law_c19 hst C0 hK hZ hN hL hj hk M f H locs ls hI hP hD hS hl)
    · exact lv_tableIn (off := 1418) (tgt := 1458) hx hb dL_law_40 (by decide) (by decide) rfl (by decide) (law_c20 hst C0 hK hZ hN hL hj hk M f H locs ls hI hP hD hS hl)
    · exact lv_tableIn (off := 1474) (tgt := 1514) hx hb dL_law_40 (by decide) (by decide) rfl (by decide) (law_c21 hst C0 hK hZ hN hL hj hk M f H locs ls hI hP hD hS hl)
    · exact lv_tableIn (off := 1530) (tgt := 1570) hx hb dL_law_40 (by decide) (by decide) rfl (by decide) (law_c22 hst C0 hK hZ hN hL hj hk M f H locs ls hI hP hD hS hl)
    · exact lv_tableIn (off := 1586) (tgt := 1626) hx hb dL_law_40 (by decide) (by decide) rfl (by decide) (law_c23 hst C0 hK hZ hN hL hj hk M f H locs ls hI hP hD hS hl)
    · exact lv_tableIn (off := 1642) (tgt := 1682) hx hb dL_law_40 (by decide) (by decide) rfl (by decide) (law_c24 hst C0 hK hZ hN hL hj hk M f H locs ls hI hP hD hS hl)
    · exact lv_tableIn (off := 1710) (tgt := 1750) hx hb dL_law_40 (by decide) (by decide) rfl (by decide) (law_c25 hst C0 hK hZ hN hL hj hk M f H locs ls hI hP hD hS hl)
  · refine lv_tableOut (tgt := 1818) hx hb dL_law_40 (Or.inr (by rw [nI_toInt (by omega)]; omega)) (by decide) ?_
    exact W.widen (k := 60 + (j + 1)) (n := 900 + 6 * (j + 1)) (by omega) (by omega) (hk M f H locs ls (hI.wk (by omega) (by omega)) hP hD hS hl)
theorem law_loop (hst : l.stackTraces = false) (C0 : lw_At p s m meth c b L xs) (hK : va_K D vwCl (fk_ty cI cT cJ) s) (hZ : fk_Zs (lw_A s) s s.heap) (hN : fk_Nc s) (hL : L ≤ 3584) : ∀ (n j : Nat), j + n = 513 → 7 * j ≤ L → lw_Go p l e s m below meth c D ad bd cI cT cJ b o j j 23 := by
  obtain ⟨hx, hb, hr, hml, hown, hts0, hX, hbl, hlocks, hgv⟩ := id C0
  have hbA : ¬ lw_A s b := Nat.not_le.mpr hbl
  intro n
  induction n with
  | zero => intro j h1 h2; omega
  | succ n ih =>
    intro j h1 h2 M f H locs ls hI hP hD hS hl
    refine lv_iload hx hb dL_law_23 (lv_at hl 0 rfl) ?_
    refine lv_aload_n hx hb dL_law_25 rfl (lv_at hl 1 rfl) ?_
    refine va_slen hx hb hX hbl hbA hS dL_law_26 ?_
    refine lv_bipush (v := 7) hx hb dL_law_27 (by decide) ?_
    refine lv_isub hx hb dL_law_29 ?_
    refine lv_icmp_gt (tgt := 1824) hx hb dL_law_30 (by decide) (fun _ => ?_) (fun c9 => ?_)
    · refine lv_iconst (v := 1) hx hb dL_law_1824 (by decide) ?_
      refine va_forget (fun q hq => hS.2.2 q hq) ?_
      refine W.widen (k := 653130) (n := 7136714) (by omega) (by omega) ?_
      exact lw_ret hx hb hr hlocks dL_law_1825
    · have hj : 7 * j + 7 ≤ L := by
        rcases Nat.lt_or_ge L (7 * j + 7) with h | h
        · exfalso
          apply c9
          rw [Int32.lt_iff_toInt_lt, show Int32.ofNat L - 7 = nI L - nI 7 from rfl, pk_sub_toInt (by omega) (by omega), nI_toInt (by omega)]
          omega
        · exact h
      exact law_at33 hst C0 hK hZ hN hL hj (law_next C0 (ih (j + 1) (by omega) (by omega))) M f H locs ls hI hP hD hS hl
end
set_option maxRecDepth 20000 in
theorem fk_toLW {D : va_G} {A : Nat → Prop} {H : Heap} {ad bd : Nat → Nat} {cI cT cJ : ClassId} {S M : fk_S} {o : Nat} {f : Nat → Int64} (hP : va_P D vwCl ((fk_kW ad cI cT S ++ fk_mW bd cI M) ++ [(o, fk_ou cJ f)]) H) (hD : va_D A ((fk_kW ad cI cT S ++ fk_mW bd cI M) ++ [(o, fk_ou cJ f)])) : va_P D vwCl (fk_LW ad bd cI cT cJ S M o f) H ∧ va_D A (fk_LW ad bd cI cT cJ S M o f) :=
  ⟨hP.sub [0, 1, 2, 3, 4, 5, 6, 7, 8, 9, 10, 11, 12, 13, 14, 15, 16, 17, 18, 19, 20, 21, 22, 23, 24, 25, 26, 40, 27, 28, 29, 30, 31, 32, 33, 34, 35, 36, 37, 38, 39] rfl, hD.sub [0, 1, 2, 3, 4, 5, 6, 7, 8, 9, 10, 11, 12, 13, 14, 15, 16, 17, 18, 19, 20, 21, 22, 23, 24, 25, 26, 40, 27, 28, 29, 30, 31, 32, 33, 34, 35, 36, 37, 38, 39] (by decide) rfl⟩
