def fk_bc (x : Int32) : Int32 :=
  let sh (v k : Int32) : Int32 := (v.toUInt32 >>> (k.toUInt32 &&& Int32.toUInt32 31)).toInt32
  let a := x - (sh x 1 &&& 1431655765)
  let b := (a &&& 858993459) + (sh a 2 &&& 858993459)
  let c := (b + sh b 4) &&& 252645135
  let d := c + sh c 8
  let e := d + sh d 16
  e &&& 63

abbrev rmJ6_bitCount_0f7a4 : Room := { frames := 0, cells := 0, slots := 0, locals := 0 }
set_option maxHeartbeats 4000000 in
set_option maxRecDepth 100000 in
theorem kc_bitCount (l : Launch) (D : va_G) (ad : Nat → Nat) (cI cT cJ : ClassId) (X : va_W) (S : fk_S) (x : Int32) : fk_C l D (fk_ty cI cT cJ) yJ6_bitCount_0f7a4 wsJ6_bitCount_0f7a4 rmJ6_bitCount_0f7a4 [.int x] (fk_kW ad cI cT S ++ X) (some (.int (fk_bc x))) (fk_kW ad cI cT S ++ X) := by
  refine fk_C_of (cc := cJ6_bitCount_0f7a4) (maxL := 1) (ret := (some .int)) (own := RJ6) (by decide) rfl rfl (Nat.le_of_ble_eq_true rfl) ?_
  intro p e s m below meth c A ls hx hb hr hlocks hml hts hown hA hP hK hD hl
  have hS : va_S A s.heap s.heap [] := va_S.rf
  have hl : lv_has ls 1 [(0, .int x)] := hl
  refine lv_iload_n hx hb dJ6_bitCount_0f7a4_0 rfl (lv_at hl 0 rfl) ?_
  refine lv_iload_n hx hb dJ6_bitCount_0f7a4_1 rfl (lv_at hl 0 rfl) ?_
  refine lv_iconst (v := 1) hx hb dJ6_bitCount_0f7a4_2 (by decide) ?_
  refine lv_iushr hx hb dJ6_bitCount_0f7a4_3 rfl ?_
  refine lv_ldcw (own := RJ6) (v := 1431655765) hx hb hown (hts (.constant RJ6 265 (1431655765)) (List.mem_of_getElem? (i := 1) rfl)) dJ6_bitCount_0f7a4_4 ?_
  refine lv_iand hx hb dJ6_bitCount_0f7a4_7 ?_
  refine lv_isub hx hb dJ6_bitCount_0f7a4_8 ?_
  refine lv_istore_n (lv' := [(0, .int (x - (((x.toUInt32 >>> ((1 : Int32).toUInt32 &&& Int32.toUInt32 31)).toInt32) &&& 1431655765)))]) hx hb dJ6_bitCount_0f7a4_9 rfl hl (by decide) rfl (fun ls hl => ?_)
  refine lv_iload_n hx hb dJ6_bitCount_0f7a4_10 rfl (lv_at hl 0 rfl) ?_
  refine lv_ldcw (own := RJ6) (v := 858993459) hx hb hown (hts (.constant RJ6 266 (858993459)) (List.mem_of_getElem? (i := 2) rfl)) dJ6_bitCount_0f7a4_11 ?_
  refine lv_iand hx hb dJ6_bitCount_0f7a4_14 ?_
  refine lv_iload_n hx hb dJ6_bitCount_0f7a4_15 rfl (lv_at hl 0 rfl) ?_
  refine lv_iconst (v := 2) hx hb dJ6_bitCount_0f7a4_16 (by decide) ?_
  refine lv_iushr hx hb dJ6_bitCount_0f7a4_17 rfl ?_
  refine lv_ldcw (own := RJ6) (v := 858993459) hx hb hown (hts (.constant RJ6 266 (858993459)) (List.mem_of_getElem? (i := 2) rfl)) dJ6_bitCount_0f7a4_18 ?_
  refine lv_iand hx hb dJ6_bitCount_0f7a4_21 ?_
  refine lv_iadd hx hb dJ6_bitCount_0f7a4_22 ?_
  refine lv_istore_n (lv' := [(0, .int (((x - (((x.toUInt32 >>> ((1 : Int32).toUInt32 &&& Int32.toUInt32 31)).toInt32) &&& 1431655765)) &&& 858993459) + ((((x - (((x.toUInt32 >>> ((1 : Int32).toUInt32 &&& Int32.toUInt32 31)).toInt32) &&& 1431655765)).toUInt32 >>> ((2 : Int32).toUInt32 &&& Int32.toUInt32 31)).toInt32) &&& 858993459)))]) hx hb dJ6_bitCount_0f7a4_23 rfl hl (by decide) rfl (fun ls hl => ?_)
  refine lv_iload_n hx hb dJ6_bitCount_0f7a4_24 rfl (lv_at hl 0 rfl) ?_
  refine lv_iload_n hx hb dJ6_bitCount_0f7a4_25 rfl (lv_at hl 0 rfl) ?_
  refine lv_iconst (v := 4) hx hb dJ6_bitCount_0f7a4_26 (by decide) ?_
  refine lv_iushr hx hb dJ6_bitCount_0f7a4_27 rfl ?_
  refine lv_iadd hx hb dJ6_bitCount_0f7a4_28 ?_
  refine lv_ldcw (own := RJ6) (v := 252645135) hx hb hown (hts (.constant RJ6 267 (252645135)) (List.mem_of_getElem? (i := 3) rfl)) dJ6_bitCount_0f7a4_29 ?_
  refine lv_iand hx hb dJ6_bitCount_0f7a4_32 ?_
  refine lv_istore_n (lv' := [(0, .int (((((x - (((x.toUInt32 >>> ((1 : Int32).toUInt32 &&& Int32.toUInt32 31)).toInt32) &&& 1431655765)) &&& 858993459) + ((((x - (((x.toUInt32 >>> ((1 : Int32).toUInt32 &&& Int32.toUInt32 31)).toInt32) &&& 1431655765)).toUInt32 >>> ((2 : Int32).toUInt32 &&& Int32.toUInt32 31)).toInt32) &&& 858993459)) + (((((x - (((x.toUInt32 >>> ((1 : Int32).toUInt32 &&& Int32.toUInt32 31)).toInt32) &&& 1431655765)) &&& 858993459) + ((((x - (((x.toUInt32 >>> ((1 : Int32).toUInt32 &&& Int32.toUInt32 31)).toInt32) &&& 1431655765)).toUInt32 >>> ((2 : Int32).toUInt32 &&& Int32.toUInt32 31)).toInt32) &&& 858993459)).toUInt32 >>> ((4 : Int32).toUInt32 &&& Int32.toUInt32 31)).toInt32)) &&& 252645135))]) hx hb dJ6_bitCount_0f7a4_33 rfl hl (by decide) rfl (fun ls hl => ?_)
  refine lv_iload_n hx hb dJ6_bitCount_0f7a4_34 rfl (lv_at hl 0 rfl) ?_
  refine lv_iload_n hx hb dJ6_bitCount_0f7a4_35 rfl (lv_at hl 0 rfl) ?_
  refine lv_bipush (v := 8) hx hb dJ6_bitCount_0f7a4_36 (by decide) ?_
  refine lv_iushr hx hb dJ6_bitCount_0f7a4_38 rfl ?_
  refine lv_iadd hx hb dJ6_bitCount_0f7a4_39 ?_
  refine lv_istore_n (lv' := [(0, .int ((((((x - (((x.toUInt32 >>> ((1 : Int32).toUInt32 &&& Int32.toUInt32 31)).toInt32) &&& 1431655765)) &&& 858993459) + ((((x - (((x.toUInt32 >>> ((1 : Int32).toUInt32 &&& Int32.toUInt32 31)).toInt32) &&& 1431655765)).toUInt32 >>> ((2 : Int32).toUInt32 &&& Int32.toUInt32 31)).toInt32) &&& 858993459)) + (((((x - (((x.toUInt32 >>> ((1 : Int32).toUInt32 &&& Int32.toUInt32 31)).toInt32) &&& 1431655765)) &&& 858993459) + ((((x - (((x.toUInt32 >>> ((1 : Int32).toUInt32 &&& Int32.toUInt32 31)).toInt32) &&& 1431655765)).toUInt32 >>> ((2 : Int32).toUInt32 &&& Int32.toUInt32 31)).toInt32) &&& 858993459)).toUInt32 >>> ((4 : Int32).toUInt32 &&& Int32.toUInt32 31)).toInt32)) &&& 252645135) + (((((((x - (((x.toUInt32 >>> ((1 : Int32).toUInt32 &&& Int32.toUInt32 31)).toInt32) &&& 1431655765)) &&& 858993459) + ((((x - (((x.toUInt32 >>> ((1 : Int32).toUInt32 &&& Int32.toUInt32 31)).toInt32) &&& 1431655765)).toUInt32 >>> ((2 : Int32).toUInt32 &&& Int32.toUInt32 31)).toInt32) &&& 858993459)) + (((((x - (((x.toUInt32 >>> ((1 : Int32).toUInt32 &&& Int32.toUInt32 31)).toInt32) &&& 1431655765)) &&& 858993459) + ((((x - (((x.toUInt32 >>> ((1 : Int32).toUInt32 &&& Int32.toUInt32 31)).toInt32) &&& 1431655765)).toUInt32 >>> ((2 : Int32).toUInt32 &&& Int32.toUInt32 31)).toInt32) &&& 858993459)).toUInt32 >>> ((4 : Int32).toUInt32 &&& Int32.toUInt32 31)).toInt32)) &&& 252645135).toUInt32 >>> ((8 : Int32).toUInt32 &&& Int32.toUInt32 31)).toInt32)))]) hx hb dJ6_bitCount_0f7a4_40 rfl hl (by decide) rfl (fun ls hl => ?_)
  refine lv_iload_n hx hb dJ6_bitCount_0f7a4_41 rfl (lv_at hl 0 rfl) ?_
  refine lv_iload_n hx hb dJ6_bitCount_0f7a4_42 rfl (lv_at hl 0 rfl) ?_
  refine lv_bipush (v := 16) hx hb dJ6_bitCount_0f7a4_43 (by decide) ?_
  refine lv_iushr hx hb dJ6_bitCount_0f7a4_45 rfl ?_
  refine lv_iadd hx hb dJ6_bitCount_0f7a4_46 ?_
  refine lv_istore_n (lv' := [(0, .int (((((((x - (((x.toUInt32 >>> ((1 : Int32).toUInt32 &&& Int32.toUInt32 31)).toInt32) &&& 1431655765)) &&& 858993459) + ((((x - (((x.toUInt32 >>> ((1 : Int32).toUInt32 &&& Int32.toUInt32 31)).toInt32) &&& 1431655765)).toUInt32 >>> ((2 : Int32).toUInt32 &&& Int32.toUInt32 31)).toInt32) &&& 858993459)) + (((((x - (((x.toUInt32 >>> ((1 : Int32).toUInt32 &&& Int32.toUInt32 31)).toInt32) &&& 1431655765)) &&& 858993459) + ((((x - (((x.toUInt32 >>> ((1 : Int32).toUInt32 &&& Int32.toUInt32 31)).toInt32) &&& 1431655765)).toUInt32 >>> ((2 : Int32).toUInt32 &&& Int32.toUInt32 31)).toInt32) &&& 858993459)).toUInt32 >>> ((4 : Int32).toUInt32 &&& Int32.toUInt32 31)).toInt32)) &&& 252645135) + (((((((x - (((x.toUInt32 >>> ((1 : Int32).toUInt32 &&& Int32.toUInt32 31)).toInt32) &&& 1431655765)) &&& 858993459) + ((((x - (((x.toUInt32 >>> ((1 : Int32).toUInt32 &&& Int32.toUInt32 31)).toInt32) &&& 1431655765)).toUInt32 >>> ((2 : Int32).toUInt32 &&& Int32.toUInt32 31)).toInt32) &&& 858993459)) + (((((x - (((x.toUInt32 >>> ((1 : Int32).toUInt32 &&& Int32.toUInt32 31)).toInt32) &&& 1431655765)) &&& 858993459) + ((((x - (((x.toUInt32 >>> ((1 : Int32).toUInt32 &&& Int32.toUInt32 31)).toInt32) &&& 1431655765)).toUInt32 >>> ((2 : Int32).toUInt32 &&& Int32.toUInt32 31)).toInt32) &&& 858993459)).toUInt32 >>> ((4 : Int32).toUInt32 &&& Int32.toUInt32 31)).toInt32)) &&& 252645135).toUInt32 >>> ((8 : Int32).toUInt32 &&& Int32.toUInt32 31)).toInt32)) + ((((((((x - (((x.toUInt32 >>> ((1 : Int32).toUInt32 &&& Int32.toUInt32 31)).toInt32) &&& 1431655765)) &&& 858993459) + ((((x - (((x.toUInt32 >>> ((1 : Int32).toUInt32 &&& Int32.toUInt32 31)).toInt32) &&& 1431655765)).toUInt32 >>> ((2 : Int32).toUInt32 &&& Int32.toUInt32 31)).toInt32) &&& 858993459)) + (((((x - (((x.toUInt32 >>> ((1 : Int32).toUInt32 &&& Int32.toUInt32 31)).toInt32) &&& 1431655765)) &&& 858993459) + ((((x - (((x.toUInt32 >>> ((1 : Int32).toUInt32 &&& Int32.toUInt32 31)).toInt32) &&& 1431655765)).toUInt32 >>> ((2 : Int32).toUInt32 &&& Int32.toUInt32 31)).toInt32) &&& 858993459)).toUInt32 >>> ((4 : Int32).toUInt32 &&& Int32.toUInt32 31)).toInt32)) &&& 252645135) + (((((((x - (((x.toUInt32 >>> ((1 : Int32).toUInt32 &&& Int32.toUInt32 31)).toInt32) &&& 1431655765)) &&& 858993459) + ((((x - (((x.toUInt32 >>> ((1 : Int32).toUInt32 &&& Int32.toUInt32 31)).toInt32) &&& 1431655765)).toUInt32 >>> ((2 : Int32).toUInt32 &&& Int32.toUInt32 31)).toInt32) &&& 858993459)) + (((((x - (((x.toUInt32 >>> ((1 : Int32).toUInt32 &&& Int32.toUInt32 31)).toInt32) &&& 1431655765)) &&& 858993459) + ((((x - (((x.toUInt32 >>> ((1 : Int32).toUInt32 &&& Int32.toUInt32 31)).toInt32) &&& 1431655765)).toUInt32 >>> ((2 : Int32).toUInt32 &&& Int32.toUInt32 31)).toInt32) &&& 858993459)).toUInt32 >>> ((4 : Int32).toUInt32 &&& Int32.toUInt32 31)).toInt32)) &&& 252645135).toUInt32 >>> ((8 : Int32).toUInt32 &&& Int32.toUInt32 31)).toInt32)).toUInt32 >>> ((16 : Int32).toUInt32 &&& Int32.toUInt32 31)).toInt32)))]) hx hb dJ6_bitCount_0f7a4_47 rfl hl (by decide) rfl (fun ls hl => ?_)
  refine lv_iload_n hx hb dJ6_bitCount_0f7a4_48 rfl (lv_at hl 0 rfl) ?_
  refine lv_bipush (v := 63) hx hb dJ6_bitCount_0f7a4_49 (by decide) ?_
  refine lv_iand hx hb dJ6_bitCount_0f7a4_51 ?_
  exact fk_iret hx hb hr hlocks hP hK hD hS (congrArg (fun z => fk_kW ad cI cT z ++ X) (by first | rfl | simp [])) (by rfl) dJ6_bitCount_0f7a4_52

set_option maxHeartbeats 4000000 in
set_option maxRecDepth 100000 in
theorem kx_blockedBy_1 (l : Launch) (D : va_G) (ad : Nat → Nat) (cI cT cJ : ClassId) (X : va_W) (S : fk_S) (hst : l.stackTraces = false) (th : Int32) (h : fk_isT th = false) : fk_X l D (fk_ty cI cT cJ) yX2_blockedBy wsX2_blockedBy rx_pub [.ref (ad 0), .int th] (fk_kW ad cI cT S ++ X) "java/lang/IndexOutOfBoundsException" := by
  refine fk_X_of (cc := cX2_blockedBy) (maxL := 4) (ret := (some .int)) (own := RX2) (by decide) rfl rfl (Nat.le_of_ble_eq_true rfl) ?_
  intro p e s m below meth c A ls hx hb hout hlocks hml hts hown hA hP hK hD hZ hl
  have hS : va_S A s.heap s.heap [] := va_S.rf
  have hl : lv_has ls 4 [(0, .ref (ad 0)), (1, .int th)] := hl
  refine lv_aload_n hx hb dX2_blockedBy_0 rfl (lv_at hl 0 rfl) ?_
  refine lv_iload_n hx hb dX2_blockedBy_1 rfl (lv_at hl 1 rfl) ?_
  exact fk_xcallV (As := [.int th]) (rest := []) ⟨hx, hb, hml, hown, hts⟩ (kx_taskOf l D ad cI cT cJ X S hst th h) (cwV 1 hts gX2_blockedBy_X2_taskOf rfl rfl rfl (by decide +kernel) ⟨Nat.le_of_ble_eq_true rfl, Nat.le_of_ble_eq_true rfl⟩) (fk_rvK hK hP) hK hP hD hS hA hZ rfl hl.1 rfl (Nat.le_of_ble_eq_true rfl) dX2_blockedBy_2 ⟨Nat.le_of_ble_eq_true rfl, Nat.le_of_ble_eq_true rfl⟩ (fk_thru hout hlocks hK hD)

abbrev rmX2_blockedBy : Room := { frames := 3, cells := 0, slots := 0, locals := 69 }
set_option maxHeartbeats 4000000 in
set_option maxRecDepth 100000 in
theorem kc_blockedBy (l : Launch) (D : va_G) (ad : Nat → Nat) (cI cT cJ : ClassId) (X : va_W) (S : fk_S) (t : Nat) (ht : t < 8) : fk_C l D (fk_ty cI cT cJ) yX2_blockedBy wsX2_blockedBy rmX2_blockedBy [.ref (ad 0), .int (nI t)] (fk_kW ad cI cT S ++ X) (some (.int (fk_bc (kk_bcl S 8 (kk_bit t)) - 1))) (fk_kW ad cI cT S ++ X) := by
  refine fk_C_of (cc := cX2_blockedBy) (maxL := 4) (ret := (some .int)) (own := RX2) (by decide) rfl rfl (Nat.le_of_ble_eq_true rfl) ?_
  intro p e s m below meth c A ls hx hb hr hlocks hml hts hown hA hP hK hD hl
  have hS : va_S A s.heap s.heap [] := va_S.rf
  have hl : lv_has ls 4 [(0, .ref (ad 0)), (1, .int (nI t))] := hl
  refine lv_aload_n hx hb dX2_blockedBy_0 rfl (lv_at hl 0 rfl) ?_
  refine lv_iload_n hx hb dX2_blockedBy_1 rfl (lv_at hl 1 rfl) ?_
  refine fk_callV (As := [.int (nI t)]) (rest := []) ⟨hx, hb, hml, hown, hts⟩ (kc_taskOf l D ad cI cT cJ X S t ht) (cwV 1 hts gX2_blockedBy_X2_taskOf rfl rfl rfl (by decide +kernel) ⟨Nat.le_of_ble_eq_true rfl, Nat.le_of_ble_eq_true rfl⟩) (fk_rvK hK hP) hK hP hD hS hA rfl hl.1 rfl (Nat.le_of_ble_eq_true rfl) dX2_blockedBy_2 ⟨Nat.le_of_ble_eq_true rfl, Nat.le_of_ble_eq_true rfl⟩ (fun H locs hP hD hS => ?_)
  refine W.eq (g2 := F0 m 5 ls [.ref (ad (3 + t))]) rfl ?_
  refine fk_callV (As := []) (rest := []) ⟨hx, hb, hml, hown, hts⟩ (kc_bit l D ad cI cT cJ X S t ht) (cwV 0 hts gX2_blockedBy_X1_bit rfl rfl rfl (by decide +kernel) ⟨Nat.le_of_ble_eq_true rfl, Nat.le_of_ble_eq_true rfl⟩) (fk_rvT hK hP ht) hK hP hD hS hA rfl hl.1 rfl (Nat.le_of_ble_eq_true rfl) dX2_blockedBy_5 ⟨Nat.le_of_ble_eq_true rfl, Nat.le_of_ble_eq_true rfl⟩ (fun H locs hP hD hS => ?_)
  refine W.eq (g2 := F0 m 8 ls [.int (kk_bit t)]) rfl ?_
  refine lv_istore_n (lv' := [(2, .int (kk_bit t)), (0, .ref (ad 0)), (1, .int (nI t))]) hx hb dX2_blockedBy_8 rfl hl (by decide) rfl (fun ls hl => ?_)
  refine lv_iconst (v := 0) hx hb dX2_blockedBy_9 (by decide) ?_
  refine lv_istore_n (lv' := [(3, .int 0), (2, .int (kk_bit t)), (0, .ref (ad 0)), (1, .int (nI t))]) hx hb dX2_blockedBy_10 rfl hl (by decide) rfl (fun ls hl => ?_)
  have loop : ∀ (n : Nat) (i : Nat) (x : Int32), i + n = 8 → kk_bcl S n x = kk_bcl S 8 (kk_bit t) → ∀ (H : Heap) (locs : List Loc) (ls : Array Slot), va_P D vwCl (fk_kW ad cI cT S ++ X) H → va_D A (fk_kW ad cI cT S ++ X) → va_S A s.heap H locs → lv_has ls 4 [(3, .int (nI i)), (2, .int x), (0, .ref (ad 0)), (1, .int (nI t))] → W p l e rmX2_blockedBy s m ([.ref (ad 0), .int (nI t)] : List Value).toArray below meth c H locs 0 0 (fk_Q below D (fk_ty cI cT cJ) [.ref (ad 0), .int (nI t)] s A (fk_kW ad cI cT S ++ X) (some (.int (fk_bc (kk_bcl S 8 (kk_bit t)) - 1)))) (F0 m 11 ls []) := by
    intro n
    induction n with
    | zero =>
      intro i x hi hR H locs ls hP hD hS hl
      refine lv_iload_n hx hb dX2_blockedBy_11 rfl (lv_at hl 0 rfl) ?_
      refine lv_bipush (v := 8) hx hb dX2_blockedBy_12 (by decide) ?_
      refine lv_icmp_ge (tgt := 31) hx hb dX2_blockedBy_14 (by decide) (fun c_1 => ?_) (fun c_1 => absurd (nI_le (a := 8) (b := i) (by omega) (by omega)) c_1)
      refine lv_iload_n hx hb dX2_blockedBy_31 rfl (lv_at hl 1 rfl) ?_
      refine fk_callS (As := [.int x]) (rest := []) ⟨hx, hb, hml, hown, hts⟩ (kc_bitCount l D ad cI cT cJ X S x) (va_cwS 1 hts gX2_blockedBy_J6_bitCount_0f7a4 rfl rfl rfl (by decide +kernel) ⟨Nat.le_of_ble_eq_true rfl, Nat.le_of_ble_eq_true rfl⟩) hK hP hD hS hA rfl hl.1 rfl (Nat.le_of_ble_eq_true rfl) dX2_blockedBy_32 ⟨Nat.le_of_ble_eq_true rfl, Nat.le_of_ble_eq_true rfl⟩ (fun H locs hP hD hS => ?_)
      refine W.eq (g2 := F0 m 35 ls [.int (fk_bc x)]) rfl ?_
      refine lv_iconst (v := 1) hx hb dX2_blockedBy_35 (by decide) ?_
      refine lv_isub hx hb dX2_blockedBy_36 ?_
      exact fk_iret hx hb hr hlocks hP hK hD hS (congrArg (fun z => fk_kW ad cI cT z ++ X) (by first | rfl | simp [c_1])) (by rw [← hR]; rfl) dX2_blockedBy_37
    | succ n ih =>
      intro i x hi hR H locs ls hP hD hS hl
      refine lv_iload_n hx hb dX2_blockedBy_11 rfl (lv_at hl 0 rfl) ?_
      refine lv_bipush (v := 8) hx hb dX2_blockedBy_12 (by decide) ?_
      refine lv_icmp_ge (tgt := 31) hx hb dX2_blockedBy_14 (by decide) (fun c_2 => absurd c_2 (nI_ge (a := i) (b := 8) (by omega) (by omega))) (fun c_2 => ?_)
      refine lv_iload_n hx hb dX2_blockedBy_17 rfl (lv_at hl 1 rfl) ?_
      refine lv_aload_n hx hb dX2_blockedBy_18 rfl (lv_at hl 2 rfl) ?_
      refine lv_iload_n hx hb dX2_blockedBy_19 rfl (lv_at hl 1 rfl) ?_
      refine fk_callV (As := [.int x]) (rest := [.int x]) ⟨hx, hb, hml, hown, hts⟩ (kc_blockedByOneOf l D ad cI cT cJ X S x) (cwV 1 hts gX2_blockedBy_X2_blockedByOneOf rfl rfl rfl (by decide +kernel) ⟨Nat.le_of_ble_eq_true rfl, Nat.le_of_ble_eq_true rfl⟩) (fk_rvK hK hP) hK hP hD hS hA rfl hl.1 rfl (Nat.le_of_ble_eq_true rfl) dX2_blockedBy_20 ⟨Nat.le_of_ble_eq_true rfl, Nat.le_of_ble_eq_true rfl⟩ (fun H locs hP hD hS => ?_)
      refine W.eq (g2 := F0 m 23 ls [.int (kk_blk S x), .int x]) rfl ?_
      refine lv_ior hx hb dX2_blockedBy_23 ?_
      refine lv_istore_n (lv' := [(2, .int (x ||| (kk_blk S x))), (3, .int (nI i)), (0, .ref (ad 0)), (1, .int (nI t))]) hx hb dX2_blockedBy_24 rfl hl (by decide) rfl (fun ls hl => ?_)
      refine lv_iinc (v := (nI (i + 1))) (lv' := [(3, .int (nI (i + 1))), (2, .int (x ||| (kk_blk S x))), (0, .ref (ad 0)), (1, .int (nI t))]) hx hb dX2_blockedBy_25 hl (k := 1) rfl (nI_1 i) (by decide) rfl (fun ls hl => ?_)
      refine lv_goto (tgt := 11) hx hb dX2_blockedBy_28 (by decide) ?_
      exact ih (i + 1) (x ||| (kk_blk S x)) (by omega) hR _ _ _ hP hD hS (lv_sub hl [0, 1, 2, 3] rfl)
  exact loop 8 0 (kk_bit t) rfl rfl _ _ _ hP hD hS (lv_sub hl [0, 1, 2, 3] rfl)

set_option maxHeartbeats 4000000 in
set_option maxRecDepth 100000 in
theorem kx_exit_1 (l : Launch) (D : va_G) (ad : Nat → Nat) (cI cT cJ : ClassId) (X : va_W) (S : fk_S) (hst : l.stackTraces = false) (th : Int32) (h : fk_isT th = false) : fk_X l D (fk_ty cI cT cJ) yX2_exit wsX2_exit rx_pub [.ref (ad 0), .int th] (fk_kW ad cI cT S ++ X) "java/lang/IndexOutOfBoundsException" := by
  refine fk_X_of (cc := cX2_exit) (maxL := 7) (ret := (some .int)) (own := RX2) (by decide) rfl rfl (Nat.le_of_ble_eq_true rfl) ?_
  intro p e s m below meth c A ls hx hb hout hlocks hml hts hown hA hP hK hD hZ hl
  have hS : va_S A s.heap s.heap [] := va_S.rf
  have hl : lv_has ls 7 [(0, .ref (ad 0)), (1, .int th)] := hl
  refine lv_aload_n hx hb dX2_exit_0 rfl (lv_at hl 0 rfl) ?_
  refine lv_iload_n hx hb dX2_exit_1 rfl (lv_at hl 1 rfl) ?_
  exact fk_xcallV (As := [.int th]) (rest := []) ⟨hx, hb, hml, hown, hts⟩ (kx_taskOf l D ad cI cT cJ X S hst th h) (cwV 1 hts gX2_exit_X2_taskOf rfl rfl rfl (by decide +kernel) ⟨Nat.le_of_ble_eq_true rfl, Nat.le_of_ble_eq_true rfl⟩) (fk_rvK hK hP) hK hP hD hS hA hZ rfl hl.1 rfl (Nat.le_of_ble_eq_true rfl) dX2_exit_2 ⟨Nat.le_of_ble_eq_true rfl, Nat.le_of_ble_eq_true rfl⟩ (fk_thru hout hlocks hK hD)

set_option maxHeartbeats 4000000 in
set_option maxRecDepth 100000 in
theorem kx_exit_2 (l : Launch) (D : va_G) (ad : Nat → Nat) (cI cT cJ : ClassId) (X : va_W) (S : fk_S) (hst : l.stackTraces = false) (t : Nat) (ht : t < 8) (h : S 1 t = 3) : fk_X l D (fk_ty cI cT cJ) yX2_exit wsX2_exit rx_pub [.ref (ad 0), .int (nI t)] (fk_kW ad cI cT S ++ X) "java/lang/IllegalStateException" := by
  refine fk_X_of (cc := cX2_exit) (maxL := 7) (ret := (some .int)) (own := RX2) (by decide) rfl rfl (Nat.le_of_ble_eq_true rfl) ?_
  intro p e s m below meth c A ls hx hb hout hlocks hml hts hown hA hP hK hD hZ hl
  have hS : va_S A s.heap s.heap [] := va_S.rf
  have hl : lv_has ls 7 [(0, .ref (ad 0)), (1, .int (nI t))] := hl
  refine lv_aload_n hx hb dX2_exit_0 rfl (lv_at hl 0 rfl) ?_
  refine lv_iload_n hx hb dX2_exit_1 rfl (lv_at hl 1 rfl) ?_
  refine fk_callV (As := [.int (nI t)]) (rest := []) ⟨hx, hb, hml, hown, hts⟩ (kc_taskOf l D ad cI cT cJ X S t ht) (cwV 1 hts gX2_exit_X2_taskOf rfl rfl rfl (by decide +kernel) ⟨Nat.le_of_ble_eq_true rfl, Nat.le_of_ble_eq_true rfl⟩) (fk_rvK hK hP) hK hP hD hS hA rfl hl.1 rfl (Nat.le_of_ble_eq_true rfl) dX2_exit_2 ⟨Nat.le_of_ble_eq_true rfl, Nat.le_of_ble_eq_true rfl⟩ (fun H locs hP hD hS => ?_)
  refine W.eq (g2 := F0 m 5 ls [.ref (ad (3 + t))]) rfl ?_
  refine lv_astore_n (lv' := [(2, .ref (ad (3 + t))), (0, .ref (ad 0)), (1, .int (nI t))]) hx hb dX2_exit_5 rfl hl (by decide) rfl (fun ls hl => ?_)
  refine lv_aload_n hx hb dX2_exit_6 rfl (lv_at hl 0 rfl) ?_
  exact fk_xcallS (As := [.ref (ad (3 + t))]) (rest := []) ⟨hx, hb, hml, hown, hts⟩ (kx_requireAlive l D ad cI cT cJ X S hst t ht h) (va_cwS 1 hts gX2_exit_X2_requireAlive rfl rfl rfl (by decide +kernel) ⟨Nat.le_of_ble_eq_true rfl, Nat.le_of_ble_eq_true rfl⟩) hK hP hD hS hA hZ rfl hl.1 rfl (Nat.le_of_ble_eq_true rfl) dX2_exit_7 ⟨Nat.le_of_ble_eq_true rfl, Nat.le_of_ble_eq_true rfl⟩ (fk_thru hout hlocks hK hD)

abbrev rmX2_exit : Room := { frames := 6, cells := 0, slots := 0, locals := 140 }
set_option maxHeartbeats 4000000 in
set_option maxRecDepth 100000 in
theorem kc_exit (l : Launch) (D : va_G) (ad : Nat → Nat) (cI cT cJ : ClassId) (X : va_W) (S : fk_S) (t : Nat) (ht : t < 8) (hsz : fk_sz S) (h : ¬ S 1 t = 3) : fk_C l D (fk_ty cI cT cJ) yX2_exit wsX2_exit rmX2_exit [.ref (ad 0), .int (nI t)] (fk_kW ad cI cT S ++ X) (some (.int (kk_exitR S t))) (fk_kW ad cI cT (kk_exit S t) ++ X) := by
  refine fk_C_of (cc := cX2_exit) (maxL := 7) (ret := (some .int)) (own := RX2) (by decide) rfl rfl (Nat.le_of_ble_eq_true rfl) ?_
  intro p e s m below meth c A ls hx hb hr hlocks hml hts hown hA hP hK hD hl
  have hS : va_S A s.heap s.heap [] := va_S.rf
  have hl : lv_has ls 7 [(0, .ref (ad 0)), (1, .int (nI t))] := hl
  have hiX0 : ∀ w ∈ u_ws RX0 TX0 2, w ∈ wsX2_exit := by decide +kernel
  have hiX1 : ∀ w ∈ u_ws RX1 TX1 11, w ∈ wsX2_exit := by decide +kernel
  obtain ⟨k, hk, hs⟩ := hsz t ht
  refine lv_aload_n hx hb dX2_exit_0 rfl (lv_at hl 0 rfl) ?_
  refine lv_iload_n hx hb dX2_exit_1 rfl (lv_at hl 1 rfl) ?_
  refine fk_callV (As := [.int (nI t)]) (rest := []) ⟨hx, hb, hml, hown, hts⟩ (kc_taskOf l D ad cI cT cJ X S t ht) (cwV 1 hts gX2_exit_X2_taskOf rfl rfl rfl (by decide +kernel) ⟨Nat.le_of_ble_eq_true rfl, Nat.le_of_ble_eq_true rfl⟩) (fk_rvK hK hP) hK hP hD hS hA rfl hl.1 rfl (Nat.le_of_ble_eq_true rfl) dX2_exit_2 ⟨Nat.le_of_ble_eq_true rfl, Nat.le_of_ble_eq_true rfl⟩ (fun H locs hP hD hS => ?_)
  refine W.eq (g2 := F0 m 5 ls [.ref (ad (3 + t))]) rfl ?_
  refine lv_astore_n (lv' := [(2, .ref (ad (3 + t))), (0, .ref (ad 0)), (1, .int (nI t))]) hx hb dX2_exit_5 rfl hl (by decide) rfl (fun ls hl => ?_)
  refine lv_aload_n hx hb dX2_exit_6 rfl (lv_at hl 0 rfl) ?_
  refine fk_callS (As := [.ref (ad (3 + t))]) (rest := []) ⟨hx, hb, hml, hown, hts⟩ (kc_requireAlive l D ad cI cT cJ X S t ht h) (va_cwS 1 hts gX2_exit_X2_requireAlive rfl rfl rfl (by decide +kernel) ⟨Nat.le_of_ble_eq_true rfl, Nat.le_of_ble_eq_true rfl⟩) hK hP hD hS hA rfl hl.1 rfl (Nat.le_of_ble_eq_true rfl) dX2_exit_7 ⟨Nat.le_of_ble_eq_true rfl, Nat.le_of_ble_eq_true rfl⟩ (fun H locs hP hD hS => ?_)
  refine W.eq (g2 := F0 m 10 ls []) rfl ?_
  refine lv_aload_n hx hb dX2_exit_10 rfl (lv_at hl 0 rfl) ?_
  refine fk_callV (As := []) (rest := []) ⟨hx, hb, hml, hown, hts⟩ (kc_isQueued l D ad cI cT cJ X S t ht) (cwV 0 hts gX2_exit_X1_isQueued rfl rfl rfl (by decide +kernel) ⟨Nat.le_of_ble_eq_true rfl, Nat.le_of_ble_eq_true rfl⟩) (fk_rvT hK hP ht) hK hP hD hS hA rfl hl.1 rfl (Nat.le_of_ble_eq_true rfl) dX2_exit_11 ⟨Nat.le_of_ble_eq_true rfl, Nat.le_of_ble_eq_true rfl⟩ (fun H locs hP hD hS => ?_)
  cases b_1 : kk_q S t with
  | true =>
    refine W.eq (g2 := F0 m 14 ls [.int 1]) (by first | rfl | (rw [b_1]; rfl)) ?_
    refine lv_if_eq (tgt := 22) hx hb dX2_exit_14 (by decide) (fun c => absurd c (by decide)) (fun _ => ?_)
    refine lv_aload_n hx hb dX2_exit_17 rfl (lv_at hl 1 rfl) ?_
    refine lv_aload_n hx hb dX2_exit_18 rfl (lv_at hl 0 rfl) ?_
    refine fk_callV (As := [.ref (ad (3 + t))]) (rest := []) ⟨hx, hb, hml, hown, hts⟩ (kc_leaveQueue l D ad cI cT cJ X S t ht) (cwV 1 hts gX2_exit_X2_leaveQueue rfl rfl rfl (by decide +kernel) ⟨Nat.le_of_ble_eq_true rfl, Nat.le_of_ble_eq_true rfl⟩) (fk_rvK hK hP) hK hP hD hS hA rfl hl.1 rfl (Nat.le_of_ble_eq_true rfl) dX2_exit_19 ⟨Nat.le_of_ble_eq_true rfl, Nat.le_of_ble_eq_true rfl⟩ (fun H locs hP hD hS => ?_)
    refine W.eq (g2 := F0 m 22 ls []) rfl ?_
    refine lv_aload_n hx hb dX2_exit_22 rfl (lv_at hl 0 rfl) ?_
    refine lv_iconst (v := 3) hx hb dX2_exit_23 (by decide) ?_
    refine fk_putT (v := 3) hx hb hts hiX1 hown hK hP hD hS ht 1 (by decide) (by decide) (by simp [fk_fT, fk_up]) (List.mem_of_getElem? (i := 1) rfl) rfl rfl (by decide +kernel) dX2_exit_24 (fun H locs hP hD hS => ?_)
    refine lv_iconst (v := 0) hx hb dX2_exit_27 (by decide) ?_
    refine lv_istore_n (lv' := [(3, .int 0), (2, .ref (ad (3 + t))), (0, .ref (ad 0)), (1, .int (nI t))]) hx hb dX2_exit_28 rfl hl (by decide) rfl (fun ls hl => ?_)
    refine lv_aload_n hx hb dX2_exit_29 rfl (lv_at hl 1 rfl) ?_
    refine fk_getT hx hb hts hiX1 hown hK hP ht 1 (by decide) (v := .ref (ad (11 + t))) rfl (List.mem_of_getElem? (i := 2) rfl) rfl dX2_exit_30 ?_
    refine fk_getL hx hb hts hiX0 hown hK hP ht 1 (by decide) (v := .int ((kk_leave S t) 10 t)) (by simp [fk_fL, fk_up]) (List.mem_of_getElem? (i := 3) rfl) rfl dX2_exit_33 ?_
    refine W.eq (g2 := F0 m 36 ls [.int (nI k)]) (by rw [show (kk_leave S t) 10 t = nI k by first | exact hs | (simp [fk_up]; exact hs) | (rw [← hs]; simp [fk_up, kk_leave_10])]) ?_
    refine lv_istore (lv' := [(4, .int (nI k)), (3, .int 0), (2, .ref (ad (3 + t))), (0, .ref (ad 0)), (1, .int (nI t))]) hx hb dX2_exit_36 hl (by decide) rfl (fun ls hl => ?_)
    refine lv_iconst (v := 0) hx hb dX2_exit_38 (by decide) ?_
    refine lv_istore (lv' := [(5, .int 0), (4, .int (nI k)), (3, .int 0), (2, .ref (ad (3 + t))), (0, .ref (ad 0)), (1, .int (nI t))]) hx hb dX2_exit_39 hl (by decide) rfl (fun ls hl => ?_)
    have loop : ∀ (n : Nat) (i j : Nat) (S1 : fk_S), i + n = k → fk_sz S1 → (kk_exl t n i S1).2 = (kk_exl t k 0 (kk_ex0 S t)).2 → j + (kk_exl t n i S1).1 = (kk_exl t k 0 (kk_ex0 S t)).1 → ∀ (H : Heap) (locs : List Loc) (ls : Array Slot), va_P D vwCl (fk_kW ad cI cT S1 ++ X) H → va_D A (fk_kW ad cI cT S1 ++ X) → va_S A s.heap H locs → lv_has ls 7 [(5, .int (nI i)), (4, .int (nI k)), (3, .int (nI j)), (2, .ref (ad (3 + t))), (0, .ref (ad 0)), (1, .int (nI t))] → W p l e rmX2_exit s m ([.ref (ad 0), .int (nI t)] : List Value).toArray below meth c H locs 0 0 (fk_Q below D (fk_ty cI cT cJ) [.ref (ad 0), .int (nI t)] s A (fk_kW ad cI cT (kk_exit S t) ++ X) (some (.int (kk_exitR S t)))) (F0 m 41 ls []) := by
      intro n
      induction n with
      | zero =>
        intro i j S1 hi hs1 h2 h1 H locs ls hP hD hS hl
        refine lv_iload hx hb dX2_exit_41 (lv_at hl 0 rfl) ?_
        refine lv_iload hx hb dX2_exit_43 (lv_at hl 1 rfl) ?_
        refine lv_icmp_ge (tgt := 86) hx hb dX2_exit_45 (by decide) (fun c_3 => ?_) (fun c_3 => absurd (nI_le (a := k) (b := i) (by omega) (by omega)) c_3)
        refine lv_aload_n hx hb dX2_exit_86 rfl (lv_at hl 3 rfl) ?_
        refine fk_getT hx hb hts hiX1 hown hK hP ht 1 (by decide) (v := .ref (ad (11 + t))) rfl (List.mem_of_getElem? (i := 2) rfl) rfl dX2_exit_87 ?_
        refine fk_callV (As := []) (rest := []) ⟨hx, hb, hml, hown, hts⟩ (kc_clear l D ad cI cT cJ X S1 t ht) (cwV 0 hts gX2_exit_X0_clear rfl rfl rfl (by decide +kernel) ⟨Nat.le_of_ble_eq_true rfl, Nat.le_of_ble_eq_true rfl⟩) (fk_rvL hK hP ht) hK hP hD hS hA rfl hl.1 rfl (Nat.le_of_ble_eq_true rfl) dX2_exit_90 ⟨Nat.le_of_ble_eq_true rfl, Nat.le_of_ble_eq_true rfl⟩ (fun H locs hP hD hS => ?_)
        refine W.eq (g2 := F0 m 93 ls []) rfl ?_
        refine lv_iload_n hx hb dX2_exit_93 rfl (lv_at hl 2 rfl) ?_
        exact fk_iret hx hb hr hlocks hP hK hD hS (congrArg (fun z => fk_kW ad cI cT z ++ X) (by simp only [kk_exit, hs, nI_clamp (n := k) (show k < 2 ^ 31 by omega), ← h2]; rfl)) (by simp only [kk_exitR, hs, nI_clamp (n := k) (show k < 2 ^ 31 by omega), ← h1]; rfl) dX2_exit_94
      | succ n ih =>
        intro i j S1 hi hs1 h2 h1 H locs ls hP hD hS hl
        refine lv_iload hx hb dX2_exit_41 (lv_at hl 0 rfl) ?_
        refine lv_iload hx hb dX2_exit_43 (lv_at hl 1 rfl) ?_
        refine lv_icmp_ge (tgt := 86) hx hb dX2_exit_45 (by decide) (fun c_4 => absurd c_4 (nI_ge (a := i) (b := k) (by omega) (by omega))) (fun c_4 => ?_)
        refine lv_aload_n hx hb dX2_exit_48 rfl (lv_at hl 3 rfl) ?_
        refine fk_getT hx hb hts hiX1 hown hK hP ht 1 (by decide) (v := .ref (ad (11 + t))) rfl (List.mem_of_getElem? (i := 2) rfl) rfl dX2_exit_49 ?_
        refine lv_iload hx hb dX2_exit_52 (lv_at hl 0 rfl) ?_
        refine fk_callV (As := [.int (nI i)]) (rest := []) ⟨hx, hb, hml, hown, hts⟩ (kc_addressAt l D ad cI cT cJ X S1 t (nI i) ht hs1) (cwV 1 hts gX2_exit_X0_addressAt rfl rfl rfl (by decide +kernel) ⟨Nat.le_of_ble_eq_true rfl, Nat.le_of_ble_eq_true rfl⟩) (fk_rvL hK hP ht) hK hP hD hS hA rfl hl.1 rfl (Nat.le_of_ble_eq_true rfl) dX2_exit_54 ⟨Nat.le_of_ble_eq_true rfl, Nat.le_of_ble_eq_true rfl⟩ (fun H locs hP hD hS => ?_)
        refine W.eq (g2 := F0 m 57 ls [.int (kk_addrAt S1 t (nI i))]) rfl ?_
        refine lv_istore (lv' := [(6, .int (kk_addrAt S1 t (nI i))), (5, .int (nI i)), (4, .int (nI k)), (3, .int (nI j)), (2, .ref (ad (3 + t))), (0, .ref (ad 0)), (1, .int (nI t))]) hx hb dX2_exit_57 hl (by decide) rfl (fun ls hl => ?_)
        refine lv_aload_n hx hb dX2_exit_59 rfl (lv_at hl 5 rfl) ?_
        refine lv_iload hx hb dX2_exit_60 (lv_at hl 0 rfl) ?_
        refine fk_callV (As := [.int (kk_addrAt S1 t (nI i))]) (rest := []) ⟨hx, hb, hml, hown, hts⟩ (kc_ownerAt l D ad cI cT cJ X S1 (kk_addrAt S1 t (nI i))) (cwV 1 hts gX2_exit_X2_ownerAt rfl rfl rfl (by decide +kernel) ⟨Nat.le_of_ble_eq_true rfl, Nat.le_of_ble_eq_true rfl⟩) (fk_rvK hK hP) hK hP hD hS hA rfl hl.1 rfl (Nat.le_of_ble_eq_true rfl) dX2_exit_62 ⟨Nat.le_of_ble_eq_true rfl, Nat.le_of_ble_eq_true rfl⟩ (fun H locs hP hD hS => ?_)
        rcases o_5 : kk_owner S1 (kk_addrAt S1 t (nI i)) with _ | u6
        · refine W.eq (g2 := F0 m 65 ls [.null]) (by first | rfl | (rw [o_5]; rfl)) ?_
          refine lv_aload_n hx hb dX2_exit_65 rfl (lv_at hl 4 rfl) ?_
          refine lv_acmp_ne (rx := none) (ry := (some (ad (3 + t)))) (tgt := 80) hx hb dX2_exit_66 (by decide) (fun _ => ?_) (fun c => absurd c (fun h => by cases h))
          refine lv_iinc (v := (nI (i + 1))) (lv' := [(5, .int (nI (i + 1))), (6, .int (kk_addrAt S1 t (nI i))), (4, .int (nI k)), (3, .int (nI j)), (2, .ref (ad (3 + t))), (0, .ref (ad 0)), (1, .int (nI t))]) hx hb dX2_exit_80 hl (k := 1) rfl (nI_1 i) (by decide) rfl (fun ls hl => ?_)
          refine lv_goto (tgt := 41) hx hb dX2_exit_83 (by decide) ?_
          exact ih (i + 1) j S1 (by omega) hs1 (by rw [← h2]; simp only [kk_exl]; rw [if_neg (show ¬ kk_owner S1 (kk_addrAt S1 t (nI i)) = some t by rw [o_5]; exact fun h9 => by cases h9)]) (by rw [← h1]; simp only [kk_exl]; rw [if_neg (show ¬ kk_owner S1 (kk_addrAt S1 t (nI i)) = some t by rw [o_5]; exact fun h9 => by cases h9)]) _ _ _ hP hD hS (lv_sub hl [0, 2, 3, 4, 5, 6] rfl)
        · have hu_7 : u6 < 8 := kk_owner_lt o_5
          refine W.eq (g2 := F0 m 65 ls [.ref (ad (3 + u6))]) (by first | rfl | (rw [o_5]; rfl)) ?_
          refine lv_aload_n hx hb dX2_exit_65 rfl (lv_at hl 4 rfl) ?_
          refine lv_acmp_ne (rx := (some (ad (3 + u6)))) (ry := (some (ad (3 + t)))) (tgt := 80) hx hb dX2_exit_66 (by decide) (fun c_8 => ?_) (fun c_8 => ?_)
          · have f_9 : ¬ u6 = t := fun h9 => c_8 (by rw [h9])
            refine lv_iinc (v := (nI (i + 1))) (lv' := [(5, .int (nI (i + 1))), (6, .int (kk_addrAt S1 t (nI i))), (4, .int (nI k)), (3, .int (nI j)), (2, .ref (ad (3 + t))), (0, .ref (ad 0)), (1, .int (nI t))]) hx hb dX2_exit_80 hl (k := 1) rfl (nI_1 i) (by decide) rfl (fun ls hl => ?_)
            refine lv_goto (tgt := 41) hx hb dX2_exit_83 (by decide) ?_
            exact ih (i + 1) j S1 (by omega) hs1 (by rw [← h2]; simp only [kk_exl]; rw [if_neg (show ¬ kk_owner S1 (kk_addrAt S1 t (nI i)) = some t from fun h9 => f_9 (Option.some.inj (o_5.symm.trans h9)))]) (by rw [← h1]; simp only [kk_exl]; rw [if_neg (show ¬ kk_owner S1 (kk_addrAt S1 t (nI i)) = some t from fun h9 => f_9 (Option.some.inj (o_5.symm.trans h9)))]) _ _ _ hP hD hS (lv_sub hl [0, 2, 3, 4, 5, 6] rfl)
          · have e_10 : u6 = t := fk_adT hD hu_7 ht c_8
            refine lv_aload_n hx hb dX2_exit_69 rfl (lv_at hl 5 rfl) ?_
            refine lv_iload hx hb dX2_exit_70 (lv_at hl 0 rfl) ?_
            refine lv_iconst (v := 1) hx hb dX2_exit_72 (by decide) ?_
            refine fk_callV (As := [.int (kk_addrAt S1 t (nI i)), .int 1]) (rest := []) ⟨hx, hb, hml, hown, hts⟩ (kc_passOn l D ad cI cT cJ X S1 (kk_addrAt S1 t (nI i)) true hs1) (cwV 2 hts gX2_exit_X2_passOn rfl rfl rfl (by decide +kernel) ⟨Nat.le_of_ble_eq_true rfl, Nat.le_of_ble_eq_true rfl⟩) (fk_rvK hK hP) hK hP hD hS hA rfl hl.1 rfl (Nat.le_of_ble_eq_true rfl) dX2_exit_73 ⟨Nat.le_of_ble_eq_true rfl, Nat.le_of_ble_eq_true rfl⟩ (fun H locs hP hD hS => ?_)
            refine W.eq (g2 := F0 m 76 ls [.int (fk_oI (kk_lk S1 (kk_addrAt S1 t (nI i))))]) rfl ?_
            refine lv_pop hx hb dX2_exit_76 rfl ?_
            refine lv_iinc (v := (nI (j + 1))) (lv' := [(3, .int (nI (j + 1))), (6, .int (kk_addrAt S1 t (nI i))), (5, .int (nI i)), (4, .int (nI k)), (2, .ref (ad (3 + t))), (0, .ref (ad 0)), (1, .int (nI t))]) hx hb dX2_exit_77 hl (k := 3) rfl (nI_1 j) (by decide) rfl (fun ls hl => ?_)
            refine lv_iinc (v := (nI (i + 1))) (lv' := [(5, .int (nI (i + 1))), (3, .int (nI (j + 1))), (6, .int (kk_addrAt S1 t (nI i))), (4, .int (nI k)), (2, .ref (ad (3 + t))), (0, .ref (ad 0)), (1, .int (nI t))]) hx hb dX2_exit_80 hl (k := 2) rfl (nI_1 i) (by decide) rfl (fun ls hl => ?_)
            refine lv_goto (tgt := 41) hx hb dX2_exit_83 (by decide) ?_
            exact ih (i + 1) (j + 1) (kk_pass S1 (kk_addrAt S1 t (nI i)) true) (by omega) (kk_pass_sz hs1) (by rw [← h2]; simp only [kk_exl]; rw [if_pos (show kk_owner S1 (kk_addrAt S1 t (nI i)) = some t by rw [o_5, e_10])]) (by rw [← h1]; simp only [kk_exl]; rw [if_pos (show kk_owner S1 (kk_addrAt S1 t (nI i)) = some t by rw [o_5, e_10])]; omega) _ _ _ hP hD hS (lv_sub hl [0, 3, 1, 4, 5, 6] rfl)
    exact loop k 0 0 (fk_up (kk_leave S t) 1 t 3) (by omega) (by rw [← (show kk_ex0 S t = (fk_up (kk_leave S t) 1 t 3) by simp [kk_ex0, b_1])]; exact kk_ex0_sz hsz) (by rw [← (show kk_ex0 S t = (fk_up (kk_leave S t) 1 t 3) by simp [kk_ex0, b_1])]) (by rw [← (show kk_ex0 S t = (fk_up (kk_leave S t) 1 t 3) by simp [kk_ex0, b_1])]; omega) _ _ _ hP hD hS (lv_sub hl [0, 1, 2, 3, 4, 5] rfl)
  | false =>
    refine W.eq (g2 := F0 m 14 ls [.int 0]) (by first | rfl | (rw [b_1]; rfl)) ?_
    refine lv_if_eq (tgt := 22) hx hb dX2_exit_14 (by decide) (fun _ => ?_) (fun c => absurd c (by decide))
    refine lv_aload_n hx hb dX2_exit_22 rfl (lv_at hl 0 rfl) ?_
    refine lv_iconst (v := 3) hx hb dX2_exit_23 (by decide) ?_
    refine fk_putT (v := 3) hx hb hts hiX1 hown hK hP hD hS ht 1 (by decide) (by decide) (by simp [fk_fT, fk_up]) (List.mem_of_getElem? (i := 1) rfl) rfl rfl (by decide +kernel) dX2_exit_24 (fun H locs hP hD hS => ?_)
    refine lv_iconst (v := 0) hx hb dX2_exit_27 (by decide) ?_
    refine lv_istore_n (lv' := [(3, .int 0), (2, .ref (ad (3 + t))), (0, .ref (ad 0)), (1, .int (nI t))]) hx hb dX2_exit_28 rfl hl (by decide) rfl (fun ls hl => ?_)
    refine lv_aload_n hx hb dX2_exit_29 rfl (lv_at hl 1 rfl) ?_
    refine fk_getT hx hb hts hiX1 hown hK hP ht 1 (by decide) (v := .ref (ad (11 + t))) rfl (List.mem_of_getElem? (i := 2) rfl) rfl dX2_exit_30 ?_
    refine fk_getL hx hb hts hiX0 hown hK hP ht 1 (by decide) (v := .int (S 10 t)) (by simp [fk_fL, fk_up]) (List.mem_of_getElem? (i := 3) rfl) rfl dX2_exit_33 ?_
    refine W.eq (g2 := F0 m 36 ls [.int (nI k)]) (by rw [show S 10 t = nI k by first | exact hs | (simp [fk_up]; exact hs) | (rw [← hs]; simp [fk_up, kk_leave_10])]) ?_
    refine lv_istore (lv' := [(4, .int (nI k)), (3, .int 0), (2, .ref (ad (3 + t))), (0, .ref (ad 0)), (1, .int (nI t))]) hx hb dX2_exit_36 hl (by decide) rfl (fun ls hl => ?_)
    refine lv_iconst (v := 0) hx hb dX2_exit_38 (by decide) ?_
    refine lv_istore (lv' := [(5, .int 0), (4, .int (nI k)), (3, .int 0), (2, .ref (ad (3 + t))), (0, .ref (ad 0)), (1, .int (nI t))]) hx hb dX2_exit_39 hl (by decide) rfl (fun ls hl => ?_)
    have loop : ∀ (n : Nat) (i j : Nat) (S1 : fk_S), i + n = k → fk_sz S1 → (kk_exl t n i S1).2 = (kk_exl t k 0 (kk_ex0 S t)).2 → j + (kk_exl t n i S1).1 = (kk_exl t k 0 (kk_ex0 S t)).1 → ∀ (H : Heap) (locs : List Loc) (ls : Array Slot), va_P D vwCl (fk_kW ad cI cT S1 ++ X) H → va_D A (fk_kW ad cI cT S1 ++ X) → va_S A s.heap H locs → lv_has ls 7 [(5, .int (nI i)), (4, .int (nI k)), (3, .int (nI j)), (2, .ref (ad (3 + t))), (0, .ref (ad 0)), (1, .int (nI t))] → W p l e rmX2_exit s m ([.ref (ad 0), .int (nI t)] : List Value).toArray below meth c H locs 0 0 (fk_Q below D (fk_ty cI cT cJ) [.ref (ad 0), .int (nI t)] s A (fk_kW ad cI cT (kk_exit S t) ++ X) (some (.int (kk_exitR S t)))) (F0 m 41 ls []) := by
      intro n
      induction n with
      | zero =>
        intro i j S1 hi hs1 h2 h1 H locs ls hP hD hS hl
        refine lv_iload hx hb dX2_exit_41 (lv_at hl 0 rfl) ?_
        refine lv_iload hx hb dX2_exit_43 (lv_at hl 1 rfl) ?_
        refine lv_icmp_ge (tgt := 86) hx hb dX2_exit_45 (by decide) (fun c_12 => ?_) (fun c_12 => absurd (nI_le (a := k) (b := i) (by omega) (by omega)) c_12)
        refine lv_aload_n hx hb dX2_exit_86 rfl (lv_at hl 3 rfl) ?_
        refine fk_getT hx hb hts hiX1 hown hK hP ht 1 (by decide) (v := .ref (ad (11 + t))) rfl (List.mem_of_getElem? (i := 2) rfl) rfl dX2_exit_87 ?_
        refine fk_callV (As := []) (rest := []) ⟨hx, hb, hml, hown, hts⟩ (kc_clear l D ad cI cT cJ X S1 t ht) (cwV 0 hts gX2_exit_X0_clear rfl rfl rfl (by decide +kernel) ⟨Nat.le_of_ble_eq_true rfl, Nat.le_of_ble_eq_true rfl⟩) (fk_rvL hK hP ht) hK hP hD hS hA rfl hl.1 rfl (Nat.le_of_ble_eq_true rfl) dX2_exit_90 ⟨Nat.le_of_ble_eq_true rfl, Nat.le_of_ble_eq_true rfl⟩ (fun H locs hP hD hS => ?_)
        refine W.eq (g2 := F0 m 93 ls []) rfl ?_
        refine lv_iload_n hx hb dX2_exit_93 rfl (lv_at hl 2 rfl) ?_
        exact fk_iret hx hb hr hlocks hP hK hD hS (congrArg (fun z => fk_kW ad cI cT z ++ X) (by simp only [kk_exit, hs, nI_clamp (n := k) (show k < 2 ^ 31 by omega), ← h2]; rfl)) (by simp only [kk_exitR, hs, nI_clamp (n := k) (show k < 2 ^ 31 by omega), ← h1]; rfl) dX2_exit_94
      | succ n ih =>
        intro i j S1 hi hs1 h2 h1 H locs ls hP hD hS hl
        refine lv_iload hx hb dX2_exit_41 (lv_at hl 0 rfl) ?_
        refine lv_iload hx hb dX2_exit_43 (lv_at hl 1 rfl) ?_
        refine lv_icmp_ge (tgt := 86) hx hb dX2_exit_45 (by decide) (fun c_13 => absurd c_13 (nI_ge (a := i) (b := k) (by omega) (by omega))) (fun c_13 => ?_)
        refine lv_aload_n hx hb dX2_exit_48 rfl (lv_at hl 3 rfl) ?_
        refine fk_getT hx hb hts hiX1 hown hK hP ht 1 (by decide) (v := .ref (ad (11 + t))) rfl (List.mem_of_getElem? (i := 2) rfl) rfl dX2_exit_49 ?_
        refine lv_iload hx hb dX2_exit_52 (lv_at hl 0 rfl) ?_
        refine fk_callV (As := [.int (nI i)]) (rest := []) ⟨hx, hb, hml, hown, hts⟩ (kc_addressAt l D ad cI cT cJ X S1 t (nI i) ht hs1) (cwV 1 hts gX2_exit_X0_addressAt rfl rfl rfl (by decide +kernel) ⟨Nat.le_of_ble_eq_true rfl, Nat.le_of_ble_eq_true rfl⟩) (fk_rvL hK hP ht) hK hP hD hS hA rfl hl.1 rfl (Nat.le_of_ble_eq_true rfl) dX2_exit_54 ⟨Nat.le_of_ble_eq_true rfl, Nat.le_of_ble_eq_true rfl⟩ (fun H locs hP hD hS => ?_)
        refine W.eq (g2 := F0 m 57 ls [.int (kk_addrAt S1 t (nI i))]) rfl ?_
        refine lv_istore (lv' := [(6, .int (kk_addrAt S1 t (nI i))), (5, .int (nI i)), (4, .int (nI k)), (3, .int (nI j)), (2, .ref (ad (3 + t))), (0, .ref (ad 0)), (1, .int (nI t))]) hx hb dX2_exit_57 hl (by decide) rfl (fun ls hl => ?_)
        refine lv_aload_n hx hb dX2_exit_59 rfl (lv_at hl 5 rfl) ?_
        refine lv_iload hx hb dX2_exit_60 (lv_at hl 0 rfl) ?_
        refine fk_callV (As := [.int (kk_addrAt S1 t (nI i))]) (rest := []) ⟨hx, hb, hml, hown, hts⟩ (kc_ownerAt l D ad cI cT cJ X S1 (kk_addrAt S1 t (nI i))) (cwV 1 hts gX2_exit_X2_ownerAt rfl rfl rfl (by decide +kernel) ⟨Nat.le_of_ble_eq_true rfl, Nat.le_of_ble_eq_true rfl⟩) (fk_rvK hK hP) hK hP hD hS hA rfl hl.1 rfl (Nat.le_of_ble_eq_true rfl) dX2_exit_62 ⟨Nat.le_of_ble_eq_true rfl, Nat.le_of_ble_eq_true rfl⟩ (fun H locs hP hD hS => ?_)
        rcases o_14 : kk_owner S1 (kk_addrAt S1 t (nI i)) with _ | u15
        · refine W.eq (g2 := F0 m 65 ls [.null]) (by first | rfl | (rw [o_14]; rfl)) ?_
          refine lv_aload_n hx hb dX2_exit_65 rfl (lv_at hl 4 rfl) ?_
          refine lv_acmp_ne (rx := none) (ry := (some (ad (3 + t)))) (tgt := 80) hx hb dX2_exit_66 (by decide) (fun _ => ?_) (fun c => absurd c (fun h => by cases h))
          refine lv_iinc (v := (nI (i + 1))) (lv' := [(5, .int (nI (i + 1))), (6, .int (kk_addrAt S1 t (nI i))), (4, .int (nI k)), (3, .int (nI j)), (2, .ref (ad (3 + t))), (0, .ref (ad 0)), (1, .int (nI t))]) hx hb dX2_exit_80 hl (k := 1) rfl (nI_1 i) (by decide) rfl (fun ls hl => ?_)
          refine lv_goto (tgt := 41) hx hb dX2_exit_83 (by decide) ?_
          exact ih (i + 1) j S1 (by omega) hs1 (by rw [← h2]; simp only [kk_exl]; rw [if_neg (show ¬ kk_owner S1 (kk_addrAt S1 t (nI i)) = some t by rw [o_14]; exact fun h9 => by cases h9)]) (by rw [← h1]; simp only [kk_exl]; rw [if_neg (show ¬ kk_owner S1 (kk_addrAt S1 t (nI i)) = some t by rw [o_14]; exact fun h9 => by cases h9)]) _ _ _ hP hD hS (lv_sub hl [0, 2, 3, 4, 5, 6] rfl)
        · have hu_16 : u15 < 8 := kk_owner_lt o_14
          refine W.eq (g2 := F0 m 65 ls [.ref (ad (3 + u15))]) (by first | rfl | (rw [o_14]; rfl)) ?_
          refine lv_aload_n hx hb dX2_exit_65 rfl (lv_at hl 4 rfl) ?_
          refine lv_acmp_ne (rx := (some (ad (3 + u15)))) (ry := (some (ad (3 + t)))) (tgt := 80) hx hb dX2_exit_66 (by decide) (fun c_17 => ?_) (fun c_17 => ?_)
          · have f_18 : ¬ u15 = t := fun h9 => c_17 (by rw [h9])
            refine lv_iinc (v := (nI (i + 1))) (lv' := [(5, .int (nI (i + 1))), (6, .int (kk_addrAt S1 t (nI i))), (4, .int (nI k)), (3, .int (nI j)), (2, .ref (ad (3 + t))), (0, .ref (ad 0)), (1, .int (nI t))]) hx hb dX2_exit_80 hl (k := 1) rfl (nI_1 i) (by decide) rfl (fun ls hl => ?_)
            refine lv_goto (tgt := 41) hx hb dX2_exit_83 (by decide) ?_
            exact ih (i + 1) j S1 (by omega) hs1 (by rw [← h2]; simp only [kk_exl]; rw [if_neg (show ¬ kk_owner S1 (kk_addrAt S1 t (nI i)) = some t from fun h9 => f_18 (Option.some.inj (o_14.symm.trans h9)))]) (by rw [← h1]; simp only [kk_exl]; rw [if_neg (show ¬ kk_owner S1 (kk_addrAt S1 t (nI i)) = some t from fun h9 => f_18 (Option.some.inj (o_14.symm.trans h9)))]) _ _ _ hP hD hS (lv_sub hl [0, 2, 3, 4, 5, 6] rfl)
          · have e_19 : u15 = t := fk_adT hD hu_16 ht c_17
            refine lv_aload_n hx hb dX2_exit_69 rfl (lv_at hl 5 rfl) ?_
            refine lv_iload hx hb dX2_exit_70 (lv_at hl 0 rfl) ?_
            refine lv_iconst (v := 1) hx hb dX2_exit_72 (by decide) ?_
            refine fk_callV (As := [.int (kk_addrAt S1 t (nI i)), .int 1]) (rest := []) ⟨hx, hb, hml, hown, hts⟩ (kc_passOn l D ad cI cT cJ X S1 (kk_addrAt S1 t (nI i)) true hs1) (cwV 2 hts gX2_exit_X2_passOn rfl rfl rfl (by decide +kernel) ⟨Nat.le_of_ble_eq_true rfl, Nat.le_of_ble_eq_true rfl⟩) (fk_rvK hK hP) hK hP hD hS hA rfl hl.1 rfl (Nat.le_of_ble_eq_true rfl) dX2_exit_73 ⟨Nat.le_of_ble_eq_true rfl, Nat.le_of_ble_eq_true rfl⟩ (fun H locs hP hD hS => ?_)
            refine W.eq (g2 := F0 m 76 ls [.int (fk_oI (kk_lk S1 (kk_addrAt S1 t (nI i))))]) rfl ?_
            refine lv_pop hx hb dX2_exit_76 rfl ?_
            refine lv_iinc (v := (nI (j + 1))) (lv' := [(3, .int (nI (j + 1))), (6, .int (kk_addrAt S1 t (nI i))), (5, .int (nI i)), (4, .int (nI k)), (2, .ref (ad (3 + t))), (0, .ref (ad 0)), (1, .int (nI t))]) hx hb dX2_exit_77 hl (k := 3) rfl (nI_1 j) (by decide) rfl (fun ls hl => ?_)
            refine lv_iinc (v := (nI (i + 1))) (lv' := [(5, .int (nI (i + 1))), (3, .int (nI (j + 1))), (6, .int (kk_addrAt S1 t (nI i))), (4, .int (nI k)), (2, .ref (ad (3 + t))), (0, .ref (ad 0)), (1, .int (nI t))]) hx hb dX2_exit_80 hl (k := 2) rfl (nI_1 i) (by decide) rfl (fun ls hl => ?_)
            refine lv_goto (tgt := 41) hx hb dX2_exit_83 (by decide) ?_
            exact ih (i + 1) (j + 1) (kk_pass S1 (kk_addrAt S1 t (nI i)) true) (by omega) (kk_pass_sz hs1) (by rw [← h2]; simp only [kk_exl]; rw [if_pos (show kk_owner S1 (kk_addrAt S1 t (nI i)) = some t by rw [o_14, e_19])]) (by rw [← h1]; simp only [kk_exl]; rw [if_pos (show kk_owner S1 (kk_addrAt S1 t (nI i)) = some t by rw [o_14, e_19])]; omega) _ _ _ hP hD hS (lv_sub hl [0, 3, 1, 4, 5, 6] rfl)
    exact loop k 0 0 (fk_up S 1 t 3) (by omega) (by rw [← (show kk_ex0 S t = (fk_up S 1 t 3) by simp [kk_ex0, b_1])]; exact kk_ex0_sz hsz) (by rw [← (show kk_ex0 S t = (fk_up S 1 t 3) by simp [kk_ex0, b_1])]) (by rw [← (show kk_ex0 S t = (fk_up S 1 t 3) by simp [kk_ex0, b_1])]; omega) _ _ _ hP hD hS (lv_sub hl [0, 1, 2, 3, 4, 5] rfl)

set_option maxHeartbeats 4000000 in
set_option maxRecDepth 100000 in
theorem kx_tick_1 (l : Launch) (D : va_G) (ad : Nat → Nat) (cI cT cJ : ClassId) (X : va_W) (S : fk_S) (hst : l.stackTraces = false) (v : Int32) (h : fk_btw v 1 1000 = false) : fk_X l D (fk_ty cI cT cJ) yX2_tick wsX2_tick rx_pub [.ref (ad 0), .int v] (fk_kW ad cI cT S ++ X) "java/lang/IllegalArgumentException" := by
  refine fk_X_of (cc := cX2_tick) (maxL := 6) (ret := (some .int)) (own := RX2) (by decide) rfl rfl (Nat.le_of_ble_eq_true rfl) ?_
  intro p e s m below meth c A ls hx hb hout hlocks hml hts hown hA hP hK hD hZ hl
  have hS : va_S A s.heap s.heap [] := va_S.rf
  have hl : lv_has ls 6 [(0, .ref (ad 0)), (1, .int v)] := hl
  refine lv_iload_n hx hb dX2_tick_0 rfl (lv_at hl 1 rfl) ?_
  refine lv_iconst (v := 1) hx hb dX2_tick_1 (by decide) ?_
  refine lv_sipush (v := 1000) hx hb dX2_tick_2 (by decide) ?_
  exact fk_xcallS (As := [.int v, .int 1, .int 1000]) (rest := []) ⟨hx, hb, hml, hown, hts⟩ (kx_requireBetween l D ad cI cT cJ X S hst v 1 1000 h) (va_cwS 3 hts gX2_tick_X2_requireBetween rfl rfl rfl (by decide +kernel) ⟨Nat.le_of_ble_eq_true rfl, Nat.le_of_ble_eq_true rfl⟩) hK hP hD hS hA hZ rfl hl.1 rfl (Nat.le_of_ble_eq_true rfl) dX2_tick_5 ⟨Nat.le_of_ble_eq_true rfl, Nat.le_of_ble_eq_true rfl⟩ (fk_thru hout hlocks hK hD)

abbrev rmX2_tick : Room := { frames := 5, cells := 0, slots := 0, locals := 116 }
set_option maxHeartbeats 4000000 in
set_option maxRecDepth 100000 in
theorem kc_tick (l : Launch) (D : va_G) (ad : Nat → Nat) (cI cT cJ : ClassId) (X : va_W) (S : fk_S) (v : Int32) (hm0 : fk_btw v 1 1000 = true) : fk_C l D (fk_ty cI cT cJ) yX2_tick wsX2_tick rmX2_tick [.ref (ad 0), .int v] (fk_kW ad cI cT S ++ X) (some (.int (kk_tickR S v))) (fk_kW ad cI cT (kk_tick S v) ++ X) := by
  refine fk_C_of (cc := cX2_tick) (maxL := 6) (ret := (some .int)) (own := RX2) (by decide) rfl rfl (Nat.le_of_ble_eq_true rfl) ?_
  intro p e s m below meth c A ls hx hb hr hlocks hml hts hown hA hP hK hD hl
  have hS : va_S A s.heap s.heap [] := va_S.rf
  have hl : lv_has ls 6 [(0, .ref (ad 0)), (1, .int v)] := hl
  have hiX1 : ∀ w ∈ u_ws RX1 TX1 11, w ∈ wsX2_tick := by decide +kernel
  have hiX2 : ∀ w ∈ u_ws RX2 TX2 6, w ∈ wsX2_tick := by decide +kernel
  refine lv_iload_n hx hb dX2_tick_0 rfl (lv_at hl 1 rfl) ?_
  refine lv_iconst (v := 1) hx hb dX2_tick_1 (by decide) ?_
  refine lv_sipush (v := 1000) hx hb dX2_tick_2 (by decide) ?_
  refine fk_callS (As := [.int v, .int 1, .int 1000]) (rest := []) ⟨hx, hb, hml, hown, hts⟩ (kc_requireBetween l D ad cI cT cJ X S v 1 1000 hm0) (va_cwS 3 hts gX2_tick_X2_requireBetween rfl rfl rfl (by decide +kernel) ⟨Nat.le_of_ble_eq_true rfl, Nat.le_of_ble_eq_true rfl⟩) hK hP hD hS hA rfl hl.1 rfl (Nat.le_of_ble_eq_true rfl) dX2_tick_5 ⟨Nat.le_of_ble_eq_true rfl, Nat.le_of_ble_eq_true rfl⟩ (fun H locs hP hD hS => ?_)
  refine W.eq (g2 := F0 m 8 ls []) rfl ?_
  refine lv_aload_n hx hb dX2_tick_8 rfl (lv_at hl 0 rfl) ?_
  refine fk_getK hx hb hts hiX2 hown hK hP 2 (by decide) (v := .int (S 12 0)) rfl (List.mem_of_getElem? (i := 1) rfl) rfl dX2_tick_9 ?_
  refine lv_iload_n hx hb dX2_tick_12 rfl (lv_at hl 1 rfl) ?_
  refine lv_iadd hx hb dX2_tick_13 ?_
  refine lv_istore_n (lv' := [(2, .int ((S 12 0) + v)), (0, .ref (ad 0)), (1, .int v)]) hx hb dX2_tick_14 rfl hl (by decide) rfl (fun ls hl => ?_)
  refine lv_iconst (v := 0) hx hb dX2_tick_15 (by decide) ?_
  refine lv_istore_n (lv' := [(3, .int 0), (2, .int ((S 12 0) + v)), (0, .ref (ad 0)), (1, .int v)]) hx hb dX2_tick_16 rfl hl (by decide) rfl (fun ls hl => ?_)
  refine lv_iconst (v := 0) hx hb dX2_tick_17 (by decide) ?_
  refine lv_istore (lv' := [(4, .int 0), (3, .int 0), (2, .int ((S 12 0) + v)), (0, .ref (ad 0)), (1, .int v)]) hx hb dX2_tick_18 hl (by decide) rfl (fun ls hl => ?_)
  have loop : ∀ (n : Nat) (i j : Nat) (S1 : fk_S), i + n = 8 → (kk_tickL (S 12 0 + v) n S1).2 = (kk_tickL (S 12 0 + v) 8 S).2 → j + (kk_tickL (S 12 0 + v) n S1).1 = (kk_tickL (S 12 0 + v) 8 S).1 → ∀ (H : Heap) (locs : List Loc) (ls : Array Slot), va_P D vwCl (fk_kW ad cI cT S1 ++ X) H → va_D A (fk_kW ad cI cT S1 ++ X) → va_S A s.heap H locs → lv_has ls 6 [(4, .int (nI i)), (3, .int (nI j)), (2, .int (S 12 0 + v)), (0, .ref (ad 0)), (1, .int v)] → W p l e rmX2_tick s m ([.ref (ad 0), .int v] : List Value).toArray below meth c H locs 0 0 (fk_Q below D (fk_ty cI cT cJ) [.ref (ad 0), .int v] s A (fk_kW ad cI cT (kk_tick S v) ++ X) (some (.int (kk_tickR S v)))) (F0 m 20 ls []) := by
    intro n
    induction n with
    | zero =>
      intro i j S1 hi h2 h1 H locs ls hP hD hS hl
      refine lv_iload hx hb dX2_tick_20 (lv_at hl 0 rfl) ?_
      refine lv_bipush (v := 8) hx hb dX2_tick_22 (by decide) ?_
      refine lv_icmp_ge (tgt := 66) hx hb dX2_tick_24 (by decide) (fun c_1 => ?_) (fun c_1 => absurd (nI_le (a := 8) (b := i) (by omega) (by omega)) c_1)
      refine lv_aload_n hx hb dX2_tick_66 rfl (lv_at hl 3 rfl) ?_
      refine lv_iload_n hx hb dX2_tick_67 rfl (lv_at hl 2 rfl) ?_
      refine fk_putK (v := (S 12 0 + v)) hx hb hts hiX2 hown hK hP hD hS 0 (by decide) (by simp [fk_fK, fk_up]) (List.mem_of_getElem? (i := 1) rfl) rfl rfl (by decide +kernel) dX2_tick_68 (fun H locs hP hD hS => ?_)
      refine lv_iload_n hx hb dX2_tick_71 rfl (lv_at hl 1 rfl) ?_
      exact fk_iret hx hb hr hlocks hP hK hD hS (congrArg (fun z => fk_kW ad cI cT z ++ X) (by simp only [kk_tick, ← h2]; rfl)) (by simp only [kk_tickR, ← h1]; rfl) dX2_tick_72
    | succ n ih =>
      intro i j S1 hi h2 h1 H locs ls hP hD hS hl
      refine lv_iload hx hb dX2_tick_20 (lv_at hl 0 rfl) ?_
      refine lv_bipush (v := 8) hx hb dX2_tick_22 (by decide) ?_
      refine lv_icmp_ge (tgt := 66) hx hb dX2_tick_24 (by decide) (fun c_2 => absurd c_2 (nI_ge (a := i) (b := 8) (by omega) (by omega))) (fun c_2 => ?_)
      refine lv_aload_n hx hb dX2_tick_27 rfl (lv_at hl 3 rfl) ?_
      refine fk_callV (As := []) (rest := []) ⟨hx, hb, hml, hown, hts⟩ (kc_firstToTimeOut l D ad cI cT cJ X S1) (cwV 0 hts gX2_tick_X2_firstToTimeOut rfl rfl rfl (by decide +kernel) ⟨Nat.le_of_ble_eq_true rfl, Nat.le_of_ble_eq_true rfl⟩) (fk_rvK hK hP) hK hP hD hS hA rfl hl.1 rfl (Nat.le_of_ble_eq_true rfl) dX2_tick_28 ⟨Nat.le_of_ble_eq_true rfl, Nat.le_of_ble_eq_true rfl⟩ (fun H locs hP hD hS => ?_)
      rcases o_3 : kk_next S1 with _ | u4
      · refine W.eq (g2 := F0 m 31 ls [.null]) (by first | rfl | (rw [o_3]; rfl)) ?_
        refine lv_astoreN (lv' := [(5, .null), (4, .int (nI i)), (3, .int (nI j)), (2, .int (S 12 0 + v)), (0, .ref (ad 0)), (1, .int v)]) hx hb dX2_tick_31 hl (by decide) rfl (fun ls hl => ?_)
        refine lv_aloadN hx hb dX2_tick_33 (lv_at hl 0 rfl) ?_
        refine lv_ifnullN (tgt := 66) hx hb dX2_tick_35 (by decide) ?_
        refine lv_aload_n hx hb dX2_tick_66 rfl (lv_at hl 4 rfl) ?_
        refine lv_iload_n hx hb dX2_tick_67 rfl (lv_at hl 3 rfl) ?_
        refine fk_putK (v := (S 12 0 + v)) hx hb hts hiX2 hown hK hP hD hS 0 (by decide) (by simp [fk_fK, fk_up]) (List.mem_of_getElem? (i := 1) rfl) rfl rfl (by decide +kernel) dX2_tick_68 (fun H locs hP hD hS => ?_)
        refine lv_iload_n hx hb dX2_tick_71 rfl (lv_at hl 2 rfl) ?_
        exact fk_iret hx hb hr hlocks hP hK hD hS (congrArg (fun z => fk_kW ad cI cT z ++ X) (by have e9 : kk_tickL (S 12 0 + v) (n + 1) S1 = (0, S1) := (by simp only [kk_tickL, o_3]); unfold kk_tick; rw [← h2, e9])) (by have e9 : kk_tickL (S 12 0 + v) (n + 1) S1 = (0, S1) := (by simp only [kk_tickL, o_3]); unfold kk_tickR; rw [← h1, e9]; rfl) dX2_tick_72
      · have hu_5 : u4 < 8 := kk_next_lt o_3
        refine W.eq (g2 := F0 m 31 ls [.ref (ad (3 + u4))]) (by first | rfl | (rw [o_3]; rfl)) ?_
        refine lv_astore (lv' := [(5, .ref (ad (3 + u4))), (4, .int (nI i)), (3, .int (nI j)), (2, .int (S 12 0 + v)), (0, .ref (ad 0)), (1, .int v)]) hx hb dX2_tick_31 hl (by decide) rfl (fun ls hl => ?_)
        refine lv_aload hx hb dX2_tick_33 (lv_at hl 0 rfl) ?_
        refine lv_ifnull hx hb dX2_tick_35 ?_
        refine lv_aload hx hb dX2_tick_38 (lv_at hl 0 rfl) ?_
        refine fk_getT hx hb hts hiX1 hown hK hP hu_5 6 (by decide) (v := .int (S1 5 u4)) rfl (List.mem_of_getElem? (i := 2) rfl) rfl dX2_tick_40 ?_
        refine lv_iload_n hx hb dX2_tick_43 rfl (lv_at hl 3 rfl) ?_
        refine lv_icmp_le (tgt := 50) hx hb dX2_tick_44 (by decide) (fun c_6 => ?_) (fun c_6 => ?_)
        · refine lv_aload_n hx hb dX2_tick_50 rfl (lv_at hl 4 rfl) ?_
          refine lv_aload hx hb dX2_tick_51 (lv_at hl 0 rfl) ?_
          refine lv_iconst (v := 1) hx hb dX2_tick_53 (by decide) ?_
          refine fk_callV (As := [.ref (ad (3 + u4)), .int 1]) (rest := []) ⟨hx, hb, hml, hown, hts⟩ (kc_endWait l D ad cI cT cJ X S1 u4 1 hu_5) (cwV 2 hts gX2_tick_X2_endWait rfl rfl rfl (by decide +kernel) ⟨Nat.le_of_ble_eq_true rfl, Nat.le_of_ble_eq_true rfl⟩) (fk_rvK hK hP) hK hP hD hS hA rfl hl.1 rfl (Nat.le_of_ble_eq_true rfl) dX2_tick_54 ⟨Nat.le_of_ble_eq_true rfl, Nat.le_of_ble_eq_true rfl⟩ (fun H locs hP hD hS => ?_)
          refine W.eq (g2 := F0 m 57 ls []) rfl ?_
          refine lv_iinc (v := (nI (j + 1))) (lv' := [(3, .int (nI (j + 1))), (5, .ref (ad (3 + u4))), (4, .int (nI i)), (2, .int (S 12 0 + v)), (0, .ref (ad 0)), (1, .int v)]) hx hb dX2_tick_57 hl (k := 2) rfl (nI_1 j) (by decide) rfl (fun ls hl => ?_)
          refine lv_iinc (v := (nI (i + 1))) (lv' := [(4, .int (nI (i + 1))), (3, .int (nI (j + 1))), (5, .ref (ad (3 + u4))), (2, .int (S 12 0 + v)), (0, .ref (ad 0)), (1, .int v)]) hx hb dX2_tick_60 hl (k := 2) rfl (nI_1 i) (by decide) rfl (fun ls hl => ?_)
          refine lv_goto (tgt := 20) hx hb dX2_tick_63 (by decide) ?_
          exact ih (i + 1) (j + 1) (kk_end S1 u4 1) (by omega) (by rw [← h2]; simp only [kk_tickL, o_3]; rw [if_pos c_6]) (by rw [← h1]; simp only [kk_tickL, o_3]; rw [if_pos c_6]; omega) _ _ _ hP hD hS (lv_sub hl [0, 1, 3, 4, 5] rfl)
        · refine lv_goto (tgt := 66) hx hb dX2_tick_47 (by decide) ?_
          refine lv_aload_n hx hb dX2_tick_66 rfl (lv_at hl 4 rfl) ?_
          refine lv_iload_n hx hb dX2_tick_67 rfl (lv_at hl 3 rfl) ?_
          refine fk_putK (v := (S 12 0 + v)) hx hb hts hiX2 hown hK hP hD hS 0 (by decide) (by simp [fk_fK, fk_up]) (List.mem_of_getElem? (i := 1) rfl) rfl rfl (by decide +kernel) dX2_tick_68 (fun H locs hP hD hS => ?_)
          refine lv_iload_n hx hb dX2_tick_71 rfl (lv_at hl 2 rfl) ?_
          exact fk_iret hx hb hr hlocks hP hK hD hS (congrArg (fun z => fk_kW ad cI cT z ++ X) (by have e9 : kk_tickL (S 12 0 + v) (n + 1) S1 = (0, S1) := (by simp only [kk_tickL, o_3]; rw [if_neg c_6]); unfold kk_tick; rw [← h2, e9])) (by have e9 : kk_tickL (S 12 0 + v) (n + 1) S1 = (0, S1) := (by simp only [kk_tickL, o_3]; rw [if_neg c_6]); unfold kk_tickR; rw [← h1, e9]; rfl) dX2_tick_72
  exact loop 8 0 0 S rfl rfl (by omega) _ _ _ hP hD hS (lv_sub hl [0, 1, 2, 3, 4] rfl)

set_option maxHeartbeats 4000000 in
set_option maxRecDepth 100000 in
theorem kx_waiters_1 (l : Launch) (D : va_G) (ad : Nat → Nat) (cI cT cJ : ClassId) (X : va_W) (S : fk_S) (hst : l.stackTraces = false) (av : Int32) (h : fk_isA av = false) : fk_X l D (fk_ty cI cT cJ) yX2_waiters wsX2_waiters rx_pub [.ref (ad 0), .int av] (fk_kW ad cI cT S ++ X) "java/lang/IndexOutOfBoundsException" := by
  refine fk_X_of (cc := cX2_waiters) (maxL := 7) (ret := (some .int)) (own := RX2) (by decide) rfl rfl (Nat.le_of_ble_eq_true rfl) ?_
  intro p e s m below meth c A ls hx hb hout hlocks hml hts hown hA hP hK hD hZ hl
  have hS : va_S A s.heap s.heap [] := va_S.rf
  have hl : lv_has ls 7 [(0, .ref (ad 0)), (1, .int av)] := hl
  refine lv_iload_n hx hb dX2_waiters_0 rfl (lv_at hl 1 rfl) ?_
  exact fk_xcallS (As := [.int av]) (rest := []) ⟨hx, hb, hml, hown, hts⟩ (kx_requireAddress l D ad cI cT cJ X S hst av h) (va_cwS 1 hts gX2_waiters_X2_requireAddress rfl rfl rfl (by decide +kernel) ⟨Nat.le_of_ble_eq_true rfl, Nat.le_of_ble_eq_true rfl⟩) hK hP hD hS hA hZ rfl hl.1 rfl (Nat.le_of_ble_eq_true rfl) dX2_waiters_1 ⟨Nat.le_of_ble_eq_true rfl, Nat.le_of_ble_eq_true rfl⟩ (fk_thru hout hlocks hK hD)

abbrev rmX2_waiters : Room := { frames := 2, cells := 0, slots := 0, locals := 40 }
set_option maxHeartbeats 4000000 in
set_option maxRecDepth 100000 in
theorem kc_waiters (l : Launch) (D : va_G) (ad : Nat → Nat) (cI cT cJ : ClassId) (X : va_W) (S : fk_S) (a : Nat) (ha : a < 16) : fk_C l D (fk_ty cI cT cJ) yX2_waiters wsX2_waiters rmX2_waiters [.ref (ad 0), .int (nI a)] (fk_kW ad cI cT S ++ X) (some (.int (kk_waiters S (nI a)))) (fk_kW ad cI cT S ++ X) := by
  refine fk_C_of (cc := cX2_waiters) (maxL := 7) (ret := (some .int)) (own := RX2) (by decide) rfl rfl (Nat.le_of_ble_eq_true rfl) ?_
  intro p e s m below meth c A ls hx hb hr hlocks hml hts hown hA hP hK hD hl
  have hS : va_S A s.heap s.heap [] := va_S.rf
  have hl : lv_has ls 7 [(0, .ref (ad 0)), (1, .int (nI a))] := hl
  have hiX1 : ∀ w ∈ u_ws RX1 TX1 11, w ∈ wsX2_waiters := by decide +kernel
  have hiX2 : ∀ w ∈ u_ws RX2 TX2 6, w ∈ wsX2_waiters := by decide +kernel
  refine lv_iload_n hx hb dX2_waiters_0 rfl (lv_at hl 1 rfl) ?_
  refine fk_callS (As := [.int (nI a)]) (rest := []) ⟨hx, hb, hml, hown, hts⟩ (kc_requireAddress l D ad cI cT cJ X S a (by omega)) (va_cwS 1 hts gX2_waiters_X2_requireAddress rfl rfl rfl (by decide +kernel) ⟨Nat.le_of_ble_eq_true rfl, Nat.le_of_ble_eq_true rfl⟩) hK hP hD hS hA rfl hl.1 rfl (Nat.le_of_ble_eq_true rfl) dX2_waiters_1 ⟨Nat.le_of_ble_eq_true rfl, Nat.le_of_ble_eq_true rfl⟩ (fun H locs hP hD hS => ?_)
  refine W.eq (g2 := F0 m 4 ls []) rfl ?_
  refine lv_iconst (v := 0) hx hb dX2_waiters_4 (by decide) ?_
  refine lv_istore_n (lv' := [(2, .int 0), (0, .ref (ad 0)), (1, .int (nI a))]) hx hb dX2_waiters_5 rfl hl (by decide) rfl (fun ls hl => ?_)
  refine lv_aload_n hx hb dX2_waiters_6 rfl (lv_at hl 1 rfl) ?_
  refine fk_getK hx hb hts hiX2 hown hK hP 1 (by decide) (v := .ref (ad 2)) rfl (List.mem_of_getElem? (i := 1) rfl) rfl dX2_waiters_7 ?_
  refine lv_astore_n (lv' := [(3, .ref (ad 2)), (2, .int 0), (0, .ref (ad 0)), (1, .int (nI a))]) hx hb dX2_waiters_10 rfl hl (by decide) rfl (fun ls hl => ?_)
  refine lv_aload_n hx hb dX2_waiters_11 rfl (lv_at hl 0 rfl) ?_
  refine fk_lenA hx hb hK hP dX2_waiters_12 ?_
  refine lv_istore (lv' := [(4, .int 8), (3, .ref (ad 2)), (2, .int 0), (0, .ref (ad 0)), (1, .int (nI a))]) hx hb dX2_waiters_13 hl (by decide) rfl (fun ls hl => ?_)
  refine lv_iconst (v := 0) hx hb dX2_waiters_15 (by decide) ?_
  refine lv_istore (lv' := [(5, .int 0), (4, .int 8), (3, .ref (ad 2)), (2, .int 0), (0, .ref (ad 0)), (1, .int (nI a))]) hx hb dX2_waiters_16 hl (by decide) rfl (fun ls hl => ?_)
  have loop : ∀ (n : Nat) (i : Nat) (x : Int32), i + n = 8 → fk_lp (kk_cnt1 (fun u => decide (S 3 u = nI a))) n i x = kk_waiters S (nI a) → ∀ (H : Heap) (locs : List Loc) (ls : Array Slot), va_P D vwCl (fk_kW ad cI cT S ++ X) H → va_D A (fk_kW ad cI cT S ++ X) → va_S A s.heap H locs → lv_has ls 7 [(2, .int x), (0, .ref (ad 0)), (1, .int (nI a)), (3, .ref (ad 2)), (4, .int 8), (5, .int (nI i))] → W p l e rmX2_waiters s m ([.ref (ad 0), .int (nI a)] : List Value).toArray below meth c H locs 0 0 (fk_Q below D (fk_ty cI cT cJ) [.ref (ad 0), .int (nI a)] s A (fk_kW ad cI cT S ++ X) (some (.int (kk_waiters S (nI a))))) (F0 m 18 ls []) := by
    intro n
    induction n with
    | zero =>
      intro i x hi hR H locs ls hP hD hS hl
      refine lv_iload hx hb dX2_waiters_18 (lv_at hl 5 rfl) ?_
      refine lv_iload hx hb dX2_waiters_20 (lv_at hl 4 rfl) ?_
      refine lv_icmp_ge (tgt := 49) hx hb dX2_waiters_22 (by decide) (fun c_1 => ?_) (fun c_1 => absurd (nI_le (a := 8) (b := i) (by omega) (by omega)) c_1)
      refine lv_iload_n hx hb dX2_waiters_49 rfl (lv_at hl 0 rfl) ?_
      exact fk_iret hx hb hr hlocks hP hK hD hS (congrArg (fun z => fk_kW ad cI cT z ++ X) (by first | rfl | simp [c_1])) (by rw [← hR]; rfl) dX2_waiters_50
    | succ n ih =>
      intro i x hi hR H locs ls hP hD hS hl
      refine lv_iload hx hb dX2_waiters_18 (lv_at hl 5 rfl) ?_
      refine lv_iload hx hb dX2_waiters_20 (lv_at hl 4 rfl) ?_
      refine lv_icmp_ge (tgt := 49) hx hb dX2_waiters_22 (by decide) (fun c_2 => absurd c_2 (nI_ge (a := i) (b := 8) (by omega) (by omega))) (fun c_2 => ?_)
      refine lv_aload_n hx hb dX2_waiters_25 rfl (lv_at hl 3 rfl) ?_
      refine lv_iload hx hb dX2_waiters_26 (lv_at hl 5 rfl) ?_
      refine fk_ldA hx hb hK hP (vp_in_nI (show i < 8 from (by omega)) (by decide)) dX2_waiters_28 ?_
      refine W.eq (g2 := F0 m 29 ls [.ref (ad (3 + i))]) (by rw [nI_clamp (by omega)]) ?_
      refine lv_astore (lv' := [(6, .ref (ad (3 + i))), (2, .int x), (0, .ref (ad 0)), (1, .int (nI a)), (3, .ref (ad 2)), (4, .int 8), (5, .int (nI i))]) hx hb dX2_waiters_29 hl (by decide) rfl (fun ls hl => ?_)
      refine lv_aload hx hb dX2_waiters_31 (lv_at hl 0 rfl) ?_
      refine fk_getT hx hb hts hiX1 hown hK hP (by omega) 4 (by decide) (v := .int (S 3 i)) rfl (List.mem_of_getElem? (i := 2) rfl) rfl dX2_waiters_33 ?_
      refine lv_iload_n hx hb dX2_waiters_36 rfl (lv_at hl 3 rfl) ?_
      refine lv_icmp_ne (tgt := 43) hx hb dX2_waiters_37 (by decide) (fun c_3 => ?_) (fun c_3 => ?_)
      · refine lv_iinc (v := (nI (i + 1))) (lv' := [(5, .int (nI (i + 1))), (6, .ref (ad (3 + i))), (2, .int x), (0, .ref (ad 0)), (1, .int (nI a)), (3, .ref (ad 2)), (4, .int 8)]) hx hb dX2_waiters_43 hl (k := 6) rfl (nI_1 i) (by decide) rfl (fun ls hl => ?_)
        refine lv_goto (tgt := 18) hx hb dX2_waiters_46 (by decide) ?_
        exact ih (i + 1) x (by omega) ((congrArg (fk_lp _ n (i + 1)) (show x = kk_cnt1 (fun u => decide (S 3 u = nI a)) i x from by simp [kk_cnt1, c_3])).trans hR) _ _ _ hP hD hS (lv_sub hl [2, 3, 4, 5, 6, 0] rfl)
      · refine lv_iinc (v := (x + 1)) (lv' := [(2, .int (x + 1)), (6, .ref (ad (3 + i))), (0, .ref (ad 0)), (1, .int (nI a)), (3, .ref (ad 2)), (4, .int 8), (5, .int (nI i))]) hx hb dX2_waiters_40 hl (k := 1) rfl rfl (by decide) rfl (fun ls hl => ?_)
        refine lv_iinc (v := (nI (i + 1))) (lv' := [(5, .int (nI (i + 1))), (2, .int (x + 1)), (6, .ref (ad (3 + i))), (0, .ref (ad 0)), (1, .int (nI a)), (3, .ref (ad 2)), (4, .int 8)]) hx hb dX2_waiters_43 hl (k := 6) rfl (nI_1 i) (by decide) rfl (fun ls hl => ?_)
        refine lv_goto (tgt := 18) hx hb dX2_waiters_46 (by decide) ?_
        exact ih (i + 1) (x + 1) (by omega) ((congrArg (fk_lp _ n (i + 1)) (show (x + 1) = kk_cnt1 (fun u => decide (S 3 u = nI a)) i x from by simp [kk_cnt1, c_3])).trans hR) _ _ _ hP hD hS (lv_sub hl [1, 3, 4, 5, 6, 0] rfl)
  exact loop 8 0 0 rfl rfl _ _ _ hP hD hS (lv_sub hl [3, 4, 5, 2, 1, 0] rfl)

set_option maxHeartbeats 4000000 in
set_option maxRecDepth 100000 in
theorem kx_waiterAt_1 (l : Launch) (D : va_G) (ad : Nat → Nat) (cI cT cJ : ClassId) (X : va_W) (S : fk_S) (hst : l.stackTraces = false) (av q : Int32) (h : fk_isA av = false) : fk_X l D (fk_ty cI cT cJ) yX2_waiterAt wsX2_waiterAt rx_pub [.ref (ad 0), .int av, .int q] (fk_kW ad cI cT S ++ X) "java/lang/IndexOutOfBoundsException" := by
  refine fk_X_of (cc := cX2_waiterAt) (maxL := 7) (ret := (some .int)) (own := RX2) (by decide) rfl rfl (Nat.le_of_ble_eq_true rfl) ?_
  intro p e s m below meth c A ls hx hb hout hlocks hml hts hown hA hP hK hD hZ hl
  have hS : va_S A s.heap s.heap [] := va_S.rf
  have hl : lv_has ls 7 [(0, .ref (ad 0)), (1, .int av), (2, .int q)] := hl
  refine lv_iload_n hx hb dX2_waiterAt_0 rfl (lv_at hl 1 rfl) ?_
  exact fk_xcallS (As := [.int av]) (rest := []) ⟨hx, hb, hml, hown, hts⟩ (kx_requireAddress l D ad cI cT cJ X S hst av h) (va_cwS 1 hts gX2_waiterAt_X2_requireAddress rfl rfl rfl (by decide +kernel) ⟨Nat.le_of_ble_eq_true rfl, Nat.le_of_ble_eq_true rfl⟩) hK hP hD hS hA hZ rfl hl.1 rfl (Nat.le_of_ble_eq_true rfl) dX2_waiterAt_1 ⟨Nat.le_of_ble_eq_true rfl, Nat.le_of_ble_eq_true rfl⟩ (fk_thru hout hlocks hK hD)

set_option maxHeartbeats 4000000 in
set_option maxRecDepth 100000 in
theorem kx_waiterAt_2 (l : Launch) (D : va_G) (ad : Nat → Nat) (cI cT cJ : ClassId) (X : va_W) (S : fk_S) (hst : l.stackTraces = false) (a : Nat) (ha : a < 16) (q : Int32) (h : kk_wAt S (nI a) q = none) : fk_X l D (fk_ty cI cT cJ) yX2_waiterAt wsX2_waiterAt rx_pub [.ref (ad 0), .int (nI a), .int q] (fk_kW ad cI cT S ++ X) "java/lang/IndexOutOfBoundsException" := by
  refine fk_X_of (cc := cX2_waiterAt) (maxL := 7) (ret := (some .int)) (own := RX2) (by decide) rfl rfl (Nat.le_of_ble_eq_true rfl) ?_
  intro p e s m below meth c A ls hx hb hout hlocks hml hts hown hA hP hK hD hZ hl
  have hS : va_S A s.heap s.heap [] := va_S.rf
  have hl : lv_has ls 7 [(0, .ref (ad 0)), (1, .int (nI a)), (2, .int q)] := hl
  have hiX1 : ∀ w ∈ u_ws RX1 TX1 11, w ∈ wsX2_waiterAt := by decide +kernel
  have hiX2 : ∀ w ∈ u_ws RX2 TX2 6, w ∈ wsX2_waiterAt := by decide +kernel
  refine lv_iload_n hx hb dX2_waiterAt_0 rfl (lv_at hl 1 rfl) ?_
  refine fk_callS (As := [.int (nI a)]) (rest := []) ⟨hx, hb, hml, hown, hts⟩ (kc_requireAddress l D ad cI cT cJ X S a (by omega)) (va_cwS 1 hts gX2_waiterAt_X2_requireAddress rfl rfl rfl (by decide +kernel) ⟨Nat.le_of_ble_eq_true rfl, Nat.le_of_ble_eq_true rfl⟩) hK hP hD hS hA rfl hl.1 rfl (Nat.le_of_ble_eq_true rfl) dX2_waiterAt_1 ⟨Nat.le_of_ble_eq_true rfl, Nat.le_of_ble_eq_true rfl⟩ (fun H locs hP hD hS => ?_)
  refine W.eq (g2 := F0 m 4 ls []) rfl ?_
  refine lv_aload_n hx hb dX2_waiterAt_4 rfl (lv_at hl 0 rfl) ?_
  refine fk_getK hx hb hts hiX2 hown hK hP 1 (by decide) (v := .ref (ad 2)) rfl (List.mem_of_getElem? (i := 3) rfl) rfl dX2_waiterAt_5 ?_
  refine lv_astore_n (lv' := [(3, .ref (ad 2)), (0, .ref (ad 0)), (1, .int (nI a)), (2, .int q)]) hx hb dX2_waiterAt_8 rfl hl (by decide) rfl (fun ls hl => ?_)
  refine lv_aload_n hx hb dX2_waiterAt_9 rfl (lv_at hl 0 rfl) ?_
  refine fk_lenA hx hb hK hP dX2_waiterAt_10 ?_
  refine lv_istore (lv' := [(4, .int 8), (3, .ref (ad 2)), (0, .ref (ad 0)), (1, .int (nI a)), (2, .int q)]) hx hb dX2_waiterAt_11 hl (by decide) rfl (fun ls hl => ?_)
  refine lv_iconst (v := 0) hx hb dX2_waiterAt_13 (by decide) ?_
  refine lv_istore (lv' := [(5, .int 0), (4, .int 8), (3, .ref (ad 2)), (0, .ref (ad 0)), (1, .int (nI a)), (2, .int q)]) hx hb dX2_waiterAt_14 hl (by decide) rfl (fun ls hl => ?_)
  have loop : ∀ (n : Nat) (i : Nat), i + n = 8 → fk_seek (fun u => decide (S 3 u = nI a) && decide (kk_cntA S u = q)) n i = none → ∀ (H : Heap) (locs : List Loc) (ls : Array Slot), va_P D vwCl (fk_kW ad cI cT S ++ X) H → va_D A (fk_kW ad cI cT S ++ X) → va_S A s.heap H locs → lv_has ls 7 [(0, .ref (ad 0)), (1, .int (nI a)), (2, .int q), (3, .ref (ad 2)), (4, .int 8), (5, .int (nI i))] → W p l e rx_pub s m ([.ref (ad 0), .int (nI a), .int q] : List Value).toArray below meth c H locs 0 0 (fk_QX below D (fk_ty cI cT cJ) [.ref (ad 0), .int (nI a), .int q] s A (fk_kW ad cI cT S ++ X) "java/lang/IndexOutOfBoundsException") (F0 m 16 ls []) := by
    intro n
    induction n with
    | zero =>
      intro i hi hR H locs ls hP hD hS hl
      refine lv_iload hx hb dX2_waiterAt_16 (lv_at hl 5 rfl) ?_
      refine lv_iload hx hb dX2_waiterAt_18 (lv_at hl 4 rfl) ?_
      refine lv_icmp_ge (tgt := 60) hx hb dX2_waiterAt_20 (by decide) (fun c_1 => ?_) (fun c_1 => absurd (nI_le (a := 8) (b := i) (by omega) (by omega)) c_1)
      exact fk_throw (cls := "java/lang/IndexOutOfBoundsException") (text := "no such place") (ik := 105) (is := 107) (ic := 109) (rest := []) hx hb hst hown (by decide +kernel) (hts _ (List.mem_of_getElem? (i := 1) rfl)) (hts _ (List.mem_of_getElem? (i := 2) rfl)) (by decide +kernel) (vx_hat (fun w h => hts w (List.mem_cons_of_mem _ (List.mem_append_right _ h))) fk_b109 (fun w h => va_Nw.use (fk_dc_on (fk_bad_dc w h)) (hZ.2.2.2 w h))) fk_b109g hZ hK hP hD hS (hl.1.trans hml.symm) hout hlocks dX2_waiterAt_60 dX2_waiterAt_63 dX2_waiterAt_64 dX2_waiterAt_66 dX2_waiterAt_69 ⟨Nat.le_of_ble_eq_true rfl, Nat.le_of_ble_eq_true rfl, Nat.le_of_ble_eq_true rfl, Nat.le_of_ble_eq_true rfl⟩
    | succ n ih =>
      intro i hi hR H locs ls hP hD hS hl
      refine lv_iload hx hb dX2_waiterAt_16 (lv_at hl 5 rfl) ?_
      refine lv_iload hx hb dX2_waiterAt_18 (lv_at hl 4 rfl) ?_
      refine lv_icmp_ge (tgt := 60) hx hb dX2_waiterAt_20 (by decide) (fun c_2 => absurd c_2 (nI_ge (a := i) (b := 8) (by omega) (by omega))) (fun c_2 => ?_)
      refine lv_aload_n hx hb dX2_waiterAt_23 rfl (lv_at hl 3 rfl) ?_
      refine lv_iload hx hb dX2_waiterAt_24 (lv_at hl 5 rfl) ?_
      refine fk_ldA hx hb hK hP (vp_in_nI (show i < 8 from (by omega)) (by decide)) dX2_waiterAt_26 ?_
      refine W.eq (g2 := F0 m 27 ls [.ref (ad (3 + i))]) (by rw [nI_clamp (by omega)]) ?_
      refine lv_astore (lv' := [(6, .ref (ad (3 + i))), (0, .ref (ad 0)), (1, .int (nI a)), (2, .int q), (3, .ref (ad 2)), (4, .int 8), (5, .int (nI i))]) hx hb dX2_waiterAt_27 hl (by decide) rfl (fun ls hl => ?_)
      refine lv_aload hx hb dX2_waiterAt_29 (lv_at hl 0 rfl) ?_
      refine fk_getT hx hb hts hiX1 hown hK hP (by omega) 4 (by decide) (v := .int (S 3 i)) rfl (List.mem_of_getElem? (i := 4) rfl) rfl dX2_waiterAt_31 ?_
      refine lv_iload_n hx hb dX2_waiterAt_34 rfl (lv_at hl 2 rfl) ?_
      refine lv_icmp_ne (tgt := 54) hx hb dX2_waiterAt_35 (by decide) (fun c_3 => ?_) (fun c_3 => ?_)
      · refine lv_iinc (v := (nI (i + 1))) (lv' := [(5, .int (nI (i + 1))), (6, .ref (ad (3 + i))), (0, .ref (ad 0)), (1, .int (nI a)), (2, .int q), (3, .ref (ad 2)), (4, .int 8)]) hx hb dX2_waiterAt_54 hl (k := 6) rfl (nI_1 i) (by decide) rfl (fun ls hl => ?_)
        refine lv_goto (tgt := 16) hx hb dX2_waiterAt_57 (by decide) ?_
        exact ih (i + 1) (by omega) (by rw [← hR]; simp [fk_seek, c_3]) _ _ _ hP hD hS (lv_sub hl [2, 3, 4, 5, 6, 0] rfl)
      · refine lv_aload_n hx hb dX2_waiterAt_38 rfl (lv_at hl 1 rfl) ?_
        refine lv_aload hx hb dX2_waiterAt_39 (lv_at hl 0 rfl) ?_
        refine fk_callV (As := [.ref (ad (3 + i))]) (rest := []) ⟨hx, hb, hml, hown, hts⟩ (kc_countAheadAtAddress l D ad cI cT cJ X S i (by omega)) (cwV 1 hts gX2_waiterAt_X2_countAheadAtAddress rfl rfl rfl (by decide +kernel) ⟨Nat.le_of_ble_eq_true rfl, Nat.le_of_ble_eq_true rfl⟩) (fk_rvK hK hP) hK hP hD hS hA rfl hl.1 rfl (Nat.le_of_ble_eq_true rfl) dX2_waiterAt_41 ⟨Nat.le_of_ble_eq_true rfl, Nat.le_of_ble_eq_true rfl⟩ (fun H locs hP hD hS => ?_)
        refine W.eq (g2 := F0 m 44 ls [.int (kk_cntA S i)]) rfl ?_
        refine lv_iload_n hx hb dX2_waiterAt_44 rfl (lv_at hl 3 rfl) ?_
        refine lv_icmp_ne (tgt := 54) hx hb dX2_waiterAt_45 (by decide) (fun c_4 => ?_) (fun c_4 => ?_)
        · refine lv_iinc (v := (nI (i + 1))) (lv' := [(5, .int (nI (i + 1))), (6, .ref (ad (3 + i))), (0, .ref (ad 0)), (1, .int (nI a)), (2, .int q), (3, .ref (ad 2)), (4, .int 8)]) hx hb dX2_waiterAt_54 hl (k := 6) rfl (nI_1 i) (by decide) rfl (fun ls hl => ?_)
          refine lv_goto (tgt := 16) hx hb dX2_waiterAt_57 (by decide) ?_
          exact ih (i + 1) (by omega) (by rw [← hR]; simp [fk_seek, c_3, c_4]) _ _ _ hP hD hS (lv_sub hl [2, 3, 4, 5, 6, 0] rfl)
        · exact absurd hR (by simp [fk_seek, c_3, c_4])
  exact loop 8 0 rfl h _ _ _ hP hD hS (lv_sub hl [3, 4, 5, 2, 1, 0] rfl)

abbrev rmX2_waiterAt : Room := { frames := 2, cells := 0, slots := 0, locals := 47 }
set_option maxHeartbeats 4000000 in
set_option maxRecDepth 100000 in
theorem kc_waiterAt (l : Launch) (D : va_G) (ad : Nat → Nat) (cI cT cJ : ClassId) (X : va_W) (S : fk_S) (a : Nat) (ha : a < 16) (q : Int32) (u : Nat) (h : kk_wAt S (nI a) q = some u) : fk_C l D (fk_ty cI cT cJ) yX2_waiterAt wsX2_waiterAt rmX2_waiterAt [.ref (ad 0), .int (nI a), .int q] (fk_kW ad cI cT S ++ X) (some (.int (nI u))) (fk_kW ad cI cT S ++ X) := by
  refine fk_C_of (cc := cX2_waiterAt) (maxL := 7) (ret := (some .int)) (own := RX2) (by decide) rfl rfl (Nat.le_of_ble_eq_true rfl) ?_
  intro p e s m below meth c A ls hx hb hr hlocks hml hts hown hA hP hK hD hl
  have hS : va_S A s.heap s.heap [] := va_S.rf
  have hl : lv_has ls 7 [(0, .ref (ad 0)), (1, .int (nI a)), (2, .int q)] := hl
  have hiX1 : ∀ w ∈ u_ws RX1 TX1 11, w ∈ wsX2_waiterAt := by decide +kernel
  have hiX2 : ∀ w ∈ u_ws RX2 TX2 6, w ∈ wsX2_waiterAt := by decide +kernel
  refine lv_iload_n hx hb dX2_waiterAt_0 rfl (lv_at hl 1 rfl) ?_
  refine fk_callS (As := [.int (nI a)]) (rest := []) ⟨hx, hb, hml, hown, hts⟩ (kc_requireAddress l D ad cI cT cJ X S a (by omega)) (va_cwS 1 hts gX2_waiterAt_X2_requireAddress rfl rfl rfl (by decide +kernel) ⟨Nat.le_of_ble_eq_true rfl, Nat.le_of_ble_eq_true rfl⟩) hK hP hD hS hA rfl hl.1 rfl (Nat.le_of_ble_eq_true rfl) dX2_waiterAt_1 ⟨Nat.le_of_ble_eq_true rfl, Nat.le_of_ble_eq_true rfl⟩ (fun H locs hP hD hS => ?_)
  refine W.eq (g2 := F0 m 4 ls []) rfl ?_
  refine lv_aload_n hx hb dX2_waiterAt_4 rfl (lv_at hl 0 rfl) ?_
  refine fk_getK hx hb hts hiX2 hown hK hP 1 (by decide) (v := .ref (ad 2)) rfl (List.mem_of_getElem? (i := 3) rfl) rfl dX2_waiterAt_5 ?_
  refine lv_astore_n (lv' := [(3, .ref (ad 2)), (0, .ref (ad 0)), (1, .int (nI a)), (2, .int q)]) hx hb dX2_waiterAt_8 rfl hl (by decide) rfl (fun ls hl => ?_)
  refine lv_aload_n hx hb dX2_waiterAt_9 rfl (lv_at hl 0 rfl) ?_
  refine fk_lenA hx hb hK hP dX2_waiterAt_10 ?_
  refine lv_istore (lv' := [(4, .int 8), (3, .ref (ad 2)), (0, .ref (ad 0)), (1, .int (nI a)), (2, .int q)]) hx hb dX2_waiterAt_11 hl (by decide) rfl (fun ls hl => ?_)
  refine lv_iconst (v := 0) hx hb dX2_waiterAt_13 (by decide) ?_
  refine lv_istore (lv' := [(5, .int 0), (4, .int 8), (3, .ref (ad 2)), (0, .ref (ad 0)), (1, .int (nI a)), (2, .int q)]) hx hb dX2_waiterAt_14 hl (by decide) rfl (fun ls hl => ?_)
  have loop : ∀ (n : Nat) (i : Nat), i + n = 8 → fk_seek (fun u => decide (S 3 u = nI a) && decide (kk_cntA S u = q)) n i = some u → ∀ (H : Heap) (locs : List Loc) (ls : Array Slot), va_P D vwCl (fk_kW ad cI cT S ++ X) H → va_D A (fk_kW ad cI cT S ++ X) → va_S A s.heap H locs → lv_has ls 7 [(0, .ref (ad 0)), (1, .int (nI a)), (2, .int q), (3, .ref (ad 2)), (4, .int 8), (5, .int (nI i))] → W p l e rmX2_waiterAt s m ([.ref (ad 0), .int (nI a), .int q] : List Value).toArray below meth c H locs 0 0 (fk_Q below D (fk_ty cI cT cJ) [.ref (ad 0), .int (nI a), .int q] s A (fk_kW ad cI cT S ++ X) (some (.int (nI u)))) (F0 m 16 ls []) := by
    intro n
    induction n with
    | zero =>
      intro i hi hR H locs ls hP hD hS hl
      refine lv_iload hx hb dX2_waiterAt_16 (lv_at hl 5 rfl) ?_
      refine lv_iload hx hb dX2_waiterAt_18 (lv_at hl 4 rfl) ?_
      refine lv_icmp_ge (tgt := 60) hx hb dX2_waiterAt_20 (by decide) (fun c_1 => ?_) (fun c_1 => absurd (nI_le (a := 8) (b := i) (by omega) (by omega)) c_1)
      exact absurd hR (by simp [fk_seek])
    | succ n ih =>
      intro i hi hR H locs ls hP hD hS hl
      refine lv_iload hx hb dX2_waiterAt_16 (lv_at hl 5 rfl) ?_
      refine lv_iload hx hb dX2_waiterAt_18 (lv_at hl 4 rfl) ?_
      refine lv_icmp_ge (tgt := 60) hx hb dX2_waiterAt_20 (by decide) (fun c_2 => absurd c_2 (nI_ge (a := i) (b := 8) (by omega) (by omega))) (fun c_2 => ?_)
      refine lv_aload_n hx hb dX2_waiterAt_23 rfl (lv_at hl 3 rfl) ?_
      refine lv_iload hx hb dX2_waiterAt_24 (lv_at hl 5 rfl) ?_
      refine fk_ldA hx hb hK hP (vp_in_nI (show i < 8 from (by omega)) (by decide)) dX2_waiterAt_26 ?_
      refine W.eq (g2 := F0 m 27 ls [.ref (ad (3 + i))]) (by rw [nI_clamp (by omega)]) ?_
      refine lv_astore (lv' := [(6, .ref (ad (3 + i))), (0, .ref (ad 0)), (1, .int (nI a)), (2, .int q), (3, .ref (ad 2)), (4, .int 8), (5, .int (nI i))]) hx hb dX2_waiterAt_27 hl (by decide) rfl (fun ls hl => ?_)
      refine lv_aload hx hb dX2_waiterAt_29 (lv_at hl 0 rfl) ?_
      refine fk_getT hx hb hts hiX1 hown hK hP (by omega) 4 (by decide) (v := .int (S 3 i)) rfl (List.mem_of_getElem? (i := 4) rfl) rfl dX2_waiterAt_31 ?_
      refine lv_iload_n hx hb dX2_waiterAt_34 rfl (lv_at hl 2 rfl) ?_
      refine lv_icmp_ne (tgt := 54) hx hb dX2_waiterAt_35 (by decide) (fun c_3 => ?_) (fun c_3 => ?_)
      · refine lv_iinc (v := (nI (i + 1))) (lv' := [(5, .int (nI (i + 1))), (6, .ref (ad (3 + i))), (0, .ref (ad 0)), (1, .int (nI a)), (2, .int q), (3, .ref (ad 2)), (4, .int 8)]) hx hb dX2_waiterAt_54 hl (k := 6) rfl (nI_1 i) (by decide) rfl (fun ls hl => ?_)
        refine lv_goto (tgt := 16) hx hb dX2_waiterAt_57 (by decide) ?_
        exact ih (i + 1) (by omega) (by rw [← hR]; simp [fk_seek, c_3]) _ _ _ hP hD hS (lv_sub hl [2, 3, 4, 5, 6, 0] rfl)
      · refine lv_aload_n hx hb dX2_waiterAt_38 rfl (lv_at hl 1 rfl) ?_
        refine lv_aload hx hb dX2_waiterAt_39 (lv_at hl 0 rfl) ?_
        refine fk_callV (As := [.ref (ad (3 + i))]) (rest := []) ⟨hx, hb, hml, hown, hts⟩ (kc_countAheadAtAddress l D ad cI cT cJ X S i (by omega)) (cwV 1 hts gX2_waiterAt_X2_countAheadAtAddress rfl rfl rfl (by decide +kernel) ⟨Nat.le_of_ble_eq_true rfl, Nat.le_of_ble_eq_true rfl⟩) (fk_rvK hK hP) hK hP hD hS hA rfl hl.1 rfl (Nat.le_of_ble_eq_true rfl) dX2_waiterAt_41 ⟨Nat.le_of_ble_eq_true rfl, Nat.le_of_ble_eq_true rfl⟩ (fun H locs hP hD hS => ?_)
        refine W.eq (g2 := F0 m 44 ls [.int (kk_cntA S i)]) rfl ?_
        refine lv_iload_n hx hb dX2_waiterAt_44 rfl (lv_at hl 3 rfl) ?_
        refine lv_icmp_ne (tgt := 54) hx hb dX2_waiterAt_45 (by decide) (fun c_4 => ?_) (fun c_4 => ?_)
        · refine lv_iinc (v := (nI (i + 1))) (lv' := [(5, .int (nI (i + 1))), (6, .ref (ad (3 + i))), (0, .ref (ad 0)), (1, .int (nI a)), (2, .int q), (3, .ref (ad 2)), (4, .int 8)]) hx hb dX2_waiterAt_54 hl (k := 6) rfl (nI_1 i) (by decide) rfl (fun ls hl => ?_)
          refine lv_goto (tgt := 16) hx hb dX2_waiterAt_57 (by decide) ?_
          exact ih (i + 1) (by omega) (by rw [← hR]; simp [fk_seek, c_3, c_4]) _ _ _ hP hD hS (lv_sub hl [2, 3, 4, 5, 6, 0] rfl)
        · refine lv_aload hx hb dX2_waiterAt_48 (lv_at hl 0 rfl) ?_
          refine fk_getT hx hb hts hiX1 hown hK hP (by omega) 0 (by decide) (v := .int (nI i)) rfl (List.mem_of_getElem? (i := 5) rfl) rfl dX2_waiterAt_50 ?_
          exact fk_iret hx hb hr hlocks hP hK hD hS (congrArg (fun z => fk_kW ad cI cT z ++ X) (by first | rfl | simp [c_2, c_3, c_4])) (by have h9 := hR; simp [fk_seek, c_3, c_4] at h9; rw [h9]) dX2_waiterAt_53
  exact loop 8 0 rfl h _ _ _ hP hD hS (lv_sub hl [3, 4, 5, 2, 1, 0] rfl)

set_option maxHeartbeats 4000000 in
set_option maxRecDepth 100000 in
theorem kx_queueAt_1 (l : Launch) (D : va_G) (ad : Nat → Nat) (cI cT cJ : ClassId) (X : va_W) (S : fk_S) (hst : l.stackTraces = false) (b q : Int32) (h : ¬ (0 ≤ b ∧ b < 4 ∧ 0 ≤ q)) : fk_X l D (fk_ty cI cT cJ) yX2_queueAt wsX2_queueAt rx_pub [.ref (ad 0), .int b, .int q] (fk_kW ad cI cT S ++ X) "java/lang/IndexOutOfBoundsException" := by
  refine fk_X_of (cc := cX2_queueAt) (maxL := 7) (ret := (some .int)) (own := RX2) (by decide) rfl rfl (Nat.le_of_ble_eq_true rfl) ?_
  intro p e s m below meth c A ls hx hb hout hlocks hml hts hown hA hP hK hD hZ hl
  have hS : va_S A s.heap s.heap [] := va_S.rf
  have hl : lv_has ls 7 [(0, .ref (ad 0)), (1, .int b), (2, .int q)] := hl
  refine lv_iload_n hx hb dX2_queueAt_0 rfl (lv_at hl 1 rfl) ?_
  refine lv_if_lt (tgt := 13) hx hb dX2_queueAt_1 (by decide) (fun c_1 => ?_) (fun c_1 => ?_)
  · exact fk_throw (cls := "java/lang/IndexOutOfBoundsException") (text := "no such bucket or place") (ik := 105) (is := 176) (ic := 109) (rest := []) hx hb hst hown (by decide +kernel) (hts _ (List.mem_of_getElem? (i := 1) rfl)) (hts _ (List.mem_of_getElem? (i := 2) rfl)) (by decide +kernel) (vx_hat (fun w h => hts w (List.mem_cons_of_mem _ (List.mem_append_right _ h))) fk_b109 (fun w h => va_Nw.use (fk_dc_on (fk_bad_dc w h)) (hZ.2.2.2 w h))) fk_b109g hZ hK hP hD hS (hl.1.trans hml.symm) hout hlocks dX2_queueAt_13 dX2_queueAt_16 dX2_queueAt_17 dX2_queueAt_19 dX2_queueAt_22 ⟨Nat.le_of_ble_eq_true rfl, Nat.le_of_ble_eq_true rfl, Nat.le_of_ble_eq_true rfl, Nat.le_of_ble_eq_true rfl⟩
  · refine lv_iload_n hx hb dX2_queueAt_4 rfl (lv_at hl 1 rfl) ?_
    refine lv_iconst (v := 4) hx hb dX2_queueAt_5 (by decide) ?_
    refine lv_icmp_ge (tgt := 13) hx hb dX2_queueAt_6 (by decide) (fun c_2 => ?_) (fun c_2 => ?_)
    · exact fk_throw (cls := "java/lang/IndexOutOfBoundsException") (text := "no such bucket or place") (ik := 105) (is := 176) (ic := 109) (rest := []) hx hb hst hown (by decide +kernel) (hts _ (List.mem_of_getElem? (i := 1) rfl)) (hts _ (List.mem_of_getElem? (i := 2) rfl)) (by decide +kernel) (vx_hat (fun w h => hts w (List.mem_cons_of_mem _ (List.mem_append_right _ h))) fk_b109 (fun w h => va_Nw.use (fk_dc_on (fk_bad_dc w h)) (hZ.2.2.2 w h))) fk_b109g hZ hK hP hD hS (hl.1.trans hml.symm) hout hlocks dX2_queueAt_13 dX2_queueAt_16 dX2_queueAt_17 dX2_queueAt_19 dX2_queueAt_22 ⟨Nat.le_of_ble_eq_true rfl, Nat.le_of_ble_eq_true rfl, Nat.le_of_ble_eq_true rfl, Nat.le_of_ble_eq_true rfl⟩
    · refine lv_iload_n hx hb dX2_queueAt_9 rfl (lv_at hl 2 rfl) ?_
      refine lv_if_ge (tgt := 23) hx hb dX2_queueAt_10 (by decide) (fun c_3 => absurd c_3 (fun h9 => h ⟨Int32.not_lt.mp c_1, Int32.not_le.mp c_2, h9⟩)) (fun c_3 => ?_)
      exact fk_throw (cls := "java/lang/IndexOutOfBoundsException") (text := "no such bucket or place") (ik := 105) (is := 176) (ic := 109) (rest := []) hx hb hst hown (by decide +kernel) (hts _ (List.mem_of_getElem? (i := 1) rfl)) (hts _ (List.mem_of_getElem? (i := 2) rfl)) (by decide +kernel) (vx_hat (fun w h => hts w (List.mem_cons_of_mem _ (List.mem_append_right _ h))) fk_b109 (fun w h => va_Nw.use (fk_dc_on (fk_bad_dc w h)) (hZ.2.2.2 w h))) fk_b109g hZ hK hP hD hS (hl.1.trans hml.symm) hout hlocks dX2_queueAt_13 dX2_queueAt_16 dX2_queueAt_17 dX2_queueAt_19 dX2_queueAt_22 ⟨Nat.le_of_ble_eq_true rfl, Nat.le_of_ble_eq_true rfl, Nat.le_of_ble_eq_true rfl, Nat.le_of_ble_eq_true rfl⟩

abbrev rmX2_queueAt : Room := { frames := 2, cells := 0, slots := 0, locals := 47 }
set_option maxHeartbeats 4000000 in
set_option maxRecDepth 100000 in
theorem kc_queueAt (l : Launch) (D : va_G) (ad : Nat → Nat) (cI cT cJ : ClassId) (X : va_W) (S : fk_S) (b : Nat) (hb9 : b < 4) (q : Int32) (h : 0 ≤ q) : fk_C l D (fk_ty cI cT cJ) yX2_queueAt wsX2_queueAt rmX2_queueAt [.ref (ad 0), .int (nI b), .int q] (fk_kW ad cI cT S ++ X) (some (.int (fk_oI (kk_qAt S (nI b) q)))) (fk_kW ad cI cT S ++ X) := by
  refine fk_C_of (cc := cX2_queueAt) (maxL := 7) (ret := (some .int)) (own := RX2) (by decide) rfl rfl (Nat.le_of_ble_eq_true rfl) ?_
  intro p e s m below meth c A ls hx hb hr hlocks hml hts hown hA hP hK hD hl
  have hS : va_S A s.heap s.heap [] := va_S.rf
  have hl : lv_has ls 7 [(0, .ref (ad 0)), (1, .int (nI b)), (2, .int q)] := hl
  have hiX1 : ∀ w ∈ u_ws RX1 TX1 11, w ∈ wsX2_queueAt := by decide +kernel
  have hiX2 : ∀ w ∈ u_ws RX2 TX2 6, w ∈ wsX2_queueAt := by decide +kernel
  refine lv_iload_n hx hb dX2_queueAt_0 rfl (lv_at hl 1 rfl) ?_
  refine lv_if_lt (tgt := 13) hx hb dX2_queueAt_1 (by decide) (fun c_1 => absurd c_1 (nI_pos (by omega))) (fun c_1 => ?_)
  refine lv_iload_n hx hb dX2_queueAt_4 rfl (lv_at hl 1 rfl) ?_
  refine lv_iconst (v := 4) hx hb dX2_queueAt_5 (by decide) ?_
  refine lv_icmp_ge (tgt := 13) hx hb dX2_queueAt_6 (by decide) (fun c_2 => absurd c_2 (nI_ge (a := b) (b := 4) hb9 (by decide))) (fun c_2 => ?_)
  refine lv_iload_n hx hb dX2_queueAt_9 rfl (lv_at hl 2 rfl) ?_
  refine lv_if_ge (tgt := 23) hx hb dX2_queueAt_10 (by decide) (fun c_3 => ?_) (fun c_3 => absurd h c_3)
  refine lv_aload_n hx hb dX2_queueAt_23 rfl (lv_at hl 0 rfl) ?_
  refine fk_getK hx hb hts hiX2 hown hK hP 1 (by decide) (v := .ref (ad 2)) rfl (List.mem_of_getElem? (i := 3) rfl) rfl dX2_queueAt_24 ?_
  refine lv_astore_n (lv' := [(3, .ref (ad 2)), (0, .ref (ad 0)), (1, .int (nI b)), (2, .int q)]) hx hb dX2_queueAt_27 rfl hl (by decide) rfl (fun ls hl => ?_)
  refine lv_aload_n hx hb dX2_queueAt_28 rfl (lv_at hl 0 rfl) ?_
  refine fk_lenA hx hb hK hP dX2_queueAt_29 ?_
  refine lv_istore (lv' := [(4, .int 8), (3, .ref (ad 2)), (0, .ref (ad 0)), (1, .int (nI b)), (2, .int q)]) hx hb dX2_queueAt_30 hl (by decide) rfl (fun ls hl => ?_)
  refine lv_iconst (v := 0) hx hb dX2_queueAt_32 (by decide) ?_
  refine lv_istore (lv' := [(5, .int 0), (4, .int 8), (3, .ref (ad 2)), (0, .ref (ad 0)), (1, .int (nI b)), (2, .int q)]) hx hb dX2_queueAt_33 hl (by decide) rfl (fun ls hl => ?_)
  have loop : ∀ (n : Nat) (i : Nat), i + n = 8 → fk_seek (fun u => kk_q S u && decide (fk_bkt (S 3 u) = nI b) && decide (kk_cntB S u = q)) n i = kk_qAt S (nI b) q → ∀ (H : Heap) (locs : List Loc) (ls : Array Slot), va_P D vwCl (fk_kW ad cI cT S ++ X) H → va_D A (fk_kW ad cI cT S ++ X) → va_S A s.heap H locs → lv_has ls 7 [(0, .ref (ad 0)), (1, .int (nI b)), (2, .int q), (3, .ref (ad 2)), (4, .int 8), (5, .int (nI i))] → W p l e rmX2_queueAt s m ([.ref (ad 0), .int (nI b), .int q] : List Value).toArray below meth c H locs 0 0 (fk_Q below D (fk_ty cI cT cJ) [.ref (ad 0), .int (nI b), .int q] s A (fk_kW ad cI cT S ++ X) (some (.int (fk_oI (kk_qAt S (nI b) q))))) (F0 m 35 ls []) := by
    intro n
    induction n with
    | zero =>
      intro i hi hR H locs ls hP hD hS hl
      refine lv_iload hx hb dX2_queueAt_35 (lv_at hl 5 rfl) ?_
      refine lv_iload hx hb dX2_queueAt_37 (lv_at hl 4 rfl) ?_
      refine lv_icmp_ge (tgt := 90) hx hb dX2_queueAt_39 (by decide) (fun c_4 => ?_) (fun c_4 => absurd (nI_le (a := 8) (b := i) (by omega) (by omega)) c_4)
      refine lv_iconst (v := (-1)) hx hb dX2_queueAt_90 (by decide) ?_
      exact fk_iret hx hb hr hlocks hP hK hD hS (congrArg (fun z => fk_kW ad cI cT z ++ X) (by first | rfl | simp [c_4])) (by rw [← hR]; rfl) dX2_queueAt_91
    | succ n ih =>
      intro i hi hR H locs ls hP hD hS hl
      refine lv_iload hx hb dX2_queueAt_35 (lv_at hl 5 rfl) ?_
      refine lv_iload hx hb dX2_queueAt_37 (lv_at hl 4 rfl) ?_
      refine lv_icmp_ge (tgt := 90) hx hb dX2_queueAt_39 (by decide) (fun c_5 => absurd c_5 (nI_ge (a := i) (b := 8) (by omega) (by omega))) (fun c_5 => ?_)
      refine lv_aload_n hx hb dX2_queueAt_42 rfl (lv_at hl 3 rfl) ?_
      refine lv_iload hx hb dX2_queueAt_43 (lv_at hl 5 rfl) ?_
      refine fk_ldA hx hb hK hP (vp_in_nI (show i < 8 from (by omega)) (by decide)) dX2_queueAt_45 ?_
      refine W.eq (g2 := F0 m 46 ls [.ref (ad (3 + i))]) (by rw [nI_clamp (by omega)]) ?_
      refine lv_astore (lv' := [(6, .ref (ad (3 + i))), (0, .ref (ad 0)), (1, .int (nI b)), (2, .int q), (3, .ref (ad 2)), (4, .int 8), (5, .int (nI i))]) hx hb dX2_queueAt_46 hl (by decide) rfl (fun ls hl => ?_)
      refine lv_aload hx hb dX2_queueAt_48 (lv_at hl 0 rfl) ?_
      refine fk_callV (As := []) (rest := []) ⟨hx, hb, hml, hown, hts⟩ (kc_isQueued l D ad cI cT cJ X S i (by omega)) (cwV 0 hts gX2_queueAt_X1_isQueued rfl rfl rfl (by decide +kernel) ⟨Nat.le_of_ble_eq_true rfl, Nat.le_of_ble_eq_true rfl⟩) (fk_rvT hK hP (by omega)) hK hP hD hS hA rfl hl.1 rfl (Nat.le_of_ble_eq_true rfl) dX2_queueAt_50 ⟨Nat.le_of_ble_eq_true rfl, Nat.le_of_ble_eq_true rfl⟩ (fun H locs hP hD hS => ?_)
      cases b_6 : kk_q S i with
      | true =>
        refine W.eq (g2 := F0 m 53 ls [.int 1]) (by first | rfl | (rw [b_6]; rfl)) ?_
        refine lv_if_eq (tgt := 84) hx hb dX2_queueAt_53 (by decide) (fun c => absurd c (by decide)) (fun _ => ?_)
        refine lv_aload hx hb dX2_queueAt_56 (lv_at hl 0 rfl) ?_
        refine fk_getT hx hb hts hiX1 hown hK hP (by omega) 4 (by decide) (v := .int (S 3 i)) rfl (List.mem_of_getElem? (i := 4) rfl) rfl dX2_queueAt_58 ?_
        refine fk_callS (As := [.int (S 3 i)]) (rest := []) ⟨hx, hb, hml, hown, hts⟩ (kc_bucketOf l D ad cI cT cJ X S (S 3 i)) (va_cwS 1 hts gX2_queueAt_X2_bucketOf rfl rfl rfl (by decide +kernel) ⟨Nat.le_of_ble_eq_true rfl, Nat.le_of_ble_eq_true rfl⟩) hK hP hD hS hA rfl hl.1 rfl (Nat.le_of_ble_eq_true rfl) dX2_queueAt_61 ⟨Nat.le_of_ble_eq_true rfl, Nat.le_of_ble_eq_true rfl⟩ (fun H locs hP hD hS => ?_)
        refine W.eq (g2 := F0 m 64 ls [.int (fk_bkt (S 3 i))]) rfl ?_
        refine lv_iload_n hx hb dX2_queueAt_64 rfl (lv_at hl 2 rfl) ?_
        refine lv_icmp_ne (tgt := 84) hx hb dX2_queueAt_65 (by decide) (fun c_8 => ?_) (fun c_8 => ?_)
        · refine lv_iinc (v := (nI (i + 1))) (lv' := [(5, .int (nI (i + 1))), (6, .ref (ad (3 + i))), (0, .ref (ad 0)), (1, .int (nI b)), (2, .int q), (3, .ref (ad 2)), (4, .int 8)]) hx hb dX2_queueAt_84 hl (k := 6) rfl (nI_1 i) (by decide) rfl (fun ls hl => ?_)
          refine lv_goto (tgt := 35) hx hb dX2_queueAt_87 (by decide) ?_
          exact ih (i + 1) (by omega) (by rw [← hR]; simp [fk_seek, b_6, c_8]) _ _ _ hP hD hS (lv_sub hl [2, 3, 4, 5, 6, 0] rfl)
        · refine lv_aload_n hx hb dX2_queueAt_68 rfl (lv_at hl 1 rfl) ?_
          refine lv_aload hx hb dX2_queueAt_69 (lv_at hl 0 rfl) ?_
          refine fk_callV (As := [.ref (ad (3 + i))]) (rest := []) ⟨hx, hb, hml, hown, hts⟩ (kc_countAheadInBucket l D ad cI cT cJ X S i (by omega)) (cwV 1 hts gX2_queueAt_X2_countAheadInBucket rfl rfl rfl (by decide +kernel) ⟨Nat.le_of_ble_eq_true rfl, Nat.le_of_ble_eq_true rfl⟩) (fk_rvK hK hP) hK hP hD hS hA rfl hl.1 rfl (Nat.le_of_ble_eq_true rfl) dX2_queueAt_71 ⟨Nat.le_of_ble_eq_true rfl, Nat.le_of_ble_eq_true rfl⟩ (fun H locs hP hD hS => ?_)
          refine W.eq (g2 := F0 m 74 ls [.int (kk_cntB S i)]) rfl ?_
          refine lv_iload_n hx hb dX2_queueAt_74 rfl (lv_at hl 3 rfl) ?_
          refine lv_icmp_ne (tgt := 84) hx hb dX2_queueAt_75 (by decide) (fun c_9 => ?_) (fun c_9 => ?_)
          · refine lv_iinc (v := (nI (i + 1))) (lv' := [(5, .int (nI (i + 1))), (6, .ref (ad (3 + i))), (0, .ref (ad 0)), (1, .int (nI b)), (2, .int q), (3, .ref (ad 2)), (4, .int 8)]) hx hb dX2_queueAt_84 hl (k := 6) rfl (nI_1 i) (by decide) rfl (fun ls hl => ?_)
            refine lv_goto (tgt := 35) hx hb dX2_queueAt_87 (by decide) ?_
            exact ih (i + 1) (by omega) (by rw [← hR]; simp [fk_seek, b_6, c_8, c_9]) _ _ _ hP hD hS (lv_sub hl [2, 3, 4, 5, 6, 0] rfl)
          · refine lv_aload hx hb dX2_queueAt_78 (lv_at hl 0 rfl) ?_
            refine fk_getT hx hb hts hiX1 hown hK hP (by omega) 0 (by decide) (v := .int (nI i)) rfl (List.mem_of_getElem? (i := 5) rfl) rfl dX2_queueAt_80 ?_
            exact fk_iret hx hb hr hlocks hP hK hD hS (congrArg (fun z => fk_kW ad cI cT z ++ X) (by first | rfl | simp [c_5, b_6, c_8, c_9])) (by rw [← hR]; simp [fk_seek, fk_oI, b_6, c_8, c_9]) dX2_queueAt_83
      | false =>
        refine W.eq (g2 := F0 m 53 ls [.int 0]) (by first | rfl | (rw [b_6]; rfl)) ?_
        refine lv_if_eq (tgt := 84) hx hb dX2_queueAt_53 (by decide) (fun _ => ?_) (fun c => absurd c (by decide))
        refine lv_iinc (v := (nI (i + 1))) (lv' := [(5, .int (nI (i + 1))), (6, .ref (ad (3 + i))), (0, .ref (ad 0)), (1, .int (nI b)), (2, .int q), (3, .ref (ad 2)), (4, .int 8)]) hx hb dX2_queueAt_84 hl (k := 6) rfl (nI_1 i) (by decide) rfl (fun ls hl => ?_)
        refine lv_goto (tgt := 35) hx hb dX2_queueAt_87 (by decide) ?_
        exact ih (i + 1) (by omega) (by rw [← hR]; simp [fk_seek, b_6]) _ _ _ hP hD hS (lv_sub hl [2, 3, 4, 5, 6, 0] rfl)
  exact loop 8 0 rfl rfl _ _ _ hP hD hS (lv_sub hl [3, 4, 5, 2, 1, 0] rfl)
