abbrev rmX2_firstAt : Room := { frames := 1, cells := 0, slots := 0, locals := 21 }
set_option maxHeartbeats 4000000 in
set_option maxRecDepth 100000 in
theorem kc_firstAt (l : Launch) (D : va_G) (ad : Nat → Nat) (cI cT cJ : ClassId) (X : va_W) (S : fk_S) (a st mk : Int32) : fk_C l D (fk_ty cI cT cJ) yX2_firstAt wsX2_firstAt rmX2_firstAt [.ref (ad 0), .int a, .int st, .int mk] (fk_kW ad cI cT S ++ X) (fk_vT ad (kk_first S a st mk)) (fk_kW ad cI cT S ++ X) := by
  refine fk_C_of (cc := cX2_firstAt) (maxL := 10) (ret := (some (.object "FutexKernel$Task"))) (own := RX2) (by decide) rfl rfl (Nat.le_of_ble_eq_true rfl) ?_
  intro p e s m below meth c A ls hx hb hr hlocks hml hts hown hA hP hK hD hl
  have hS : va_S A s.heap s.heap [] := va_S.rf
  have hl : lv_has ls 10 [(0, .ref (ad 0)), (1, .int a), (2, .int st), (3, .int mk)] := hl
  have hiX1 : ∀ w ∈ u_ws RX1 TX1 11, w ∈ wsX2_firstAt := by decide +kernel
  have hiX2 : ∀ w ∈ u_ws RX2 TX2 6, w ∈ wsX2_firstAt := by decide +kernel
  refine lv_null hx hb dX2_firstAt_0 ?_
  refine lv_astoreN (lv' := [(4, .null), (0, .ref (ad 0)), (1, .int a), (2, .int st), (3, .int mk)]) hx hb dX2_firstAt_1 hl (by decide) rfl (fun ls hl => ?_)
  refine lv_aload_n hx hb dX2_firstAt_3 rfl (lv_at hl 1 rfl) ?_
  refine fk_getK hx hb hts hiX2 hown hK hP 1 (by decide) (v := .ref (ad 2)) rfl (List.mem_of_getElem? (i := 1) rfl) rfl dX2_firstAt_4 ?_
  refine lv_astore (lv' := [(5, .ref (ad 2)), (4, .null), (0, .ref (ad 0)), (1, .int a), (2, .int st), (3, .int mk)]) hx hb dX2_firstAt_7 hl (by decide) rfl (fun ls hl => ?_)
  refine lv_aload hx hb dX2_firstAt_9 (lv_at hl 0 rfl) ?_
  refine fk_lenA hx hb hK hP dX2_firstAt_11 ?_
  refine lv_istore (lv' := [(6, .int 8), (5, .ref (ad 2)), (4, .null), (0, .ref (ad 0)), (1, .int a), (2, .int st), (3, .int mk)]) hx hb dX2_firstAt_12 hl (by decide) rfl (fun ls hl => ?_)
  refine lv_iconst (v := 0) hx hb dX2_firstAt_14 (by decide) ?_
  refine lv_istore (lv' := [(7, .int 0), (6, .int 8), (5, .ref (ad 2)), (4, .null), (0, .ref (ad 0)), (1, .int a), (2, .int st), (3, .int mk)]) hx hb dX2_firstAt_15 hl (by decide) rfl (fun ls hl => ?_)
  have loop : ∀ (n : Nat) (i : Nat) (x : Option Nat), i + n = 8 → (∀ u, x = some u → u < 8) → fk_lp (fk_bb (kk_fits S a st mk) (kk_ahead S)) n i x = kk_first S a st mk → ∀ (H : Heap) (locs : List Loc) (ls : Array Slot), va_P D vwCl (fk_kW ad cI cT S ++ X) H → va_D A (fk_kW ad cI cT S ++ X) → va_S A s.heap H locs → lv_has ls 10 [(4, (match x with | none => Value.null | some t9 => Value.ref (ad (3 + t9)))), (0, .ref (ad 0)), (1, .int a), (2, .int st), (3, .int mk), (5, .ref (ad 2)), (6, .int 8), (7, .int (nI i))] → W p l e rmX2_firstAt s m ([.ref (ad 0), .int a, .int st, .int mk] : List Value).toArray below meth c H locs 0 0 (fk_Q below D (fk_ty cI cT cJ) [.ref (ad 0), .int a, .int st, .int mk] s A (fk_kW ad cI cT S ++ X) (fk_vT ad (kk_first S a st mk))) (F0 m 17 ls []) := by
    intro n
    induction n with
    | zero =>
      intro i x hi hx9 hR H locs ls hP hD hS hl
      rcases x with _ | u
      · have hl : lv_has ls 10 [(4, .null), (0, .ref (ad 0)), (1, .int a), (2, .int st), (3, .int mk), (5, .ref (ad 2)), (6, .int 8), (7, .int (nI i))] := hl
        refine lv_iload hx hb dX2_firstAt_17 (lv_at hl 7 rfl) ?_
        refine lv_iload hx hb dX2_firstAt_19 (lv_at hl 6 rfl) ?_
        refine lv_icmp_ge (tgt := 96) hx hb dX2_firstAt_21 (by decide) (fun c_1 => ?_) (fun c_1 => absurd (nI_le (a := 8) (b := i) (by omega) (by omega)) c_1)
        refine lv_aloadN hx hb dX2_firstAt_96 (lv_at hl 0 rfl) ?_
        exact fk_aret hx hb hr (Or.inl ⟨_, rfl⟩) (Or.inl rfl) hlocks hP hK hD hS (congrArg (fun z => fk_kW ad cI cT z ++ X) (by first | rfl | simp [c_1])) (by rw [← hR]; rfl) dX2_firstAt_98
      · have hl : lv_has ls 10 [(4, .ref (ad (3 + u))), (0, .ref (ad 0)), (1, .int a), (2, .int st), (3, .int mk), (5, .ref (ad 2)), (6, .int 8), (7, .int (nI i))] := hl
        have hu : u < 8 := hx9 u rfl
        refine lv_iload hx hb dX2_firstAt_17 (lv_at hl 7 rfl) ?_
        refine lv_iload hx hb dX2_firstAt_19 (lv_at hl 6 rfl) ?_
        refine lv_icmp_ge (tgt := 96) hx hb dX2_firstAt_21 (by decide) (fun c_2 => ?_) (fun c_2 => absurd (nI_le (a := 8) (b := i) (by omega) (by omega)) c_2)
        refine lv_aload hx hb dX2_firstAt_96 (lv_at hl 0 rfl) ?_
        exact fk_aret hx hb hr (Or.inl ⟨_, rfl⟩) (Or.inr ⟨_, rfl⟩) hlocks hP hK hD hS (congrArg (fun z => fk_kW ad cI cT z ++ X) (by first | rfl | simp [c_2])) (by rw [← hR]; rfl) dX2_firstAt_98
    | succ n ih =>
      intro i x hi hx9 hR H locs ls hP hD hS hl
      rcases x with _ | u
      · have hl : lv_has ls 10 [(4, .null), (0, .ref (ad 0)), (1, .int a), (2, .int st), (3, .int mk), (5, .ref (ad 2)), (6, .int 8), (7, .int (nI i))] := hl
        refine lv_iload hx hb dX2_firstAt_17 (lv_at hl 7 rfl) ?_
        refine lv_iload hx hb dX2_firstAt_19 (lv_at hl 6 rfl) ?_
        refine lv_icmp_ge (tgt := 96) hx hb dX2_firstAt_21 (by decide) (fun c_3 => absurd c_3 (nI_ge (a := i) (b := 8) (by omega) (by omega))) (fun c_3 => ?_)
        refine lv_aload hx hb dX2_firstAt_24 (lv_at hl 5 rfl) ?_
        refine lv_iload hx hb dX2_firstAt_26 (lv_at hl 7 rfl) ?_
        refine fk_ldA hx hb hK hP (vp_in_nI (show i < 8 from (by omega)) (by decide)) dX2_firstAt_28 ?_
        refine W.eq (g2 := F0 m 29 ls [.ref (ad (3 + i))]) (by rw [nI_clamp (by omega)]) ?_
        refine lv_astore (lv' := [(8, .ref (ad (3 + i))), (4, .null), (0, .ref (ad 0)), (1, .int a), (2, .int st), (3, .int mk), (5, .ref (ad 2)), (6, .int 8), (7, .int (nI i))]) hx hb dX2_firstAt_29 hl (by decide) rfl (fun ls hl => ?_)
        refine lv_aload hx hb dX2_firstAt_31 (lv_at hl 0 rfl) ?_
        refine fk_getT hx hb hts hiX1 hown hK hP (by omega) 4 (by decide) (v := .int (S 3 i)) rfl (List.mem_of_getElem? (i := 2) rfl) rfl dX2_firstAt_33 ?_
        refine lv_iload_n hx hb dX2_firstAt_36 rfl (lv_at hl 3 rfl) ?_
        refine lv_icmp_ne (tgt := 63) hx hb dX2_firstAt_37 (by decide) (fun c_4 => ?_) (fun c_4 => ?_)
        · refine lv_iconst (v := 0) hx hb dX2_firstAt_63 (by decide) ?_
          refine lv_istore (lv' := [(9, .int 0), (8, .ref (ad (3 + i))), (4, .null), (0, .ref (ad 0)), (1, .int a), (2, .int st), (3, .int mk), (5, .ref (ad 2)), (6, .int 8), (7, .int (nI i))]) hx hb dX2_firstAt_64 hl (by decide) rfl (fun ls hl => ?_)
          refine lv_iload hx hb dX2_firstAt_66 (lv_at hl 0 rfl) ?_
          refine lv_if_eq (tgt := 90) hx hb dX2_firstAt_68 (by decide) (fun _ => ?_) (fun c => absurd c (by decide))
          refine lv_iinc (v := (nI (i + 1))) (lv' := [(7, .int (nI (i + 1))), (9, .int 0), (8, .ref (ad (3 + i))), (4, .null), (0, .ref (ad 0)), (1, .int a), (2, .int st), (3, .int mk), (5, .ref (ad 2)), (6, .int 8)]) hx hb dX2_firstAt_90 hl (k := 9) rfl (nI_1 i) (by decide) rfl (fun ls hl => ?_)
          refine lv_goto (tgt := 17) hx hb dX2_firstAt_93 (by decide) ?_
          exact ih (i + 1) none (by omega) (by intro w hw; cases hw) ((congrArg (fk_lp _ n (i + 1)) (show none = fk_bb (kk_fits S a st mk) (kk_ahead S) i none from by simp [fk_bb, kk_fits, c_4])).trans hR) _ _ _ hP hD hS (lv_sub hl [3, 4, 5, 6, 7, 8, 9, 0] rfl)
        · refine lv_aload hx hb dX2_firstAt_40 (lv_at hl 0 rfl) ?_
          refine fk_getT hx hb hts hiX1 hown hK hP (by omega) 2 (by decide) (v := .int (S 1 i)) rfl (List.mem_of_getElem? (i := 3) rfl) rfl dX2_firstAt_42 ?_
          refine lv_iload_n hx hb dX2_firstAt_45 rfl (lv_at hl 4 rfl) ?_
          refine lv_icmp_ne (tgt := 63) hx hb dX2_firstAt_46 (by decide) (fun c_6 => ?_) (fun c_6 => ?_)
          · refine lv_iconst (v := 0) hx hb dX2_firstAt_63 (by decide) ?_
            refine lv_istore (lv' := [(9, .int 0), (8, .ref (ad (3 + i))), (4, .null), (0, .ref (ad 0)), (1, .int a), (2, .int st), (3, .int mk), (5, .ref (ad 2)), (6, .int 8), (7, .int (nI i))]) hx hb dX2_firstAt_64 hl (by decide) rfl (fun ls hl => ?_)
            refine lv_iload hx hb dX2_firstAt_66 (lv_at hl 0 rfl) ?_
            refine lv_if_eq (tgt := 90) hx hb dX2_firstAt_68 (by decide) (fun _ => ?_) (fun c => absurd c (by decide))
            refine lv_iinc (v := (nI (i + 1))) (lv' := [(7, .int (nI (i + 1))), (9, .int 0), (8, .ref (ad (3 + i))), (4, .null), (0, .ref (ad 0)), (1, .int a), (2, .int st), (3, .int mk), (5, .ref (ad 2)), (6, .int 8)]) hx hb dX2_firstAt_90 hl (k := 9) rfl (nI_1 i) (by decide) rfl (fun ls hl => ?_)
            refine lv_goto (tgt := 17) hx hb dX2_firstAt_93 (by decide) ?_
            exact ih (i + 1) none (by omega) (by intro w hw; cases hw) ((congrArg (fk_lp _ n (i + 1)) (show none = fk_bb (kk_fits S a st mk) (kk_ahead S) i none from by simp [fk_bb, kk_fits, c_4, c_6])).trans hR) _ _ _ hP hD hS (lv_sub hl [3, 4, 5, 6, 7, 8, 9, 0] rfl)
          · refine lv_aload hx hb dX2_firstAt_49 (lv_at hl 0 rfl) ?_
            refine fk_getT hx hb hts hiX1 hown hK hP (by omega) 5 (by decide) (v := .int (S 4 i)) rfl (List.mem_of_getElem? (i := 4) rfl) rfl dX2_firstAt_51 ?_
            refine lv_iload_n hx hb dX2_firstAt_54 rfl (lv_at hl 5 rfl) ?_
            refine lv_iand hx hb dX2_firstAt_55 ?_
            refine lv_if_eq (tgt := 63) hx hb dX2_firstAt_56 (by decide) (fun c_8 => ?_) (fun c_8 => ?_)
            · refine lv_iconst (v := 0) hx hb dX2_firstAt_63 (by decide) ?_
              refine lv_istore (lv' := [(9, .int 0), (8, .ref (ad (3 + i))), (4, .null), (0, .ref (ad 0)), (1, .int a), (2, .int st), (3, .int mk), (5, .ref (ad 2)), (6, .int 8), (7, .int (nI i))]) hx hb dX2_firstAt_64 hl (by decide) rfl (fun ls hl => ?_)
              refine lv_iload hx hb dX2_firstAt_66 (lv_at hl 0 rfl) ?_
              refine lv_if_eq (tgt := 90) hx hb dX2_firstAt_68 (by decide) (fun _ => ?_) (fun c => absurd c (by decide))
              refine lv_iinc (v := (nI (i + 1))) (lv' := [(7, .int (nI (i + 1))), (9, .int 0), (8, .ref (ad (3 + i))), (4, .null), (0, .ref (ad 0)), (1, .int a), (2, .int st), (3, .int mk), (5, .ref (ad 2)), (6, .int 8)]) hx hb dX2_firstAt_90 hl (k := 9) rfl (nI_1 i) (by decide) rfl (fun ls hl => ?_)
              refine lv_goto (tgt := 17) hx hb dX2_firstAt_93 (by decide) ?_
              exact ih (i + 1) none (by omega) (by intro w hw; cases hw) ((congrArg (fk_lp _ n (i + 1)) (show none = fk_bb (kk_fits S a st mk) (kk_ahead S) i none from by simp [fk_bb, kk_fits, c_4, c_6, c_8])).trans hR) _ _ _ hP hD hS (lv_sub hl [3, 4, 5, 6, 7, 8, 9, 0] rfl)
            · refine lv_iconst (v := 1) hx hb dX2_firstAt_59 (by decide) ?_
              refine lv_goto (tgt := 64) hx hb dX2_firstAt_60 (by decide) ?_
              refine lv_istore (lv' := [(9, .int 1), (8, .ref (ad (3 + i))), (4, .null), (0, .ref (ad 0)), (1, .int a), (2, .int st), (3, .int mk), (5, .ref (ad 2)), (6, .int 8), (7, .int (nI i))]) hx hb dX2_firstAt_64 hl (by decide) rfl (fun ls hl => ?_)
              refine lv_iload hx hb dX2_firstAt_66 (lv_at hl 0 rfl) ?_
              refine lv_if_eq (tgt := 90) hx hb dX2_firstAt_68 (by decide) (fun c => absurd c (by decide)) (fun _ => ?_)
              refine lv_aloadN hx hb dX2_firstAt_71 (lv_at hl 2 rfl) ?_
              refine lv_ifnullN (tgt := 86) hx hb dX2_firstAt_73 (by decide) ?_
              refine lv_aload hx hb dX2_firstAt_86 (lv_at hl 1 rfl) ?_
              refine lv_astore (lv' := [(4, .ref (ad (3 + i))), (9, .int 1), (8, .ref (ad (3 + i))), (0, .ref (ad 0)), (1, .int a), (2, .int st), (3, .int mk), (5, .ref (ad 2)), (6, .int 8), (7, .int (nI i))]) hx hb dX2_firstAt_88 hl (by decide) rfl (fun ls hl => ?_)
              refine lv_iinc (v := (nI (i + 1))) (lv' := [(7, .int (nI (i + 1))), (4, .ref (ad (3 + i))), (9, .int 1), (8, .ref (ad (3 + i))), (0, .ref (ad 0)), (1, .int a), (2, .int st), (3, .int mk), (5, .ref (ad 2)), (6, .int 8)]) hx hb dX2_firstAt_90 hl (k := 9) rfl (nI_1 i) (by decide) rfl (fun ls hl => ?_)
              refine lv_goto (tgt := 17) hx hb dX2_firstAt_93 (by decide) ?_
              exact ih (i + 1) (some i) (by omega) (by intro w hw; cases hw; exact (by omega)) ((congrArg (fk_lp _ n (i + 1)) (show (some i) = fk_bb (kk_fits S a st mk) (kk_ahead S) i none from by simp [fk_bb, kk_fits, c_4, c_6, c_8])).trans hR) _ _ _ hP hD hS (lv_sub hl [1, 4, 5, 6, 7, 8, 9, 0] rfl)
      · have hl : lv_has ls 10 [(4, .ref (ad (3 + u))), (0, .ref (ad 0)), (1, .int a), (2, .int st), (3, .int mk), (5, .ref (ad 2)), (6, .int 8), (7, .int (nI i))] := hl
        have hu : u < 8 := hx9 u rfl
        refine lv_iload hx hb dX2_firstAt_17 (lv_at hl 7 rfl) ?_
        refine lv_iload hx hb dX2_firstAt_19 (lv_at hl 6 rfl) ?_
        refine lv_icmp_ge (tgt := 96) hx hb dX2_firstAt_21 (by decide) (fun c_11 => absurd c_11 (nI_ge (a := i) (b := 8) (by omega) (by omega))) (fun c_11 => ?_)
        refine lv_aload hx hb dX2_firstAt_24 (lv_at hl 5 rfl) ?_
        refine lv_iload hx hb dX2_firstAt_26 (lv_at hl 7 rfl) ?_
        refine fk_ldA hx hb hK hP (vp_in_nI (show i < 8 from (by omega)) (by decide)) dX2_firstAt_28 ?_
        refine W.eq (g2 := F0 m 29 ls [.ref (ad (3 + i))]) (by rw [nI_clamp (by omega)]) ?_
        refine lv_astore (lv' := [(8, .ref (ad (3 + i))), (4, .ref (ad (3 + u))), (0, .ref (ad 0)), (1, .int a), (2, .int st), (3, .int mk), (5, .ref (ad 2)), (6, .int 8), (7, .int (nI i))]) hx hb dX2_firstAt_29 hl (by decide) rfl (fun ls hl => ?_)
        refine lv_aload hx hb dX2_firstAt_31 (lv_at hl 0 rfl) ?_
        refine fk_getT hx hb hts hiX1 hown hK hP (by omega) 4 (by decide) (v := .int (S 3 i)) rfl (List.mem_of_getElem? (i := 2) rfl) rfl dX2_firstAt_33 ?_
        refine lv_iload_n hx hb dX2_firstAt_36 rfl (lv_at hl 3 rfl) ?_
        refine lv_icmp_ne (tgt := 63) hx hb dX2_firstAt_37 (by decide) (fun c_12 => ?_) (fun c_12 => ?_)
        · refine lv_iconst (v := 0) hx hb dX2_firstAt_63 (by decide) ?_
          refine lv_istore (lv' := [(9, .int 0), (8, .ref (ad (3 + i))), (4, .ref (ad (3 + u))), (0, .ref (ad 0)), (1, .int a), (2, .int st), (3, .int mk), (5, .ref (ad 2)), (6, .int 8), (7, .int (nI i))]) hx hb dX2_firstAt_64 hl (by decide) rfl (fun ls hl => ?_)
          refine lv_iload hx hb dX2_firstAt_66 (lv_at hl 0 rfl) ?_
          refine lv_if_eq (tgt := 90) hx hb dX2_firstAt_68 (by decide) (fun _ => ?_) (fun c => absurd c (by decide))
          refine lv_iinc (v := (nI (i + 1))) (lv' := [(7, .int (nI (i + 1))), (9, .int 0), (8, .ref (ad (3 + i))), (4, .ref (ad (3 + u))), (0, .ref (ad 0)), (1, .int a), (2, .int st), (3, .int mk), (5, .ref (ad 2)), (6, .int 8)]) hx hb dX2_firstAt_90 hl (k := 9) rfl (nI_1 i) (by decide) rfl (fun ls hl => ?_)
          refine lv_goto (tgt := 17) hx hb dX2_firstAt_93 (by decide) ?_
          exact ih (i + 1) (some u) (by omega) (by intro w hw; cases hw; exact hu) ((congrArg (fk_lp _ n (i + 1)) (show (some u) = fk_bb (kk_fits S a st mk) (kk_ahead S) i (some u) from by simp [fk_bb, kk_fits, c_12])).trans hR) _ _ _ hP hD hS (lv_sub hl [3, 4, 5, 6, 7, 8, 9, 0] rfl)
        · refine lv_aload hx hb dX2_firstAt_40 (lv_at hl 0 rfl) ?_
          refine fk_getT hx hb hts hiX1 hown hK hP (by omega) 2 (by decide) (v := .int (S 1 i)) rfl (List.mem_of_getElem? (i := 3) rfl) rfl dX2_firstAt_42 ?_
          refine lv_iload_n hx hb dX2_firstAt_45 rfl (lv_at hl 4 rfl) ?_
          refine lv_icmp_ne (tgt := 63) hx hb dX2_firstAt_46 (by decide) (fun c_14 => ?_) (fun c_14 => ?_)
          · refine lv_iconst (v := 0) hx hb dX2_firstAt_63 (by decide) ?_
            refine lv_istore (lv' := [(9, .int 0), (8, .ref (ad (3 + i))), (4, .ref (ad (3 + u))), (0, .ref (ad 0)), (1, .int a), (2, .int st), (3, .int mk), (5, .ref (ad 2)), (6, .int 8), (7, .int (nI i))]) hx hb dX2_firstAt_64 hl (by decide) rfl (fun ls hl => ?_)
            refine lv_iload hx hb dX2_firstAt_66 (lv_at hl 0 rfl) ?_
            refine lv_if_eq (tgt := 90) hx hb dX2_firstAt_68 (by decide) (fun _ => ?_) (fun c => absurd c (by decide))
            refine lv_iinc (v := (nI (i + 1))) (lv' := [(7, .int (nI (i + 1))), (9, .int 0), (8, .ref (ad (3 + i))), (4, .ref (ad (3 + u))), (0, .ref (ad 0)), (1, .int a), (2, .int st), (3, .int mk), (5, .ref (ad 2)), (6, .int 8)]) hx hb dX2_firstAt_90 hl (k := 9) rfl (nI_1 i) (by decide) rfl (fun ls hl => ?_)
            refine lv_goto (tgt := 17) hx hb dX2_firstAt_93 (by decide) ?_
            exact ih (i + 1) (some u) (by omega) (by intro w hw; cases hw; exact hu) ((congrArg (fk_lp _ n (i + 1)) (show (some u) = fk_bb (kk_fits S a st mk) (kk_ahead S) i (some u) from by simp [fk_bb, kk_fits, c_12, c_14])).trans hR) _ _ _ hP hD hS (lv_sub hl [3, 4, 5, 6, 7, 8, 9, 0] rfl)
          · refine lv_aload hx hb dX2_firstAt_49 (lv_at hl 0 rfl) ?_
            refine fk_getT hx hb hts hiX1 hown hK hP (by omega) 5 (by decide) (v := .int (S 4 i)) rfl (List.mem_of_getElem? (i := 4) rfl) rfl dX2_firstAt_51 ?_
            refine lv_iload_n hx hb dX2_firstAt_54 rfl (lv_at hl 5 rfl) ?_
            refine lv_iand hx hb dX2_firstAt_55 ?_
            refine lv_if_eq (tgt := 63) hx hb dX2_firstAt_56 (by decide) (fun c_16 => ?_) (fun c_16 => ?_)
            · refine lv_iconst (v := 0) hx hb dX2_firstAt_63 (by decide) ?_
              refine lv_istore (lv' := [(9, .int 0), (8, .ref (ad (3 + i))), (4, .ref (ad (3 + u))), (0, .ref (ad 0)), (1, .int a), (2, .int st), (3, .int mk), (5, .ref (ad 2)), (6, .int 8), (7, .int (nI i))]) hx hb dX2_firstAt_64 hl (by decide) rfl (fun ls hl => ?_)
              refine lv_iload hx hb dX2_firstAt_66 (lv_at hl 0 rfl) ?_
              refine lv_if_eq (tgt := 90) hx hb dX2_firstAt_68 (by decide) (fun _ => ?_) (fun c => absurd c (by decide))
              refine lv_iinc (v := (nI (i + 1))) (lv' := [(7, .int (nI (i + 1))), (9, .int 0), (8, .ref (ad (3 + i))), (4, .ref (ad (3 + u))), (0, .ref (ad 0)), (1, .int a), (2, .int st), (3, .int mk), (5, .ref (ad 2)), (6, .int 8)]) hx hb dX2_firstAt_90 hl (k := 9) rfl (nI_1 i) (by decide) rfl (fun ls hl => ?_)
              refine lv_goto (tgt := 17) hx hb dX2_firstAt_93 (by decide) ?_
              exact ih (i + 1) (some u) (by omega) (by intro w hw; cases hw; exact hu) ((congrArg (fk_lp _ n (i + 1)) (show (some u) = fk_bb (kk_fits S a st mk) (kk_ahead S) i (some u) from by simp [fk_bb, kk_fits, c_12, c_14, c_16])).trans hR) _ _ _ hP hD hS (lv_sub hl [3, 4, 5, 6, 7, 8, 9, 0] rfl)
            · refine lv_iconst (v := 1) hx hb dX2_firstAt_59 (by decide) ?_
              refine lv_goto (tgt := 64) hx hb dX2_firstAt_60 (by decide) ?_
              refine lv_istore (lv' := [(9, .int 1), (8, .ref (ad (3 + i))), (4, .ref (ad (3 + u))), (0, .ref (ad 0)), (1, .int a), (2, .int st), (3, .int mk), (5, .ref (ad 2)), (6, .int 8), (7, .int (nI i))]) hx hb dX2_firstAt_64 hl (by decide) rfl (fun ls hl => ?_)
              refine lv_iload hx hb dX2_firstAt_66 (lv_at hl 0 rfl) ?_
              refine lv_if_eq (tgt := 90) hx hb dX2_firstAt_68 (by decide) (fun c => absurd c (by decide)) (fun _ => ?_)
              refine lv_aload hx hb dX2_firstAt_71 (lv_at hl 2 rfl) ?_
              refine lv_ifnull hx hb dX2_firstAt_73 ?_
              refine lv_aload hx hb dX2_firstAt_76 (lv_at hl 1 rfl) ?_
              refine lv_aload hx hb dX2_firstAt_78 (lv_at hl 2 rfl) ?_
              refine fk_callV (As := [.ref (ad (3 + u))]) (rest := []) ⟨hx, hb, hml, hown, hts⟩ (kc_isAheadOf l D ad cI cT cJ X S i u (by omega) hu) (cwV 1 hts gX2_firstAt_X1_isAheadOf rfl rfl rfl (by decide +kernel) ⟨Nat.le_of_ble_eq_true rfl, Nat.le_of_ble_eq_true rfl⟩) (fk_rvT hK hP (by omega)) hK hP hD hS hA rfl hl.1 rfl (Nat.le_of_ble_eq_true rfl) dX2_firstAt_80 ⟨Nat.le_of_ble_eq_true rfl, Nat.le_of_ble_eq_true rfl⟩ (fun H locs hP hD hS => ?_)
              cases b_19 : kk_ahead S i u with
              | true =>
                refine W.eq (g2 := F0 m 83 ls [.int 1]) (by first | rfl | (rw [b_19]; rfl)) ?_
                refine lv_if_eq (tgt := 90) hx hb dX2_firstAt_83 (by decide) (fun c => absurd c (by decide)) (fun _ => ?_)
                refine lv_aload hx hb dX2_firstAt_86 (lv_at hl 1 rfl) ?_
                refine lv_astore (lv' := [(4, .ref (ad (3 + i))), (9, .int 1), (8, .ref (ad (3 + i))), (0, .ref (ad 0)), (1, .int a), (2, .int st), (3, .int mk), (5, .ref (ad 2)), (6, .int 8), (7, .int (nI i))]) hx hb dX2_firstAt_88 hl (by decide) rfl (fun ls hl => ?_)
                refine lv_iinc (v := (nI (i + 1))) (lv' := [(7, .int (nI (i + 1))), (4, .ref (ad (3 + i))), (9, .int 1), (8, .ref (ad (3 + i))), (0, .ref (ad 0)), (1, .int a), (2, .int st), (3, .int mk), (5, .ref (ad 2)), (6, .int 8)]) hx hb dX2_firstAt_90 hl (k := 9) rfl (nI_1 i) (by decide) rfl (fun ls hl => ?_)
                refine lv_goto (tgt := 17) hx hb dX2_firstAt_93 (by decide) ?_
                exact ih (i + 1) (some i) (by omega) (by intro w hw; cases hw; exact (by omega)) ((congrArg (fk_lp _ n (i + 1)) (show (some i) = fk_bb (kk_fits S a st mk) (kk_ahead S) i (some u) from by simp [fk_bb, kk_fits, c_12, c_14, c_16, b_19])).trans hR) _ _ _ hP hD hS (lv_sub hl [1, 4, 5, 6, 7, 8, 9, 0] rfl)
              | false =>
                refine W.eq (g2 := F0 m 83 ls [.int 0]) (by first | rfl | (rw [b_19]; rfl)) ?_
                refine lv_if_eq (tgt := 90) hx hb dX2_firstAt_83 (by decide) (fun _ => ?_) (fun c => absurd c (by decide))
                refine lv_iinc (v := (nI (i + 1))) (lv' := [(7, .int (nI (i + 1))), (9, .int 1), (8, .ref (ad (3 + i))), (4, .ref (ad (3 + u))), (0, .ref (ad 0)), (1, .int a), (2, .int st), (3, .int mk), (5, .ref (ad 2)), (6, .int 8)]) hx hb dX2_firstAt_90 hl (k := 9) rfl (nI_1 i) (by decide) rfl (fun ls hl => ?_)
                refine lv_goto (tgt := 17) hx hb dX2_firstAt_93 (by decide) ?_
                exact ih (i + 1) (some u) (by omega) (by intro w hw; cases hw; exact hu) ((congrArg (fk_lp _ n (i + 1)) (show (some u) = fk_bb (kk_fits S a st mk) (kk_ahead S) i (some u) from by simp [fk_bb, kk_fits, c_12, c_14, c_16, b_19])).trans hR) _ _ _ hP hD hS (lv_sub hl [3, 4, 5, 6, 7, 8, 9, 0] rfl)
  exact loop 8 0 none rfl (by intro w hw; cases hw) rfl _ _ _ hP hD hS (lv_sub hl [3, 4, 5, 6, 7, 2, 1, 0] rfl)

abbrev rmX2_firstToTimeOut : Room := { frames := 1, cells := 0, slots := 0, locals := 21 }
set_option maxHeartbeats 4000000 in
set_option maxRecDepth 100000 in
theorem kc_firstToTimeOut (l : Launch) (D : va_G) (ad : Nat → Nat) (cI cT cJ : ClassId) (X : va_W) (S : fk_S)  : fk_C l D (fk_ty cI cT cJ) yX2_firstToTimeOut wsX2_firstToTimeOut rmX2_firstToTimeOut [.ref (ad 0)] (fk_kW ad cI cT S ++ X) (fk_vT ad (kk_next S)) (fk_kW ad cI cT S ++ X) := by
  refine fk_C_of (cc := cX2_firstToTimeOut) (maxL := 6) (ret := (some (.object "FutexKernel$Task"))) (own := RX2) (by decide) rfl rfl (Nat.le_of_ble_eq_true rfl) ?_
  intro p e s m below meth c A ls hx hb hr hlocks hml hts hown hA hP hK hD hl
  have hS : va_S A s.heap s.heap [] := va_S.rf
  have hl : lv_has ls 6 [(0, .ref (ad 0))] := hl
  have hiX1 : ∀ w ∈ u_ws RX1 TX1 11, w ∈ wsX2_firstToTimeOut := by decide +kernel
  have hiX2 : ∀ w ∈ u_ws RX2 TX2 6, w ∈ wsX2_firstToTimeOut := by decide +kernel
  refine lv_null hx hb dX2_firstToTimeOut_0 ?_
  refine lv_astore_nN (lv' := [(1, .null), (0, .ref (ad 0))]) hx hb dX2_firstToTimeOut_1 rfl hl (by decide) rfl (fun ls hl => ?_)
  refine lv_aload_n hx hb dX2_firstToTimeOut_2 rfl (lv_at hl 1 rfl) ?_
  refine fk_getK hx hb hts hiX2 hown hK hP 1 (by decide) (v := .ref (ad 2)) rfl (List.mem_of_getElem? (i := 1) rfl) rfl dX2_firstToTimeOut_3 ?_
  refine lv_astore_n (lv' := [(2, .ref (ad 2)), (1, .null), (0, .ref (ad 0))]) hx hb dX2_firstToTimeOut_6 rfl hl (by decide) rfl (fun ls hl => ?_)
  refine lv_aload_n hx hb dX2_firstToTimeOut_7 rfl (lv_at hl 0 rfl) ?_
  refine fk_lenA hx hb hK hP dX2_firstToTimeOut_8 ?_
  refine lv_istore_n (lv' := [(3, .int 8), (2, .ref (ad 2)), (1, .null), (0, .ref (ad 0))]) hx hb dX2_firstToTimeOut_9 rfl hl (by decide) rfl (fun ls hl => ?_)
  refine lv_iconst (v := 0) hx hb dX2_firstToTimeOut_10 (by decide) ?_
  refine lv_istore (lv' := [(4, .int 0), (3, .int 8), (2, .ref (ad 2)), (1, .null), (0, .ref (ad 0))]) hx hb dX2_firstToTimeOut_11 hl (by decide) rfl (fun ls hl => ?_)
  have loop : ∀ (n : Nat) (i : Nat) (x : Option Nat), i + n = 8 → (∀ u, x = some u → u < 8) → fk_lp (fk_bb (fun t => decide (S 5 t ≠ -1)) (kk_sooner S)) n i x = kk_next S → ∀ (H : Heap) (locs : List Loc) (ls : Array Slot), va_P D vwCl (fk_kW ad cI cT S ++ X) H → va_D A (fk_kW ad cI cT S ++ X) → va_S A s.heap H locs → lv_has ls 6 [(1, (match x with | none => Value.null | some t9 => Value.ref (ad (3 + t9)))), (0, .ref (ad 0)), (2, .ref (ad 2)), (3, .int 8), (4, .int (nI i))] → W p l e rmX2_firstToTimeOut s m ([.ref (ad 0)] : List Value).toArray below meth c H locs 0 0 (fk_Q below D (fk_ty cI cT cJ) [.ref (ad 0)] s A (fk_kW ad cI cT S ++ X) (fk_vT ad (kk_next S))) (F0 m 13 ls []) := by
    intro n
    induction n with
    | zero =>
      intro i x hi hx9 hR H locs ls hP hD hS hl
      rcases x with _ | u
      · have hl : lv_has ls 6 [(1, .null), (0, .ref (ad 0)), (2, .ref (ad 2)), (3, .int 8), (4, .int (nI i))] := hl
        refine lv_iload hx hb dX2_firstToTimeOut_13 (lv_at hl 4 rfl) ?_
        refine lv_iload_n hx hb dX2_firstToTimeOut_15 rfl (lv_at hl 3 rfl) ?_
        refine lv_icmp_ge (tgt := 56) hx hb dX2_firstToTimeOut_16 (by decide) (fun c_1 => ?_) (fun c_1 => absurd (nI_le (a := 8) (b := i) (by omega) (by omega)) c_1)
        refine lv_aload_nN hx hb dX2_firstToTimeOut_56 rfl (lv_at hl 0 rfl) ?_
        exact fk_aret hx hb hr (Or.inl ⟨_, rfl⟩) (Or.inl rfl) hlocks hP hK hD hS (congrArg (fun z => fk_kW ad cI cT z ++ X) (by first | rfl | simp [c_1])) (by rw [← hR]; rfl) dX2_firstToTimeOut_57
      · have hl : lv_has ls 6 [(1, .ref (ad (3 + u))), (0, .ref (ad 0)), (2, .ref (ad 2)), (3, .int 8), (4, .int (nI i))] := hl
        have hu : u < 8 := hx9 u rfl
        refine lv_iload hx hb dX2_firstToTimeOut_13 (lv_at hl 4 rfl) ?_
        refine lv_iload_n hx hb dX2_firstToTimeOut_15 rfl (lv_at hl 3 rfl) ?_
        refine lv_icmp_ge (tgt := 56) hx hb dX2_firstToTimeOut_16 (by decide) (fun c_2 => ?_) (fun c_2 => absurd (nI_le (a := 8) (b := i) (by omega) (by omega)) c_2)
        refine lv_aload_n hx hb dX2_firstToTimeOut_56 rfl (lv_at hl 0 rfl) ?_
        exact fk_aret hx hb hr (Or.inl ⟨_, rfl⟩) (Or.inr ⟨_, rfl⟩) hlocks hP hK hD hS (congrArg (fun z => fk_kW ad cI cT z ++ X) (by first | rfl | simp [c_2])) (by rw [← hR]; rfl) dX2_firstToTimeOut_57
    | succ n ih =>
      intro i x hi hx9 hR H locs ls hP hD hS hl
      rcases x with _ | u
      · have hl : lv_has ls 6 [(1, .null), (0, .ref (ad 0)), (2, .ref (ad 2)), (3, .int 8), (4, .int (nI i))] := hl
        refine lv_iload hx hb dX2_firstToTimeOut_13 (lv_at hl 4 rfl) ?_
        refine lv_iload_n hx hb dX2_firstToTimeOut_15 rfl (lv_at hl 3 rfl) ?_
        refine lv_icmp_ge (tgt := 56) hx hb dX2_firstToTimeOut_16 (by decide) (fun c_3 => absurd c_3 (nI_ge (a := i) (b := 8) (by omega) (by omega))) (fun c_3 => ?_)
        refine lv_aload_n hx hb dX2_firstToTimeOut_19 rfl (lv_at hl 2 rfl) ?_
        refine lv_iload hx hb dX2_firstToTimeOut_20 (lv_at hl 4 rfl) ?_
        refine fk_ldA hx hb hK hP (vp_in_nI (show i < 8 from (by omega)) (by decide)) dX2_firstToTimeOut_22 ?_
        refine W.eq (g2 := F0 m 23 ls [.ref (ad (3 + i))]) (by rw [nI_clamp (by omega)]) ?_
        refine lv_astore (lv' := [(5, .ref (ad (3 + i))), (1, .null), (0, .ref (ad 0)), (2, .ref (ad 2)), (3, .int 8), (4, .int (nI i))]) hx hb dX2_firstToTimeOut_23 hl (by decide) rfl (fun ls hl => ?_)
        refine lv_aload hx hb dX2_firstToTimeOut_25 (lv_at hl 0 rfl) ?_
        refine fk_getT hx hb hts hiX1 hown hK hP (by omega) 6 (by decide) (v := .int (S 5 i)) rfl (List.mem_of_getElem? (i := 2) rfl) rfl dX2_firstToTimeOut_27 ?_
        refine lv_iconst (v := (-1)) hx hb dX2_firstToTimeOut_30 (by decide) ?_
        refine lv_icmp_eq (tgt := 50) hx hb dX2_firstToTimeOut_31 (by decide) (fun c_4 => ?_) (fun c_4 => ?_)
        · refine lv_iinc (v := (nI (i + 1))) (lv' := [(4, .int (nI (i + 1))), (5, .ref (ad (3 + i))), (1, .null), (0, .ref (ad 0)), (2, .ref (ad 2)), (3, .int 8)]) hx hb dX2_firstToTimeOut_50 hl (k := 5) rfl (nI_1 i) (by decide) rfl (fun ls hl => ?_)
          refine lv_goto (tgt := 13) hx hb dX2_firstToTimeOut_53 (by decide) ?_
          exact ih (i + 1) none (by omega) (by intro w hw; cases hw) ((congrArg (fk_lp _ n (i + 1)) (show none = fk_bb (fun t => decide (S 5 t ≠ -1)) (kk_sooner S) i none from by simp [fk_bb, c_4])).trans hR) _ _ _ hP hD hS (lv_sub hl [2, 3, 4, 5, 0] rfl)
        · refine lv_aload_nN hx hb dX2_firstToTimeOut_34 rfl (lv_at hl 1 rfl) ?_
          refine lv_ifnullN (tgt := 47) hx hb dX2_firstToTimeOut_35 (by decide) ?_
          refine lv_aload hx hb dX2_firstToTimeOut_47 (lv_at hl 0 rfl) ?_
          refine lv_astore_n (lv' := [(1, .ref (ad (3 + i))), (5, .ref (ad (3 + i))), (0, .ref (ad 0)), (2, .ref (ad 2)), (3, .int 8), (4, .int (nI i))]) hx hb dX2_firstToTimeOut_49 rfl hl (by decide) rfl (fun ls hl => ?_)
          refine lv_iinc (v := (nI (i + 1))) (lv' := [(4, .int (nI (i + 1))), (1, .ref (ad (3 + i))), (5, .ref (ad (3 + i))), (0, .ref (ad 0)), (2, .ref (ad 2)), (3, .int 8)]) hx hb dX2_firstToTimeOut_50 hl (k := 5) rfl (nI_1 i) (by decide) rfl (fun ls hl => ?_)
          refine lv_goto (tgt := 13) hx hb dX2_firstToTimeOut_53 (by decide) ?_
          exact ih (i + 1) (some i) (by omega) (by intro w hw; cases hw; exact (by omega)) ((congrArg (fk_lp _ n (i + 1)) (show (some i) = fk_bb (fun t => decide (S 5 t ≠ -1)) (kk_sooner S) i none from by simp [fk_bb, c_4])).trans hR) _ _ _ hP hD hS (lv_sub hl [1, 3, 4, 5, 0] rfl)
      · have hl : lv_has ls 6 [(1, .ref (ad (3 + u))), (0, .ref (ad 0)), (2, .ref (ad 2)), (3, .int 8), (4, .int (nI i))] := hl
        have hu : u < 8 := hx9 u rfl
        refine lv_iload hx hb dX2_firstToTimeOut_13 (lv_at hl 4 rfl) ?_
        refine lv_iload_n hx hb dX2_firstToTimeOut_15 rfl (lv_at hl 3 rfl) ?_
        refine lv_icmp_ge (tgt := 56) hx hb dX2_firstToTimeOut_16 (by decide) (fun c_5 => absurd c_5 (nI_ge (a := i) (b := 8) (by omega) (by omega))) (fun c_5 => ?_)
        refine lv_aload_n hx hb dX2_firstToTimeOut_19 rfl (lv_at hl 2 rfl) ?_
        refine lv_iload hx hb dX2_firstToTimeOut_20 (lv_at hl 4 rfl) ?_
        refine fk_ldA hx hb hK hP (vp_in_nI (show i < 8 from (by omega)) (by decide)) dX2_firstToTimeOut_22 ?_
        refine W.eq (g2 := F0 m 23 ls [.ref (ad (3 + i))]) (by rw [nI_clamp (by omega)]) ?_
        refine lv_astore (lv' := [(5, .ref (ad (3 + i))), (1, .ref (ad (3 + u))), (0, .ref (ad 0)), (2, .ref (ad 2)), (3, .int 8), (4, .int (nI i))]) hx hb dX2_firstToTimeOut_23 hl (by decide) rfl (fun ls hl => ?_)
        refine lv_aload hx hb dX2_firstToTimeOut_25 (lv_at hl 0 rfl) ?_
        refine fk_getT hx hb hts hiX1 hown hK hP (by omega) 6 (by decide) (v := .int (S 5 i)) rfl (List.mem_of_getElem? (i := 2) rfl) rfl dX2_firstToTimeOut_27 ?_
        refine lv_iconst (v := (-1)) hx hb dX2_firstToTimeOut_30 (by decide) ?_
        refine lv_icmp_eq (tgt := 50) hx hb dX2_firstToTimeOut_31 (by decide) (fun c_6 => ?_) (fun c_6 => ?_)
        · refine lv_iinc (v := (nI (i + 1))) (lv' := [(4, .int (nI (i + 1))), (5, .ref (ad (3 + i))), (1, .ref (ad (3 + u))), (0, .ref (ad 0)), (2, .ref (ad 2)), (3, .int 8)]) hx hb dX2_firstToTimeOut_50 hl (k := 5) rfl (nI_1 i) (by decide) rfl (fun ls hl => ?_)
          refine lv_goto (tgt := 13) hx hb dX2_firstToTimeOut_53 (by decide) ?_
          exact ih (i + 1) (some u) (by omega) (by intro w hw; cases hw; exact hu) ((congrArg (fk_lp _ n (i + 1)) (show (some u) = fk_bb (fun t => decide (S 5 t ≠ -1)) (kk_sooner S) i (some u) from by simp [fk_bb, c_6])).trans hR) _ _ _ hP hD hS (lv_sub hl [2, 3, 4, 5, 0] rfl)
        · refine lv_aload_n hx hb dX2_firstToTimeOut_34 rfl (lv_at hl 1 rfl) ?_
          refine lv_ifnull hx hb dX2_firstToTimeOut_35 ?_
          refine lv_aload hx hb dX2_firstToTimeOut_38 (lv_at hl 0 rfl) ?_
          refine lv_aload_n hx hb dX2_firstToTimeOut_40 rfl (lv_at hl 1 rfl) ?_
          refine fk_callV (As := [.ref (ad (3 + u))]) (rest := []) ⟨hx, hb, hml, hown, hts⟩ (kc_timesOutBefore l D ad cI cT cJ X S i u (by omega) hu) (cwV 1 hts gX2_firstToTimeOut_X1_timesOutBefore rfl rfl rfl (by decide +kernel) ⟨Nat.le_of_ble_eq_true rfl, Nat.le_of_ble_eq_true rfl⟩) (fk_rvT hK hP (by omega)) hK hP hD hS hA rfl hl.1 rfl (Nat.le_of_ble_eq_true rfl) dX2_firstToTimeOut_41 ⟨Nat.le_of_ble_eq_true rfl, Nat.le_of_ble_eq_true rfl⟩ (fun H locs hP hD hS => ?_)
          cases b_7 : kk_sooner S i u with
          | true =>
            refine W.eq (g2 := F0 m 44 ls [.int 1]) (by first | rfl | (rw [b_7]; rfl)) ?_
            refine lv_if_eq (tgt := 50) hx hb dX2_firstToTimeOut_44 (by decide) (fun c => absurd c (by decide)) (fun _ => ?_)
            refine lv_aload hx hb dX2_firstToTimeOut_47 (lv_at hl 0 rfl) ?_
            refine lv_astore_n (lv' := [(1, .ref (ad (3 + i))), (5, .ref (ad (3 + i))), (0, .ref (ad 0)), (2, .ref (ad 2)), (3, .int 8), (4, .int (nI i))]) hx hb dX2_firstToTimeOut_49 rfl hl (by decide) rfl (fun ls hl => ?_)
            refine lv_iinc (v := (nI (i + 1))) (lv' := [(4, .int (nI (i + 1))), (1, .ref (ad (3 + i))), (5, .ref (ad (3 + i))), (0, .ref (ad 0)), (2, .ref (ad 2)), (3, .int 8)]) hx hb dX2_firstToTimeOut_50 hl (k := 5) rfl (nI_1 i) (by decide) rfl (fun ls hl => ?_)
            refine lv_goto (tgt := 13) hx hb dX2_firstToTimeOut_53 (by decide) ?_
            exact ih (i + 1) (some i) (by omega) (by intro w hw; cases hw; exact (by omega)) ((congrArg (fk_lp _ n (i + 1)) (show (some i) = fk_bb (fun t => decide (S 5 t ≠ -1)) (kk_sooner S) i (some u) from by simp [fk_bb, c_6, b_7])).trans hR) _ _ _ hP hD hS (lv_sub hl [1, 3, 4, 5, 0] rfl)
          | false =>
            refine W.eq (g2 := F0 m 44 ls [.int 0]) (by first | rfl | (rw [b_7]; rfl)) ?_
            refine lv_if_eq (tgt := 50) hx hb dX2_firstToTimeOut_44 (by decide) (fun _ => ?_) (fun c => absurd c (by decide))
            refine lv_iinc (v := (nI (i + 1))) (lv' := [(4, .int (nI (i + 1))), (5, .ref (ad (3 + i))), (1, .ref (ad (3 + u))), (0, .ref (ad 0)), (2, .ref (ad 2)), (3, .int 8)]) hx hb dX2_firstToTimeOut_50 hl (k := 5) rfl (nI_1 i) (by decide) rfl (fun ls hl => ?_)
            refine lv_goto (tgt := 13) hx hb dX2_firstToTimeOut_53 (by decide) ?_
            exact ih (i + 1) (some u) (by omega) (by intro w hw; cases hw; exact hu) ((congrArg (fk_lp _ n (i + 1)) (show (some u) = fk_bb (fun t => decide (S 5 t ≠ -1)) (kk_sooner S) i (some u) from by simp [fk_bb, c_6, b_7])).trans hR) _ _ _ hP hD hS (lv_sub hl [2, 3, 4, 5, 0] rfl)
  exact loop 8 0 none rfl (by intro w hw; cases hw) rfl _ _ _ hP hD hS (lv_sub hl [3, 4, 2, 1, 0] rfl)

abbrev rmX2_firstLockingAt : Room := { frames := 2, cells := 0, slots := 0, locals := 50 }
set_option maxHeartbeats 4000000 in
set_option maxRecDepth 100000 in
theorem kc_firstLockingAt (l : Launch) (D : va_G) (ad : Nat → Nat) (cI cT cJ : ClassId) (X : va_W) (S : fk_S) (a : Int32) : fk_C l D (fk_ty cI cT cJ) yX2_firstLockingAt wsX2_firstLockingAt rmX2_firstLockingAt [.ref (ad 0), .int a] (fk_kW ad cI cT S ++ X) (fk_vT ad (kk_lk S a)) (fk_kW ad cI cT S ++ X) := by
  refine fk_C_of (cc := cX2_firstLockingAt) (maxL := 2) (ret := (some (.object "FutexKernel$Task"))) (own := RX2) (by decide) rfl rfl (Nat.le_of_ble_eq_true rfl) ?_
  intro p e s m below meth c A ls hx hb hr hlocks hml hts hown hA hP hK hD hl
  have hS : va_S A s.heap s.heap [] := va_S.rf
  have hl : lv_has ls 2 [(0, .ref (ad 0)), (1, .int a)] := hl
  refine lv_aload_n hx hb dX2_firstLockingAt_0 rfl (lv_at hl 0 rfl) ?_
  refine lv_iload_n hx hb dX2_firstLockingAt_1 rfl (lv_at hl 1 rfl) ?_
  refine lv_iconst (v := 2) hx hb dX2_firstLockingAt_2 (by decide) ?_
  refine lv_sipush (v := 255) hx hb dX2_firstLockingAt_3 (by decide) ?_
  refine fk_callV (As := [.int a, .int 2, .int 255]) (rest := []) ⟨hx, hb, hml, hown, hts⟩ (kc_firstAt l D ad cI cT cJ X S a 2 255) (cwV 3 hts gX2_firstLockingAt_X2_firstAt rfl rfl rfl (by decide +kernel) ⟨Nat.le_of_ble_eq_true rfl, Nat.le_of_ble_eq_true rfl⟩) (fk_rvK hK hP) hK hP hD hS hA rfl hl.1 rfl (Nat.le_of_ble_eq_true rfl) dX2_firstLockingAt_6 ⟨Nat.le_of_ble_eq_true rfl, Nat.le_of_ble_eq_true rfl⟩ (fun H locs hP hD hS => ?_)
  refine W.eq (g2 := F0 m 9 ls [(match kk_lk S a with | none => Value.null | some t9 => Value.ref (ad (3 + t9)))]) rfl ?_
  exact fk_aret hx hb hr (Or.inl ⟨_, rfl⟩) (by cases kk_lk S a with | none => exact Or.inl rfl | some t9 => exact Or.inr ⟨_, rfl⟩) hlocks hP hK hD hS rfl rfl dX2_firstLockingAt_9

abbrev rmX2_countAheadAtAddress : Room := { frames := 1, cells := 0, slots := 0, locals := 21 }
set_option maxHeartbeats 4000000 in
set_option maxRecDepth 100000 in
theorem kc_countAheadAtAddress (l : Launch) (D : va_G) (ad : Nat → Nat) (cI cT cJ : ClassId) (X : va_W) (S : fk_S) (t : Nat) (ht : t < 8) : fk_C l D (fk_ty cI cT cJ) yX2_countAheadAtAddress wsX2_countAheadAtAddress rmX2_countAheadAtAddress [.ref (ad 0), .ref (ad (3 + t))] (fk_kW ad cI cT S ++ X) (some (.int (kk_cntA S t))) (fk_kW ad cI cT S ++ X) := by
  refine fk_C_of (cc := cX2_countAheadAtAddress) (maxL := 7) (ret := (some .int)) (own := RX2) (by decide) rfl rfl (Nat.le_of_ble_eq_true rfl) ?_
  intro p e s m below meth c A ls hx hb hr hlocks hml hts hown hA hP hK hD hl
  have hS : va_S A s.heap s.heap [] := va_S.rf
  have hl : lv_has ls 7 [(0, .ref (ad 0)), (1, .ref (ad (3 + t)))] := hl
  have hiX1 : ∀ w ∈ u_ws RX1 TX1 11, w ∈ wsX2_countAheadAtAddress := by decide +kernel
  have hiX2 : ∀ w ∈ u_ws RX2 TX2 6, w ∈ wsX2_countAheadAtAddress := by decide +kernel
  refine lv_iconst (v := 0) hx hb dX2_countAheadAtAddress_0 (by decide) ?_
  refine lv_istore_n (lv' := [(2, .int 0), (0, .ref (ad 0)), (1, .ref (ad (3 + t)))]) hx hb dX2_countAheadAtAddress_1 rfl hl (by decide) rfl (fun ls hl => ?_)
  refine lv_aload_n hx hb dX2_countAheadAtAddress_2 rfl (lv_at hl 1 rfl) ?_
  refine fk_getK hx hb hts hiX2 hown hK hP 1 (by decide) (v := .ref (ad 2)) rfl (List.mem_of_getElem? (i := 1) rfl) rfl dX2_countAheadAtAddress_3 ?_
  refine lv_astore_n (lv' := [(3, .ref (ad 2)), (2, .int 0), (0, .ref (ad 0)), (1, .ref (ad (3 + t)))]) hx hb dX2_countAheadAtAddress_6 rfl hl (by decide) rfl (fun ls hl => ?_)
  refine lv_aload_n hx hb dX2_countAheadAtAddress_7 rfl (lv_at hl 0 rfl) ?_
  refine fk_lenA hx hb hK hP dX2_countAheadAtAddress_8 ?_
  refine lv_istore (lv' := [(4, .int 8), (3, .ref (ad 2)), (2, .int 0), (0, .ref (ad 0)), (1, .ref (ad (3 + t)))]) hx hb dX2_countAheadAtAddress_9 hl (by decide) rfl (fun ls hl => ?_)
  refine lv_iconst (v := 0) hx hb dX2_countAheadAtAddress_11 (by decide) ?_
  refine lv_istore (lv' := [(5, .int 0), (4, .int 8), (3, .ref (ad 2)), (2, .int 0), (0, .ref (ad 0)), (1, .ref (ad (3 + t)))]) hx hb dX2_countAheadAtAddress_12 hl (by decide) rfl (fun ls hl => ?_)
  have loop : ∀ (n : Nat) (i : Nat) (x : Int32), i + n = 8 → fk_lp (kk_cnt1 (fun u => decide (S 3 u = S 3 t) && kk_ahead S u t)) n i x = kk_cntA S t → ∀ (H : Heap) (locs : List Loc) (ls : Array Slot), va_P D vwCl (fk_kW ad cI cT S ++ X) H → va_D A (fk_kW ad cI cT S ++ X) → va_S A s.heap H locs → lv_has ls 7 [(2, .int x), (0, .ref (ad 0)), (1, .ref (ad (3 + t))), (3, .ref (ad 2)), (4, .int 8), (5, .int (nI i))] → W p l e rmX2_countAheadAtAddress s m ([.ref (ad 0), .ref (ad (3 + t))] : List Value).toArray below meth c H locs 0 0 (fk_Q below D (fk_ty cI cT cJ) [.ref (ad 0), .ref (ad (3 + t))] s A (fk_kW ad cI cT S ++ X) (some (.int (kk_cntA S t)))) (F0 m 14 ls []) := by
    intro n
    induction n with
    | zero =>
      intro i x hi hR H locs ls hP hD hS hl
      refine lv_iload hx hb dX2_countAheadAtAddress_14 (lv_at hl 5 rfl) ?_
      refine lv_iload hx hb dX2_countAheadAtAddress_16 (lv_at hl 4 rfl) ?_
      refine lv_icmp_ge (tgt := 57) hx hb dX2_countAheadAtAddress_18 (by decide) (fun c_1 => ?_) (fun c_1 => absurd (nI_le (a := 8) (b := i) (by omega) (by omega)) c_1)
      refine lv_iload_n hx hb dX2_countAheadAtAddress_57 rfl (lv_at hl 0 rfl) ?_
      exact fk_iret hx hb hr hlocks hP hK hD hS (congrArg (fun z => fk_kW ad cI cT z ++ X) (by first | rfl | simp [c_1])) (by rw [← hR]; rfl) dX2_countAheadAtAddress_58
    | succ n ih =>
      intro i x hi hR H locs ls hP hD hS hl
      refine lv_iload hx hb dX2_countAheadAtAddress_14 (lv_at hl 5 rfl) ?_
      refine lv_iload hx hb dX2_countAheadAtAddress_16 (lv_at hl 4 rfl) ?_
      refine lv_icmp_ge (tgt := 57) hx hb dX2_countAheadAtAddress_18 (by decide) (fun c_2 => absurd c_2 (nI_ge (a := i) (b := 8) (by omega) (by omega))) (fun c_2 => ?_)
      refine lv_aload_n hx hb dX2_countAheadAtAddress_21 rfl (lv_at hl 3 rfl) ?_
      refine lv_iload hx hb dX2_countAheadAtAddress_22 (lv_at hl 5 rfl) ?_
      refine fk_ldA hx hb hK hP (vp_in_nI (show i < 8 from (by omega)) (by decide)) dX2_countAheadAtAddress_24 ?_
      refine W.eq (g2 := F0 m 25 ls [.ref (ad (3 + i))]) (by rw [nI_clamp (by omega)]) ?_
      refine lv_astore (lv' := [(6, .ref (ad (3 + i))), (2, .int x), (0, .ref (ad 0)), (1, .ref (ad (3 + t))), (3, .ref (ad 2)), (4, .int 8), (5, .int (nI i))]) hx hb dX2_countAheadAtAddress_25 hl (by decide) rfl (fun ls hl => ?_)
      refine lv_aload hx hb dX2_countAheadAtAddress_27 (lv_at hl 0 rfl) ?_
      refine fk_getT hx hb hts hiX1 hown hK hP (by omega) 4 (by decide) (v := .int (S 3 i)) rfl (List.mem_of_getElem? (i := 2) rfl) rfl dX2_countAheadAtAddress_29 ?_
      refine lv_aload_n hx hb dX2_countAheadAtAddress_32 rfl (lv_at hl 3 rfl) ?_
      refine fk_getT hx hb hts hiX1 hown hK hP ht 4 (by decide) (v := .int (S 3 t)) rfl (List.mem_of_getElem? (i := 2) rfl) rfl dX2_countAheadAtAddress_33 ?_
      refine lv_icmp_ne (tgt := 51) hx hb dX2_countAheadAtAddress_36 (by decide) (fun c_3 => ?_) (fun c_3 => ?_)
      · refine lv_iinc (v := (nI (i + 1))) (lv' := [(5, .int (nI (i + 1))), (6, .ref (ad (3 + i))), (2, .int x), (0, .ref (ad 0)), (1, .ref (ad (3 + t))), (3, .ref (ad 2)), (4, .int 8)]) hx hb dX2_countAheadAtAddress_51 hl (k := 6) rfl (nI_1 i) (by decide) rfl (fun ls hl => ?_)
        refine lv_goto (tgt := 14) hx hb dX2_countAheadAtAddress_54 (by decide) ?_
        exact ih (i + 1) x (by omega) ((congrArg (fk_lp _ n (i + 1)) (show x = kk_cnt1 (fun u => decide (S 3 u = S 3 t) && kk_ahead S u t) i x from by simp [kk_cnt1, c_3])).trans hR) _ _ _ hP hD hS (lv_sub hl [2, 3, 4, 5, 6, 0] rfl)
      · refine lv_aload hx hb dX2_countAheadAtAddress_39 (lv_at hl 0 rfl) ?_
        refine lv_aload_n hx hb dX2_countAheadAtAddress_41 rfl (lv_at hl 3 rfl) ?_
        refine fk_callV (As := [.ref (ad (3 + t))]) (rest := []) ⟨hx, hb, hml, hown, hts⟩ (kc_isAheadOf l D ad cI cT cJ X S i t (by omega) ht) (cwV 1 hts gX2_countAheadAtAddress_X1_isAheadOf rfl rfl rfl (by decide +kernel) ⟨Nat.le_of_ble_eq_true rfl, Nat.le_of_ble_eq_true rfl⟩) (fk_rvT hK hP (by omega)) hK hP hD hS hA rfl hl.1 rfl (Nat.le_of_ble_eq_true rfl) dX2_countAheadAtAddress_42 ⟨Nat.le_of_ble_eq_true rfl, Nat.le_of_ble_eq_true rfl⟩ (fun H locs hP hD hS => ?_)
        cases b_4 : kk_ahead S i t with
        | true =>
          refine W.eq (g2 := F0 m 45 ls [.int 1]) (by first | rfl | (rw [b_4]; rfl)) ?_
          refine lv_if_eq (tgt := 51) hx hb dX2_countAheadAtAddress_45 (by decide) (fun c => absurd c (by decide)) (fun _ => ?_)
          refine lv_iinc (v := (x + 1)) (lv' := [(2, .int (x + 1)), (6, .ref (ad (3 + i))), (0, .ref (ad 0)), (1, .ref (ad (3 + t))), (3, .ref (ad 2)), (4, .int 8), (5, .int (nI i))]) hx hb dX2_countAheadAtAddress_48 hl (k := 1) rfl rfl (by decide) rfl (fun ls hl => ?_)
          refine lv_iinc (v := (nI (i + 1))) (lv' := [(5, .int (nI (i + 1))), (2, .int (x + 1)), (6, .ref (ad (3 + i))), (0, .ref (ad 0)), (1, .ref (ad (3 + t))), (3, .ref (ad 2)), (4, .int 8)]) hx hb dX2_countAheadAtAddress_51 hl (k := 6) rfl (nI_1 i) (by decide) rfl (fun ls hl => ?_)
          refine lv_goto (tgt := 14) hx hb dX2_countAheadAtAddress_54 (by decide) ?_
          exact ih (i + 1) (x + 1) (by omega) ((congrArg (fk_lp _ n (i + 1)) (show (x + 1) = kk_cnt1 (fun u => decide (S 3 u = S 3 t) && kk_ahead S u t) i x from by simp [kk_cnt1, c_3, b_4])).trans hR) _ _ _ hP hD hS (lv_sub hl [1, 3, 4, 5, 6, 0] rfl)
        | false =>
          refine W.eq (g2 := F0 m 45 ls [.int 0]) (by first | rfl | (rw [b_4]; rfl)) ?_
          refine lv_if_eq (tgt := 51) hx hb dX2_countAheadAtAddress_45 (by decide) (fun _ => ?_) (fun c => absurd c (by decide))
          refine lv_iinc (v := (nI (i + 1))) (lv' := [(5, .int (nI (i + 1))), (6, .ref (ad (3 + i))), (2, .int x), (0, .ref (ad 0)), (1, .ref (ad (3 + t))), (3, .ref (ad 2)), (4, .int 8)]) hx hb dX2_countAheadAtAddress_51 hl (k := 6) rfl (nI_1 i) (by decide) rfl (fun ls hl => ?_)
          refine lv_goto (tgt := 14) hx hb dX2_countAheadAtAddress_54 (by decide) ?_
          exact ih (i + 1) x (by omega) ((congrArg (fk_lp _ n (i + 1)) (show x = kk_cnt1 (fun u => decide (S 3 u = S 3 t) && kk_ahead S u t) i x from by simp [kk_cnt1, c_3, b_4])).trans hR) _ _ _ hP hD hS (lv_sub hl [2, 3, 4, 5, 6, 0] rfl)
  exact loop 8 0 0 rfl rfl _ _ _ hP hD hS (lv_sub hl [3, 4, 5, 2, 1, 0] rfl)

abbrev rmX2_countAheadInBucket : Room := { frames := 1, cells := 0, slots := 0, locals := 21 }
set_option maxHeartbeats 4000000 in
set_option maxRecDepth 100000 in
theorem kc_countAheadInBucket (l : Launch) (D : va_G) (ad : Nat → Nat) (cI cT cJ : ClassId) (X : va_W) (S : fk_S) (t : Nat) (ht : t < 8) : fk_C l D (fk_ty cI cT cJ) yX2_countAheadInBucket wsX2_countAheadInBucket rmX2_countAheadInBucket [.ref (ad 0), .ref (ad (3 + t))] (fk_kW ad cI cT S ++ X) (some (.int (kk_cntB S t))) (fk_kW ad cI cT S ++ X) := by
  refine fk_C_of (cc := cX2_countAheadInBucket) (maxL := 7) (ret := (some .int)) (own := RX2) (by decide) rfl rfl (Nat.le_of_ble_eq_true rfl) ?_
  intro p e s m below meth c A ls hx hb hr hlocks hml hts hown hA hP hK hD hl
  have hS : va_S A s.heap s.heap [] := va_S.rf
  have hl : lv_has ls 7 [(0, .ref (ad 0)), (1, .ref (ad (3 + t)))] := hl
  have hiX1 : ∀ w ∈ u_ws RX1 TX1 11, w ∈ wsX2_countAheadInBucket := by decide +kernel
  have hiX2 : ∀ w ∈ u_ws RX2 TX2 6, w ∈ wsX2_countAheadInBucket := by decide +kernel
  refine lv_iconst (v := 0) hx hb dX2_countAheadInBucket_0 (by decide) ?_
  refine lv_istore_n (lv' := [(2, .int 0), (0, .ref (ad 0)), (1, .ref (ad (3 + t)))]) hx hb dX2_countAheadInBucket_1 rfl hl (by decide) rfl (fun ls hl => ?_)
  refine lv_aload_n hx hb dX2_countAheadInBucket_2 rfl (lv_at hl 1 rfl) ?_
  refine fk_getK hx hb hts hiX2 hown hK hP 1 (by decide) (v := .ref (ad 2)) rfl (List.mem_of_getElem? (i := 1) rfl) rfl dX2_countAheadInBucket_3 ?_
  refine lv_astore_n (lv' := [(3, .ref (ad 2)), (2, .int 0), (0, .ref (ad 0)), (1, .ref (ad (3 + t)))]) hx hb dX2_countAheadInBucket_6 rfl hl (by decide) rfl (fun ls hl => ?_)
  refine lv_aload_n hx hb dX2_countAheadInBucket_7 rfl (lv_at hl 0 rfl) ?_
  refine fk_lenA hx hb hK hP dX2_countAheadInBucket_8 ?_
  refine lv_istore (lv' := [(4, .int 8), (3, .ref (ad 2)), (2, .int 0), (0, .ref (ad 0)), (1, .ref (ad (3 + t)))]) hx hb dX2_countAheadInBucket_9 hl (by decide) rfl (fun ls hl => ?_)
  refine lv_iconst (v := 0) hx hb dX2_countAheadInBucket_11 (by decide) ?_
  refine lv_istore (lv' := [(5, .int 0), (4, .int 8), (3, .ref (ad 2)), (2, .int 0), (0, .ref (ad 0)), (1, .ref (ad (3 + t)))]) hx hb dX2_countAheadInBucket_12 hl (by decide) rfl (fun ls hl => ?_)
  have loop : ∀ (n : Nat) (i : Nat) (x : Int32), i + n = 8 → fk_lp (kk_cnt1 (fun u => kk_q S u && decide (fk_bkt (S 3 u) = fk_bkt (S 3 t)) && kk_ahead S u t)) n i x = kk_cntB S t → ∀ (H : Heap) (locs : List Loc) (ls : Array Slot), va_P D vwCl (fk_kW ad cI cT S ++ X) H → va_D A (fk_kW ad cI cT S ++ X) → va_S A s.heap H locs → lv_has ls 7 [(2, .int x), (0, .ref (ad 0)), (1, .ref (ad (3 + t))), (3, .ref (ad 2)), (4, .int 8), (5, .int (nI i))] → W p l e rmX2_countAheadInBucket s m ([.ref (ad 0), .ref (ad (3 + t))] : List Value).toArray below meth c H locs 0 0 (fk_Q below D (fk_ty cI cT cJ) [.ref (ad 0), .ref (ad (3 + t))] s A (fk_kW ad cI cT S ++ X) (some (.int (kk_cntB S t)))) (F0 m 14 ls []) := by
    intro n
    induction n with
    | zero =>
      intro i x hi hR H locs ls hP hD hS hl
      refine lv_iload hx hb dX2_countAheadInBucket_14 (lv_at hl 5 rfl) ?_
      refine lv_iload hx hb dX2_countAheadInBucket_16 (lv_at hl 4 rfl) ?_
      refine lv_icmp_ge (tgt := 71) hx hb dX2_countAheadInBucket_18 (by decide) (fun c_1 => ?_) (fun c_1 => absurd (nI_le (a := 8) (b := i) (by omega) (by omega)) c_1)
      refine lv_iload_n hx hb dX2_countAheadInBucket_71 rfl (lv_at hl 0 rfl) ?_
      exact fk_iret hx hb hr hlocks hP hK hD hS (congrArg (fun z => fk_kW ad cI cT z ++ X) (by first | rfl | simp [c_1])) (by rw [← hR]; rfl) dX2_countAheadInBucket_72
    | succ n ih =>
      intro i x hi hR H locs ls hP hD hS hl
      refine lv_iload hx hb dX2_countAheadInBucket_14 (lv_at hl 5 rfl) ?_
      refine lv_iload hx hb dX2_countAheadInBucket_16 (lv_at hl 4 rfl) ?_
      refine lv_icmp_ge (tgt := 71) hx hb dX2_countAheadInBucket_18 (by decide) (fun c_2 => absurd c_2 (nI_ge (a := i) (b := 8) (by omega) (by omega))) (fun c_2 => ?_)
      refine lv_aload_n hx hb dX2_countAheadInBucket_21 rfl (lv_at hl 3 rfl) ?_
      refine lv_iload hx hb dX2_countAheadInBucket_22 (lv_at hl 5 rfl) ?_
      refine fk_ldA hx hb hK hP (vp_in_nI (show i < 8 from (by omega)) (by decide)) dX2_countAheadInBucket_24 ?_
      refine W.eq (g2 := F0 m 25 ls [.ref (ad (3 + i))]) (by rw [nI_clamp (by omega)]) ?_
      refine lv_astore (lv' := [(6, .ref (ad (3 + i))), (2, .int x), (0, .ref (ad 0)), (1, .ref (ad (3 + t))), (3, .ref (ad 2)), (4, .int 8), (5, .int (nI i))]) hx hb dX2_countAheadInBucket_25 hl (by decide) rfl (fun ls hl => ?_)
      refine lv_aload hx hb dX2_countAheadInBucket_27 (lv_at hl 0 rfl) ?_
      refine fk_callV (As := []) (rest := []) ⟨hx, hb, hml, hown, hts⟩ (kc_isQueued l D ad cI cT cJ X S i (by omega)) (cwV 0 hts gX2_countAheadInBucket_X1_isQueued rfl rfl rfl (by decide +kernel) ⟨Nat.le_of_ble_eq_true rfl, Nat.le_of_ble_eq_true rfl⟩) (fk_rvT hK hP (by omega)) hK hP hD hS hA rfl hl.1 rfl (Nat.le_of_ble_eq_true rfl) dX2_countAheadInBucket_29 ⟨Nat.le_of_ble_eq_true rfl, Nat.le_of_ble_eq_true rfl⟩ (fun H locs hP hD hS => ?_)
      cases b_3 : kk_q S i with
      | true =>
        refine W.eq (g2 := F0 m 32 ls [.int 1]) (by first | rfl | (rw [b_3]; rfl)) ?_
        refine lv_if_eq (tgt := 65) hx hb dX2_countAheadInBucket_32 (by decide) (fun c => absurd c (by decide)) (fun _ => ?_)
        refine lv_aload hx hb dX2_countAheadInBucket_35 (lv_at hl 0 rfl) ?_
        refine fk_getT hx hb hts hiX1 hown hK hP (by omega) 4 (by decide) (v := .int (S 3 i)) rfl (List.mem_of_getElem? (i := 2) rfl) rfl dX2_countAheadInBucket_37 ?_
        refine fk_callS (As := [.int (S 3 i)]) (rest := []) ⟨hx, hb, hml, hown, hts⟩ (kc_bucketOf l D ad cI cT cJ X S (S 3 i)) (va_cwS 1 hts gX2_countAheadInBucket_X2_bucketOf rfl rfl rfl (by decide +kernel) ⟨Nat.le_of_ble_eq_true rfl, Nat.le_of_ble_eq_true rfl⟩) hK hP hD hS hA rfl hl.1 rfl (Nat.le_of_ble_eq_true rfl) dX2_countAheadInBucket_40 ⟨Nat.le_of_ble_eq_true rfl, Nat.le_of_ble_eq_true rfl⟩ (fun H locs hP hD hS => ?_)
        refine W.eq (g2 := F0 m 43 ls [.int (fk_bkt (S 3 i))]) rfl ?_
        refine lv_aload_n hx hb dX2_countAheadInBucket_43 rfl (lv_at hl 3 rfl) ?_
        refine fk_getT hx hb hts hiX1 hown hK hP ht 4 (by decide) (v := .int (S 3 t)) rfl (List.mem_of_getElem? (i := 2) rfl) rfl dX2_countAheadInBucket_44 ?_
        refine fk_callS (As := [.int (S 3 t)]) (rest := [.int (fk_bkt (S 3 i))]) ⟨hx, hb, hml, hown, hts⟩ (kc_bucketOf l D ad cI cT cJ X S (S 3 t)) (va_cwS 1 hts gX2_countAheadInBucket_X2_bucketOf rfl rfl rfl (by decide +kernel) ⟨Nat.le_of_ble_eq_true rfl, Nat.le_of_ble_eq_true rfl⟩) hK hP hD hS hA rfl hl.1 rfl (Nat.le_of_ble_eq_true rfl) dX2_countAheadInBucket_47 ⟨Nat.le_of_ble_eq_true rfl, Nat.le_of_ble_eq_true rfl⟩ (fun H locs hP hD hS => ?_)
        refine W.eq (g2 := F0 m 50 ls [.int (fk_bkt (S 3 t)), .int (fk_bkt (S 3 i))]) rfl ?_
        refine lv_icmp_ne (tgt := 65) hx hb dX2_countAheadInBucket_50 (by decide) (fun c_5 => ?_) (fun c_5 => ?_)
        · refine lv_iinc (v := (nI (i + 1))) (lv' := [(5, .int (nI (i + 1))), (6, .ref (ad (3 + i))), (2, .int x), (0, .ref (ad 0)), (1, .ref (ad (3 + t))), (3, .ref (ad 2)), (4, .int 8)]) hx hb dX2_countAheadInBucket_65 hl (k := 6) rfl (nI_1 i) (by decide) rfl (fun ls hl => ?_)
          refine lv_goto (tgt := 14) hx hb dX2_countAheadInBucket_68 (by decide) ?_
          exact ih (i + 1) x (by omega) ((congrArg (fk_lp _ n (i + 1)) (show x = kk_cnt1 (fun u => kk_q S u && decide (fk_bkt (S 3 u) = fk_bkt (S 3 t)) && kk_ahead S u t) i x from by simp [kk_cnt1, b_3, c_5])).trans hR) _ _ _ hP hD hS (lv_sub hl [2, 3, 4, 5, 6, 0] rfl)
        · refine lv_aload hx hb dX2_countAheadInBucket_53 (lv_at hl 0 rfl) ?_
          refine lv_aload_n hx hb dX2_countAheadInBucket_55 rfl (lv_at hl 3 rfl) ?_
          refine fk_callV (As := [.ref (ad (3 + t))]) (rest := []) ⟨hx, hb, hml, hown, hts⟩ (kc_isAheadOf l D ad cI cT cJ X S i t (by omega) ht) (cwV 1 hts gX2_countAheadInBucket_X1_isAheadOf rfl rfl rfl (by decide +kernel) ⟨Nat.le_of_ble_eq_true rfl, Nat.le_of_ble_eq_true rfl⟩) (fk_rvT hK hP (by omega)) hK hP hD hS hA rfl hl.1 rfl (Nat.le_of_ble_eq_true rfl) dX2_countAheadInBucket_56 ⟨Nat.le_of_ble_eq_true rfl, Nat.le_of_ble_eq_true rfl⟩ (fun H locs hP hD hS => ?_)
          cases b_6 : kk_ahead S i t with
          | true =>
            refine W.eq (g2 := F0 m 59 ls [.int 1]) (by first | rfl | (rw [b_6]; rfl)) ?_
            refine lv_if_eq (tgt := 65) hx hb dX2_countAheadInBucket_59 (by decide) (fun c => absurd c (by decide)) (fun _ => ?_)
            refine lv_iinc (v := (x + 1)) (lv' := [(2, .int (x + 1)), (6, .ref (ad (3 + i))), (0, .ref (ad 0)), (1, .ref (ad (3 + t))), (3, .ref (ad 2)), (4, .int 8), (5, .int (nI i))]) hx hb dX2_countAheadInBucket_62 hl (k := 1) rfl rfl (by decide) rfl (fun ls hl => ?_)
            refine lv_iinc (v := (nI (i + 1))) (lv' := [(5, .int (nI (i + 1))), (2, .int (x + 1)), (6, .ref (ad (3 + i))), (0, .ref (ad 0)), (1, .ref (ad (3 + t))), (3, .ref (ad 2)), (4, .int 8)]) hx hb dX2_countAheadInBucket_65 hl (k := 6) rfl (nI_1 i) (by decide) rfl (fun ls hl => ?_)
            refine lv_goto (tgt := 14) hx hb dX2_countAheadInBucket_68 (by decide) ?_
            exact ih (i + 1) (x + 1) (by omega) ((congrArg (fk_lp _ n (i + 1)) (show (x + 1) = kk_cnt1 (fun u => kk_q S u && decide (fk_bkt (S 3 u) = fk_bkt (S 3 t)) && kk_ahead S u t) i x from by simp [kk_cnt1, b_3, c_5, b_6])).trans hR) _ _ _ hP hD hS (lv_sub hl [1, 3, 4, 5, 6, 0] rfl)
          | false =>
            refine W.eq (g2 := F0 m 59 ls [.int 0]) (by first | rfl | (rw [b_6]; rfl)) ?_
            refine lv_if_eq (tgt := 65) hx hb dX2_countAheadInBucket_59 (by decide) (fun _ => ?_) (fun c => absurd c (by decide))
            refine lv_iinc (v := (nI (i + 1))) (lv' := [(5, .int (nI (i + 1))), (6, .ref (ad (3 + i))), (2, .int x), (0, .ref (ad 0)), (1, .ref (ad (3 + t))), (3, .ref (ad 2)), (4, .int 8)]) hx hb dX2_countAheadInBucket_65 hl (k := 6) rfl (nI_1 i) (by decide) rfl (fun ls hl => ?_)
            refine lv_goto (tgt := 14) hx hb dX2_countAheadInBucket_68 (by decide) ?_
            exact ih (i + 1) x (by omega) ((congrArg (fk_lp _ n (i + 1)) (show x = kk_cnt1 (fun u => kk_q S u && decide (fk_bkt (S 3 u) = fk_bkt (S 3 t)) && kk_ahead S u t) i x from by simp [kk_cnt1, b_3, c_5, b_6])).trans hR) _ _ _ hP hD hS (lv_sub hl [2, 3, 4, 5, 6, 0] rfl)
      | false =>
        refine W.eq (g2 := F0 m 32 ls [.int 0]) (by first | rfl | (rw [b_3]; rfl)) ?_
        refine lv_if_eq (tgt := 65) hx hb dX2_countAheadInBucket_32 (by decide) (fun _ => ?_) (fun c => absurd c (by decide))
        refine lv_iinc (v := (nI (i + 1))) (lv' := [(5, .int (nI (i + 1))), (6, .ref (ad (3 + i))), (2, .int x), (0, .ref (ad 0)), (1, .ref (ad (3 + t))), (3, .ref (ad 2)), (4, .int 8)]) hx hb dX2_countAheadInBucket_65 hl (k := 6) rfl (nI_1 i) (by decide) rfl (fun ls hl => ?_)
        refine lv_goto (tgt := 14) hx hb dX2_countAheadInBucket_68 (by decide) ?_
        exact ih (i + 1) x (by omega) ((congrArg (fk_lp _ n (i + 1)) (show x = kk_cnt1 (fun u => kk_q S u && decide (fk_bkt (S 3 u) = fk_bkt (S 3 t)) && kk_ahead S u t) i x from by simp [kk_cnt1, b_3])).trans hR) _ _ _ hP hD hS (lv_sub hl [2, 3, 4, 5, 6, 0] rfl)
  exact loop 8 0 0 rfl rfl _ _ _ hP hD hS (lv_sub hl [3, 4, 5, 2, 1, 0] rfl)

abbrev rmX2_ownerAt : Room := { frames := 1, cells := 0, slots := 0, locals := 20 }
set_option maxHeartbeats 4000000 in
set_option maxRecDepth 100000 in
theorem kc_ownerAt (l : Launch) (D : va_G) (ad : Nat → Nat) (cI cT cJ : ClassId) (X : va_W) (S : fk_S) (a : Int32) : fk_C l D (fk_ty cI cT cJ) yX2_ownerAt wsX2_ownerAt rmX2_ownerAt [.ref (ad 0), .int a] (fk_kW ad cI cT S ++ X) (fk_vT ad (kk_owner S a)) (fk_kW ad cI cT S ++ X) := by
  refine fk_C_of (cc := cX2_ownerAt) (maxL := 3) (ret := (some (.object "FutexKernel$Task"))) (own := RX2) (by decide) rfl rfl (Nat.le_of_ble_eq_true rfl) ?_
  intro p e s m below meth c A ls hx hb hr hlocks hml hts hown hA hP hK hD hl
  have hS : va_S A s.heap s.heap [] := va_S.rf
  have hl : lv_has ls 3 [(0, .ref (ad 0)), (1, .int a)] := hl
  have hiX2 : ∀ w ∈ u_ws RX2 TX2 6, w ∈ wsX2_ownerAt := by decide +kernel
  refine lv_iload_n hx hb dX2_ownerAt_0 rfl (lv_at hl 1 rfl) ?_
  refine fk_callS (As := [.int a]) (rest := []) ⟨hx, hb, hml, hown, hts⟩ (kc_isAddress l D ad cI cT cJ X S a) (va_cwS 1 hts gX2_ownerAt_X2_isAddress rfl rfl rfl (by decide +kernel) ⟨Nat.le_of_ble_eq_true rfl, Nat.le_of_ble_eq_true rfl⟩) hK hP hD hS hA rfl hl.1 rfl (Nat.le_of_ble_eq_true rfl) dX2_ownerAt_1 ⟨Nat.le_of_ble_eq_true rfl, Nat.le_of_ble_eq_true rfl⟩ (fun H locs hP hD hS => ?_)
  cases b_1 : fk_isA a with
  | true =>
    refine W.eq (g2 := F0 m 4 ls [.int 1]) (by first | rfl | (rw [b_1]; rfl)) ?_
    refine lv_if_ne (tgt := 9) hx hb dX2_ownerAt_4 (by decide) (fun _ => ?_) (fun c => absurd c (by decide))
    refine lv_aload_n hx hb dX2_ownerAt_9 rfl (lv_at hl 0 rfl) ?_
    refine fk_getK hx hb hts hiX2 hown hK hP 0 (by decide) (v := .ref (ad 1)) rfl (List.mem_of_getElem? (i := 1) rfl) rfl dX2_ownerAt_10 ?_
    refine lv_iload_n hx hb dX2_ownerAt_13 rfl (lv_at hl 1 rfl) ?_
    refine fk_ldW hx hb hK hP (fk_isA_in b_1) dX2_ownerAt_14 ?_
    refine lv_sipush (v := 255) hx hb dX2_ownerAt_15 (by decide) ?_
    refine lv_iand hx hb dX2_ownerAt_18 ?_
    refine lv_istore_n (lv' := [(2, .int ((S 0 a.toNatClampNeg) &&& 255)), (0, .ref (ad 0)), (1, .int a)]) hx hb dX2_ownerAt_19 rfl hl (by decide) rfl (fun ls hl => ?_)
    refine lv_iload_n hx hb dX2_ownerAt_20 rfl (lv_at hl 0 rfl) ?_
    refine lv_iconst (v := 1) hx hb dX2_ownerAt_21 (by decide) ?_
    refine lv_icmp_lt (tgt := 42) hx hb dX2_ownerAt_22 (by decide) (fun c_3 => ?_) (fun c_3 => ?_)
    · refine lv_null hx hb dX2_ownerAt_42 ?_
      exact fk_aret hx hb hr (Or.inl ⟨_, rfl⟩) (Or.inl rfl) hlocks hP hK hD hS (congrArg (fun z => fk_kW ad cI cT z ++ X) (by first | rfl | simp [b_1, c_3, Int32.not_le.mpr c_3])) (by first | rfl | simp [kk_owner, fk_vT, b_1, c_3, Int32.not_le.mpr c_3]) dX2_ownerAt_43
    · refine lv_iload_n hx hb dX2_ownerAt_25 rfl (lv_at hl 0 rfl) ?_
      refine lv_bipush (v := 8) hx hb dX2_ownerAt_26 (by decide) ?_
      refine lv_icmp_gt (tgt := 42) hx hb dX2_ownerAt_28 (by decide) (fun c_4 => ?_) (fun c_4 => ?_)
      · refine lv_null hx hb dX2_ownerAt_42 ?_
        exact fk_aret hx hb hr (Or.inl ⟨_, rfl⟩) (Or.inl rfl) hlocks hP hK hD hS (congrArg (fun z => fk_kW ad cI cT z ++ X) (by first | rfl | simp [b_1, c_3, Int32.not_lt.mp c_3, c_4, Int32.not_le.mpr c_4])) (by first | rfl | simp [kk_owner, fk_vT, b_1, c_3, Int32.not_lt.mp c_3, c_4, Int32.not_le.mpr c_4]) dX2_ownerAt_43
      · refine lv_aload_n hx hb dX2_ownerAt_31 rfl (lv_at hl 1 rfl) ?_
        refine fk_getK hx hb hts hiX2 hown hK hP 1 (by decide) (v := .ref (ad 2)) rfl (List.mem_of_getElem? (i := 2) rfl) rfl dX2_ownerAt_32 ?_
        refine lv_iload_n hx hb dX2_ownerAt_35 rfl (lv_at hl 0 rfl) ?_
        refine lv_iconst (v := 1) hx hb dX2_ownerAt_36 (by decide) ?_
        refine lv_isub hx hb dX2_ownerAt_37 ?_
        refine fk_ldA hx hb hK hP (fk_own_in c_3 c_4) dX2_ownerAt_38 ?_
        refine lv_goto (tgt := 43) hx hb dX2_ownerAt_39 (by decide) ?_
        exact fk_aret hx hb hr (Or.inl ⟨_, rfl⟩) (Or.inr ⟨_, rfl⟩) hlocks hP hK hD hS (congrArg (fun z => fk_kW ad cI cT z ++ X) (by first | rfl | simp [b_1, c_3, Int32.not_lt.mp c_3, c_4, Int32.not_lt.mp c_4])) (by first | rfl | simp [kk_owner, fk_vT, b_1, c_3, Int32.not_lt.mp c_3, c_4, Int32.not_lt.mp c_4]) dX2_ownerAt_43
  | false =>
    refine W.eq (g2 := F0 m 4 ls [.int 0]) (by first | rfl | (rw [b_1]; rfl)) ?_
    refine lv_if_ne (tgt := 9) hx hb dX2_ownerAt_4 (by decide) (fun c => absurd c (by decide)) (fun _ => ?_)
    refine lv_null hx hb dX2_ownerAt_7 ?_
    exact fk_aret hx hb hr (Or.inl ⟨_, rfl⟩) (Or.inl rfl) hlocks hP hK hD hS (congrArg (fun z => fk_kW ad cI cT z ++ X) (by first | rfl | simp [b_1])) (by first | rfl | simp [kk_owner, fk_vT, b_1]) dX2_ownerAt_8

abbrev rmX2_beginWait : Room := { frames := 1, cells := 0, slots := 0, locals := 22 }
set_option maxHeartbeats 4000000 in
set_option maxRecDepth 100000 in
theorem kc_beginWait (l : Launch) (D : va_G) (ad : Nat → Nat) (cI cT cJ : ClassId) (X : va_W) (S : fk_S) (t : Nat) (st a mk to : Int32) (ht : t < 8) : fk_C l D (fk_ty cI cT cJ) yX2_beginWait wsX2_beginWait rmX2_beginWait [.ref (ad 0), .ref (ad (3 + t)), .int st, .int a, .int mk, .int to] (fk_kW ad cI cT S ++ X) none (fk_kW ad cI cT (kk_begin S t st a mk to) ++ X) := by
  refine fk_C_of (cc := cX2_beginWait) (maxL := 6) (ret := none) (own := RX2) (by decide) rfl rfl (Nat.le_of_ble_eq_true rfl) ?_
  intro p e s m below meth c A ls hx hb hr hlocks hml hts hown hA hP hK hD hl
  have hS : va_S A s.heap s.heap [] := va_S.rf
  have hl : lv_has ls 6 [(0, .ref (ad 0)), (1, .ref (ad (3 + t))), (2, .int st), (3, .int a), (4, .int mk), (5, .int to)] := hl
  have hiX1 : ∀ w ∈ u_ws RX1 TX1 11, w ∈ wsX2_beginWait := by decide +kernel
  have hiX2 : ∀ w ∈ u_ws RX2 TX2 6, w ∈ wsX2_beginWait := by decide +kernel
  refine lv_aload_n hx hb dX2_beginWait_0 rfl (lv_at hl 1 rfl) ?_
  refine lv_iload_n hx hb dX2_beginWait_1 rfl (lv_at hl 2 rfl) ?_
  refine fk_putT (v := st) hx hb hts hiX1 hown hK hP hD hS ht 1 (by decide) (by decide) (by simp [fk_fT, fk_up]) (List.mem_of_getElem? (i := 1) rfl) rfl rfl (by decide +kernel) dX2_beginWait_2 (fun H locs hP hD hS => ?_)
  refine lv_aload_n hx hb dX2_beginWait_5 rfl (lv_at hl 1 rfl) ?_
  refine lv_iload hx hb dX2_beginWait_6 (lv_at hl 4 rfl) ?_
  refine fk_putT (v := mk) hx hb hts hiX1 hown hK hP hD hS ht 4 (by decide) (by decide) (by simp [fk_fT, fk_up]) (List.mem_of_getElem? (i := 2) rfl) rfl rfl (by decide +kernel) dX2_beginWait_8 (fun H locs hP hD hS => ?_)
  refine lv_aload_n hx hb dX2_beginWait_11 rfl (lv_at hl 1 rfl) ?_
  refine lv_iload hx hb dX2_beginWait_12 (lv_at hl 5 rfl) ?_
  refine lv_if_ne (tgt := 21) hx hb dX2_beginWait_14 (by decide) (fun c_1 => ?_) (fun c_1 => ?_)
  · refine lv_aload_n hx hb dX2_beginWait_21 rfl (lv_at hl 0 rfl) ?_
    refine fk_getK hx hb hts hiX2 hown hK hP 2 (by decide) (v := .int (S 12 0)) (by simp [fk_fK, fk_up]) (List.mem_of_getElem? (i := 3) rfl) rfl dX2_beginWait_22 ?_
    refine lv_iload hx hb dX2_beginWait_25 (lv_at hl 5 rfl) ?_
    refine lv_iadd hx hb dX2_beginWait_27 ?_
    refine fk_putT (v := ((S 12 0) + to)) hx hb hts hiX1 hown hK hP hD hS ht 5 (by decide) (by decide) (by simp [fk_fT, fk_up]) (List.mem_of_getElem? (i := 4) rfl) rfl rfl (by decide +kernel) dX2_beginWait_28 (fun H locs hP hD hS => ?_)
    refine lv_aload_n hx hb dX2_beginWait_31 rfl (lv_at hl 0 rfl) ?_
    refine lv_dup hx hb dX2_beginWait_32 rfl ?_
    refine fk_getK hx hb hts hiX2 hown hK hP 4 (by decide) (v := .int (S 12 2)) (by simp [fk_fK, fk_up]) (List.mem_of_getElem? (i := 5) rfl) rfl dX2_beginWait_33 ?_
    refine lv_iconst (v := 1) hx hb dX2_beginWait_36 (by decide) ?_
    refine lv_iadd hx hb dX2_beginWait_37 ?_
    refine fk_putK (v := ((S 12 2) + 1)) hx hb hts hiX2 hown hK hP hD hS 2 (by decide) (by simp [fk_fK, fk_up]) (List.mem_of_getElem? (i := 5) rfl) rfl rfl (by decide +kernel) dX2_beginWait_38 (fun H locs hP hD hS => ?_)
    refine lv_aload_n hx hb dX2_beginWait_41 rfl (lv_at hl 1 rfl) ?_
    refine lv_aload_n hx hb dX2_beginWait_42 rfl (lv_at hl 0 rfl) ?_
    refine fk_getK hx hb hts hiX2 hown hK hP 4 (by decide) (v := .int ((S 12 2) + 1)) (by simp [fk_fK, fk_up]) (List.mem_of_getElem? (i := 5) rfl) rfl dX2_beginWait_43 ?_
    refine fk_putT (v := ((S 12 2) + 1)) hx hb hts hiX1 hown hK hP hD hS ht 6 (by decide) (by decide) (by simp [fk_fT, fk_up]) (List.mem_of_getElem? (i := 6) rfl) rfl rfl (by decide +kernel) dX2_beginWait_46 (fun H locs hP hD hS => ?_)
    refine lv_aload_n hx hb dX2_beginWait_49 rfl (lv_at hl 0 rfl) ?_
    refine lv_aload_n hx hb dX2_beginWait_50 rfl (lv_at hl 1 rfl) ?_
    refine lv_iload_n hx hb dX2_beginWait_51 rfl (lv_at hl 3 rfl) ?_
    refine fk_callV (As := [.ref (ad (3 + t)), .int a]) (rest := []) ⟨hx, hb, hml, hown, hts⟩ (kc_joinQueue l D ad cI cT cJ X (fk_up (fk_up (fk_up (fk_up (fk_up S 1 t st) 4 t mk) 5 t ((S 12 0) + to)) 12 2 ((S 12 2) + 1)) 6 t ((S 12 2) + 1)) t a ht) (cwV 2 hts gX2_beginWait_X2_joinQueue rfl rfl rfl (by decide +kernel) ⟨Nat.le_of_ble_eq_true rfl, Nat.le_of_ble_eq_true rfl⟩) (fk_rvK hK hP) hK hP hD hS hA rfl hl.1 rfl (Nat.le_of_ble_eq_true rfl) dX2_beginWait_52 ⟨Nat.le_of_ble_eq_true rfl, Nat.le_of_ble_eq_true rfl⟩ (fun H locs hP hD hS => ?_)
    refine W.eq (g2 := F0 m 55 ls []) rfl ?_
    exact fk_vret hx hb hr hlocks hP hK hD hS (congrArg (fun z => fk_kW ad cI cT z ++ X) (by first | rfl | simp [kk_begin, c_1])) (by rfl) dX2_beginWait_55
  · refine lv_iconst (v := (-1)) hx hb dX2_beginWait_17 (by decide) ?_
    refine lv_goto (tgt := 28) hx hb dX2_beginWait_18 (by decide) ?_
    refine fk_putT (v := (-1)) hx hb hts hiX1 hown hK hP hD hS ht 5 (by decide) (by decide) (by simp [fk_fT, fk_up]) (List.mem_of_getElem? (i := 4) rfl) rfl rfl (by decide +kernel) dX2_beginWait_28 (fun H locs hP hD hS => ?_)
    refine lv_aload_n hx hb dX2_beginWait_31 rfl (lv_at hl 0 rfl) ?_
    refine lv_dup hx hb dX2_beginWait_32 rfl ?_
    refine fk_getK hx hb hts hiX2 hown hK hP 4 (by decide) (v := .int (S 12 2)) (by simp [fk_fK, fk_up]) (List.mem_of_getElem? (i := 5) rfl) rfl dX2_beginWait_33 ?_
    refine lv_iconst (v := 1) hx hb dX2_beginWait_36 (by decide) ?_
    refine lv_iadd hx hb dX2_beginWait_37 ?_
    refine fk_putK (v := ((S 12 2) + 1)) hx hb hts hiX2 hown hK hP hD hS 2 (by decide) (by simp [fk_fK, fk_up]) (List.mem_of_getElem? (i := 5) rfl) rfl rfl (by decide +kernel) dX2_beginWait_38 (fun H locs hP hD hS => ?_)
    refine lv_aload_n hx hb dX2_beginWait_41 rfl (lv_at hl 1 rfl) ?_
    refine lv_aload_n hx hb dX2_beginWait_42 rfl (lv_at hl 0 rfl) ?_
    refine fk_getK hx hb hts hiX2 hown hK hP 4 (by decide) (v := .int ((S 12 2) + 1)) (by simp [fk_fK, fk_up]) (List.mem_of_getElem? (i := 5) rfl) rfl dX2_beginWait_43 ?_
    refine fk_putT (v := ((S 12 2) + 1)) hx hb hts hiX1 hown hK hP hD hS ht 6 (by decide) (by decide) (by simp [fk_fT, fk_up]) (List.mem_of_getElem? (i := 6) rfl) rfl rfl (by decide +kernel) dX2_beginWait_46 (fun H locs hP hD hS => ?_)
    refine lv_aload_n hx hb dX2_beginWait_49 rfl (lv_at hl 0 rfl) ?_
    refine lv_aload_n hx hb dX2_beginWait_50 rfl (lv_at hl 1 rfl) ?_
    refine lv_iload_n hx hb dX2_beginWait_51 rfl (lv_at hl 3 rfl) ?_
    refine fk_callV (As := [.ref (ad (3 + t)), .int a]) (rest := []) ⟨hx, hb, hml, hown, hts⟩ (kc_joinQueue l D ad cI cT cJ X (fk_up (fk_up (fk_up (fk_up (fk_up S 1 t st) 4 t mk) 5 t (-1)) 12 2 ((S 12 2) + 1)) 6 t ((S 12 2) + 1)) t a ht) (cwV 2 hts gX2_beginWait_X2_joinQueue rfl rfl rfl (by decide +kernel) ⟨Nat.le_of_ble_eq_true rfl, Nat.le_of_ble_eq_true rfl⟩) (fk_rvK hK hP) hK hP hD hS hA rfl hl.1 rfl (Nat.le_of_ble_eq_true rfl) dX2_beginWait_52 ⟨Nat.le_of_ble_eq_true rfl, Nat.le_of_ble_eq_true rfl⟩ (fun H locs hP hD hS => ?_)
    refine W.eq (g2 := F0 m 55 ls []) rfl ?_
    exact fk_vret hx hb hr hlocks hP hK hD hS (congrArg (fun z => fk_kW ad cI cT z ++ X) (by first | rfl | simp [kk_begin, c_1])) (by rfl) dX2_beginWait_55

abbrev rmX2_leaveQueue : Room := { frames := 3, cells := 0, slots := 0, locals := 71 }
set_option maxHeartbeats 4000000 in
set_option maxRecDepth 100000 in
theorem kc_leaveQueue (l : Launch) (D : va_G) (ad : Nat → Nat) (cI cT cJ : ClassId) (X : va_W) (S : fk_S) (t : Nat) (ht : t < 8) : fk_C l D (fk_ty cI cT cJ) yX2_leaveQueue wsX2_leaveQueue rmX2_leaveQueue [.ref (ad 0), .ref (ad (3 + t))] (fk_kW ad cI cT S ++ X) none (fk_kW ad cI cT (kk_leave S t) ++ X) := by
  refine fk_C_of (cc := cX2_leaveQueue) (maxL := 4) (ret := none) (own := RX2) (by decide) rfl rfl (Nat.le_of_ble_eq_true rfl) ?_
  intro p e s m below meth c A ls hx hb hr hlocks hml hts hown hA hP hK hD hl
  have hS : va_S A s.heap s.heap [] := va_S.rf
  have hl : lv_has ls 4 [(0, .ref (ad 0)), (1, .ref (ad (3 + t)))] := hl
  have hiX1 : ∀ w ∈ u_ws RX1 TX1 11, w ∈ wsX2_leaveQueue := by decide +kernel
  have hiX2 : ∀ w ∈ u_ws RX2 TX2 6, w ∈ wsX2_leaveQueue := by decide +kernel
  refine lv_aload_n hx hb dX2_leaveQueue_0 rfl (lv_at hl 1 rfl) ?_
  refine fk_getT hx hb hts hiX1 hown hK hP ht 4 (by decide) (v := .int (S 3 t)) rfl (List.mem_of_getElem? (i := 1) rfl) rfl dX2_leaveQueue_1 ?_
  refine lv_istore_n (lv' := [(2, .int (S 3 t)), (0, .ref (ad 0)), (1, .ref (ad (3 + t)))]) hx hb dX2_leaveQueue_4 rfl hl (by decide) rfl (fun ls hl => ?_)
  refine lv_aload_n hx hb dX2_leaveQueue_5 rfl (lv_at hl 2 rfl) ?_
  refine fk_getT hx hb hts hiX1 hown hK hP ht 2 (by decide) (v := .int (S 1 t)) rfl (List.mem_of_getElem? (i := 2) rfl) rfl dX2_leaveQueue_6 ?_
  refine lv_iconst (v := 2) hx hb dX2_leaveQueue_9 (by decide) ?_
  refine lv_icmp_ne (tgt := 17) hx hb dX2_leaveQueue_10 (by decide) (fun c_1 => ?_) (fun c_1 => ?_)
  · refine lv_iconst (v := 0) hx hb dX2_leaveQueue_17 (by decide) ?_
    refine lv_istore_n (lv' := [(3, .int 0), (2, .int (S 3 t)), (0, .ref (ad 0)), (1, .ref (ad (3 + t)))]) hx hb dX2_leaveQueue_18 rfl hl (by decide) rfl (fun ls hl => ?_)
    refine lv_aload_n hx hb dX2_leaveQueue_19 rfl (lv_at hl 3 rfl) ?_
    refine lv_iconst (v := 0) hx hb dX2_leaveQueue_20 (by decide) ?_
    refine fk_putT (v := 0) hx hb hts hiX1 hown hK hP hD hS ht 1 (by decide) (by decide) (by simp [fk_fT, fk_up]) (List.mem_of_getElem? (i := 2) rfl) rfl rfl (by decide +kernel) dX2_leaveQueue_21 (fun H locs hP hD hS => ?_)
    refine lv_aload_n hx hb dX2_leaveQueue_24 rfl (lv_at hl 3 rfl) ?_
    refine lv_iconst (v := (-1)) hx hb dX2_leaveQueue_25 (by decide) ?_
    refine fk_putT (v := (-1)) hx hb hts hiX1 hown hK hP hD hS ht 3 (by decide) (by decide) (by simp [fk_fT, fk_up]) (List.mem_of_getElem? (i := 1) rfl) rfl rfl (by decide +kernel) dX2_leaveQueue_26 (fun H locs hP hD hS => ?_)
    refine lv_aload_n hx hb dX2_leaveQueue_29 rfl (lv_at hl 3 rfl) ?_
    refine lv_iconst (v := (-1)) hx hb dX2_leaveQueue_30 (by decide) ?_
    refine fk_putT (v := (-1)) hx hb hts hiX1 hown hK hP hD hS ht 5 (by decide) (by decide) (by simp [fk_fT, fk_up]) (List.mem_of_getElem? (i := 3) rfl) rfl rfl (by decide +kernel) dX2_leaveQueue_31 (fun H locs hP hD hS => ?_)
    refine lv_iload_n hx hb dX2_leaveQueue_34 rfl (lv_at hl 0 rfl) ?_
    refine lv_if_eq (tgt := 68) hx hb dX2_leaveQueue_35 (by decide) (fun _ => ?_) (fun c => absurd c (by decide))
    exact fk_vret hx hb hr hlocks hP hK hD hS (congrArg (fun z => fk_kW ad cI cT z ++ X) (by first | rfl | simp [kk_leave, kk_off, c_1])) (by rfl) dX2_leaveQueue_68
  · refine lv_iconst (v := 1) hx hb dX2_leaveQueue_13 (by decide) ?_
    refine lv_goto (tgt := 18) hx hb dX2_leaveQueue_14 (by decide) ?_
    refine lv_istore_n (lv' := [(3, .int 1), (2, .int (S 3 t)), (0, .ref (ad 0)), (1, .ref (ad (3 + t)))]) hx hb dX2_leaveQueue_18 rfl hl (by decide) rfl (fun ls hl => ?_)
    refine lv_aload_n hx hb dX2_leaveQueue_19 rfl (lv_at hl 3 rfl) ?_
    refine lv_iconst (v := 0) hx hb dX2_leaveQueue_20 (by decide) ?_
    refine fk_putT (v := 0) hx hb hts hiX1 hown hK hP hD hS ht 1 (by decide) (by decide) (by simp [fk_fT, fk_up]) (List.mem_of_getElem? (i := 2) rfl) rfl rfl (by decide +kernel) dX2_leaveQueue_21 (fun H locs hP hD hS => ?_)
    refine lv_aload_n hx hb dX2_leaveQueue_24 rfl (lv_at hl 3 rfl) ?_
    refine lv_iconst (v := (-1)) hx hb dX2_leaveQueue_25 (by decide) ?_
    refine fk_putT (v := (-1)) hx hb hts hiX1 hown hK hP hD hS ht 3 (by decide) (by decide) (by simp [fk_fT, fk_up]) (List.mem_of_getElem? (i := 1) rfl) rfl rfl (by decide +kernel) dX2_leaveQueue_26 (fun H locs hP hD hS => ?_)
    refine lv_aload_n hx hb dX2_leaveQueue_29 rfl (lv_at hl 3 rfl) ?_
    refine lv_iconst (v := (-1)) hx hb dX2_leaveQueue_30 (by decide) ?_
    refine fk_putT (v := (-1)) hx hb hts hiX1 hown hK hP hD hS ht 5 (by decide) (by decide) (by simp [fk_fT, fk_up]) (List.mem_of_getElem? (i := 3) rfl) rfl rfl (by decide +kernel) dX2_leaveQueue_31 (fun H locs hP hD hS => ?_)
    refine lv_iload_n hx hb dX2_leaveQueue_34 rfl (lv_at hl 0 rfl) ?_
    refine lv_if_eq (tgt := 68) hx hb dX2_leaveQueue_35 (by decide) (fun c => absurd c (by decide)) (fun _ => ?_)
    refine lv_iload_n hx hb dX2_leaveQueue_38 rfl (lv_at hl 1 rfl) ?_
    refine fk_callS (As := [.int (S 3 t)]) (rest := []) ⟨hx, hb, hml, hown, hts⟩ (kc_isAddress l D ad cI cT cJ X (fk_up (fk_up (fk_up S 1 t 0) 3 t (-1)) 5 t (-1)) (S 3 t)) (va_cwS 1 hts gX2_leaveQueue_X2_isAddress rfl rfl rfl (by decide +kernel) ⟨Nat.le_of_ble_eq_true rfl, Nat.le_of_ble_eq_true rfl⟩) hK hP hD hS hA rfl hl.1 rfl (Nat.le_of_ble_eq_true rfl) dX2_leaveQueue_39 ⟨Nat.le_of_ble_eq_true rfl, Nat.le_of_ble_eq_true rfl⟩ (fun H locs hP hD hS => ?_)
    cases b_4 : fk_isA (S 3 t) with
    | true =>
      refine W.eq (g2 := F0 m 42 ls [.int 1]) (by first | rfl | (rw [b_4]; rfl)) ?_
      refine lv_if_eq (tgt := 68) hx hb dX2_leaveQueue_42 (by decide) (fun c => absurd c (by decide)) (fun _ => ?_)
      refine lv_aload_n hx hb dX2_leaveQueue_45 rfl (lv_at hl 2 rfl) ?_
      refine lv_iload_n hx hb dX2_leaveQueue_46 rfl (lv_at hl 1 rfl) ?_
      refine fk_callV (As := [.int (S 3 t)]) (rest := []) ⟨hx, hb, hml, hown, hts⟩ (kc_firstLockingAt l D ad cI cT cJ X (fk_up (fk_up (fk_up S 1 t 0) 3 t (-1)) 5 t (-1)) (S 3 t)) (cwV 1 hts gX2_leaveQueue_X2_firstLockingAt rfl rfl rfl (by decide +kernel) ⟨Nat.le_of_ble_eq_true rfl, Nat.le_of_ble_eq_true rfl⟩) (fk_rvK hK hP) hK hP hD hS hA rfl hl.1 rfl (Nat.le_of_ble_eq_true rfl) dX2_leaveQueue_47 ⟨Nat.le_of_ble_eq_true rfl, Nat.le_of_ble_eq_true rfl⟩ (fun H locs hP hD hS => ?_)
      rcases o_6 : kk_lk (fk_up (fk_up (fk_up S 1 t 0) 3 t (-1)) 5 t (-1)) (S 3 t) with _ | u7
      · refine W.eq (g2 := F0 m 50 ls [.null]) (by first | rfl | (rw [o_6]; rfl)) ?_
        refine lv_ifnonnullN hx hb dX2_leaveQueue_50 ?_
        refine lv_aload_n hx hb dX2_leaveQueue_53 rfl (lv_at hl 2 rfl) ?_
        refine fk_getK hx hb hts hiX2 hown hK hP 0 (by decide) (v := .ref (ad 1)) rfl (List.mem_of_getElem? (i := 4) rfl) rfl dX2_leaveQueue_54 ?_
        refine lv_iload_n hx hb dX2_leaveQueue_57 rfl (lv_at hl 1 rfl) ?_
        refine lv_aload_n hx hb dX2_leaveQueue_58 rfl (lv_at hl 2 rfl) ?_
        refine fk_getK hx hb hts hiX2 hown hK hP 0 (by decide) (v := .ref (ad 1)) rfl (List.mem_of_getElem? (i := 4) rfl) rfl dX2_leaveQueue_59 ?_
        refine lv_iload_n hx hb dX2_leaveQueue_62 rfl (lv_at hl 1 rfl) ?_
        refine fk_ldW hx hb hK hP (fk_isA_in b_4) dX2_leaveQueue_63 ?_
        refine W.eq (g2 := F0 m 64 ls [.int (S 0 ((S 3 t).toNatClampNeg)), .int (S 3 t), .ref (ad 1)]) (by simp [fk_up]) ?_
        refine lv_ldc (own := RX2) (v := 2147483647) hx hb hown (hts (.constant RX2 218 (2147483647)) (List.mem_of_getElem? (i := 5) rfl)) dX2_leaveQueue_64 ?_
        refine lv_iand hx hb dX2_leaveQueue_66 ?_
        refine fk_stW hx hb hK hP hD hS (fk_isA_in b_4) dX2_leaveQueue_67 (fun H locs hP hD hS => ?_)
        exact fk_vret hx hb hr hlocks hP hK hD hS (congrArg (fun z => fk_kW ad cI cT z ++ X) (by first | rfl | simp [kk_leave, kk_off, c_1, b_4, o_6])) (by rfl) dX2_leaveQueue_68
      · have hu_8 : u7 < 8 := kk_lk_lt o_6
        refine W.eq (g2 := F0 m 50 ls [.ref (ad (3 + u7))]) (by first | rfl | (rw [o_6]; rfl)) ?_
        refine lv_ifnonnull (tgt := 68) hx hb dX2_leaveQueue_50 (by decide) ?_
        exact fk_vret hx hb hr hlocks hP hK hD hS (congrArg (fun z => fk_kW ad cI cT z ++ X) (by first | rfl | simp [kk_leave, kk_off, c_1, b_4, o_6])) (by rfl) dX2_leaveQueue_68
    | false =>
      refine W.eq (g2 := F0 m 42 ls [.int 0]) (by first | rfl | (rw [b_4]; rfl)) ?_
      refine lv_if_eq (tgt := 68) hx hb dX2_leaveQueue_42 (by decide) (fun _ => ?_) (fun c => absurd c (by decide))
      exact fk_vret hx hb hr hlocks hP hK hD hS (congrArg (fun z => fk_kW ad cI cT z ++ X) (by first | rfl | simp [kk_leave, kk_off, c_1, b_4])) (by rfl) dX2_leaveQueue_68

abbrev rmX2_endWait : Room := { frames := 4, cells := 0, slots := 0, locals := 94 }
set_option maxHeartbeats 4000000 in
set_option maxRecDepth 100000 in
theorem kc_endWait (l : Launch) (D : va_G) (ad : Nat → Nat) (cI cT cJ : ClassId) (X : va_W) (S : fk_S) (t : Nat) (r : Int32) (ht : t < 8) : fk_C l D (fk_ty cI cT cJ) yX2_endWait wsX2_endWait rmX2_endWait [.ref (ad 0), .ref (ad (3 + t)), .int r] (fk_kW ad cI cT S ++ X) none (fk_kW ad cI cT (kk_end S t r) ++ X) := by
  refine fk_C_of (cc := cX2_endWait) (maxL := 3) (ret := none) (own := RX2) (by decide) rfl rfl (Nat.le_of_ble_eq_true rfl) ?_
  intro p e s m below meth c A ls hx hb hr hlocks hml hts hown hA hP hK hD hl
  have hS : va_S A s.heap s.heap [] := va_S.rf
  have hl : lv_has ls 3 [(0, .ref (ad 0)), (1, .ref (ad (3 + t))), (2, .int r)] := hl
  have hiX1 : ∀ w ∈ u_ws RX1 TX1 11, w ∈ wsX2_endWait := by decide +kernel
  have hiX2 : ∀ w ∈ u_ws RX2 TX2 6, w ∈ wsX2_endWait := by decide +kernel
  refine lv_aload_n hx hb dX2_endWait_0 rfl (lv_at hl 0 rfl) ?_
  refine lv_aload_n hx hb dX2_endWait_1 rfl (lv_at hl 1 rfl) ?_
  refine fk_callV (As := [.ref (ad (3 + t))]) (rest := []) ⟨hx, hb, hml, hown, hts⟩ (kc_leaveQueue l D ad cI cT cJ X S t ht) (cwV 1 hts gX2_endWait_X2_leaveQueue rfl rfl rfl (by decide +kernel) ⟨Nat.le_of_ble_eq_true rfl, Nat.le_of_ble_eq_true rfl⟩) (fk_rvK hK hP) hK hP hD hS hA rfl hl.1 rfl (Nat.le_of_ble_eq_true rfl) dX2_endWait_2 ⟨Nat.le_of_ble_eq_true rfl, Nat.le_of_ble_eq_true rfl⟩ (fun H locs hP hD hS => ?_)
  refine W.eq (g2 := F0 m 5 ls []) rfl ?_
  refine lv_aload_n hx hb dX2_endWait_5 rfl (lv_at hl 1 rfl) ?_
  refine lv_iload_n hx hb dX2_endWait_6 rfl (lv_at hl 2 rfl) ?_
  refine fk_putT (v := r) hx hb hts hiX1 hown hK hP hD hS ht 8 (by decide) (by decide) (by simp [fk_fT, fk_up]) (List.mem_of_getElem? (i := 1) rfl) rfl rfl (by decide +kernel) dX2_endWait_7 (fun H locs hP hD hS => ?_)
  refine lv_aload_n hx hb dX2_endWait_10 rfl (lv_at hl 0 rfl) ?_
  refine lv_dup hx hb dX2_endWait_11 rfl ?_
  refine fk_getK hx hb hts hiX2 hown hK hP 3 (by decide) (v := .int ((kk_leave S t) 12 1)) (by simp [fk_fK, fk_up]) (List.mem_of_getElem? (i := 2) rfl) rfl dX2_endWait_12 ?_
  refine lv_iconst (v := 1) hx hb dX2_endWait_15 (by decide) ?_
  refine lv_iadd hx hb dX2_endWait_16 ?_
  refine fk_putK (v := (((kk_leave S t) 12 1) + 1)) hx hb hts hiX2 hown hK hP hD hS 1 (by decide) (by simp [fk_fK, fk_up]) (List.mem_of_getElem? (i := 2) rfl) rfl rfl (by decide +kernel) dX2_endWait_17 (fun H locs hP hD hS => ?_)
  refine lv_aload_n hx hb dX2_endWait_20 rfl (lv_at hl 1 rfl) ?_
  refine lv_aload_n hx hb dX2_endWait_21 rfl (lv_at hl 0 rfl) ?_
  refine fk_getK hx hb hts hiX2 hown hK hP 3 (by decide) (v := .int (((kk_leave S t) 12 1) + 1)) (by simp [fk_fK, fk_up]) (List.mem_of_getElem? (i := 2) rfl) rfl dX2_endWait_22 ?_
  refine fk_putT (v := (((kk_leave S t) 12 1) + 1)) hx hb hts hiX1 hown hK hP hD hS ht 9 (by decide) (by decide) (by simp [fk_fT, fk_up]) (List.mem_of_getElem? (i := 3) rfl) rfl rfl (by decide +kernel) dX2_endWait_25 (fun H locs hP hD hS => ?_)
  exact fk_vret hx hb hr hlocks hP hK hD hS (congrArg (fun z => fk_kW ad cI cT z ++ X) (by rfl)) (by rfl) dX2_endWait_28
