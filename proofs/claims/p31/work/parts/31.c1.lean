set_option maxHeartbeats 4000000 in
set_option maxRecDepth 100000 in
theorem c_X0_held (l : Launch) (K : KT) (o : Nat) (N : Int → Int) (b : Int) (r_b : 0 ≤ b ∧ b < N 6) (hR : InR N) : CtL l yX0_held cX0_held 2 0 0 K [.ref (o + 12), .int (iI b)] (shipW K o N) (NoA) (fun (z : Int) (_ : Unit) => z = N (272 + b) * N (332 + b)) (fun _ => shipW K o N) := by
  refine CtL_of (by decide) (Nat.le_of_ble_eq_true rfl) ?_
  intro p e s m args below meth c T hr hk hP hK ls hl
  have T : CF p m c cX0_held 2 s args RX0 := T
  have hS : va_S (NoA) s.heap s.heap [] := va_S.rf
  have hl : lv_has ls 2 [(0, .ref (o + 12)), (1, .int (iI b))] := hl
  obtain ⟨hI0, hIB⟩ := id hR
  obtain ⟨b0, b1, b2, b3, b4, b5, b6, b7, b8, b9⟩ := id hI0
  refine lv_aload_n T.1 T.2.1 dX0_held_0 rfl (lv_at hl 0 rfl) ?_
  refine g0_left T hK hP 12 rfl rfl mw_1_98 dX0_held_1 ?_
  refine lv_iload_n T.1 T.2.1 dX0_held_4 rfl (lv_at hl 1 rfl) ?_
  refine xa_iald T hK hP 15 rfl rfl (272 + b) (by omega) (by omega) (by decide) dX0_held_5 ?_
  have f1 := hIB b (by omega) (by omega)
  refine xv_i2l T (by omega) dX0_held_6 ?_
  refine lv_aload_n T.1 T.2.1 dX0_held_7 rfl (lv_at hl 0 rfl) ?_
  refine g0_duty T hK hP 12 rfl rfl mw_1_101 dX0_held_8 ?_
  refine lv_iload_n T.1 T.2.1 dX0_held_11 rfl (lv_at hl 1 rfl) ?_
  refine xa_iald T hK hP 16 rfl rfl (332 + b) (by omega) (by omega) (by decide) dX0_held_12 ?_
  refine xv_i2l T (by omega) dX0_held_13 ?_
  refine xv_lmul T dX0_held_14 ?_
  exact rL T (u := ()) hr hk hK hP hS dX0_held_15 (rfl)
set_option maxHeartbeats 4000000 in
set_option maxRecDepth 100000 in
theorem c_X0_heldByAll (l : Launch) (K : KT) (o : Nat) (N : Int → Int) (hR : InR N) : CtL l yX0_heldByAll cX0_heldByAll 4 1 21 K [.ref (o + 12)] (shipW K o N) (NoA) (fun (z : Int) (_ : Unit) => z = heldF N) (fun _ => shipW K o N) := by
  refine CtL_of (by decide) (Nat.le_of_ble_eq_true rfl) ?_
  intro p e s m args below meth c T hr hk hP hK ls hl
  have T : CF p m c cX0_heldByAll 4 s args RX0 := T
  have hS : va_S (NoA) s.heap s.heap [] := va_S.rf
  have hl : lv_has ls 4 [(0, .ref (o + 12))] := hl
  obtain ⟨hI0, hIB⟩ := id hR
  obtain ⟨b0, b1, b2, b3, b4, b5, b6, b7, b8, b9⟩ := id hI0
  refine xv_lconst T (z := 0) dX0_heldByAll_0 rfl ?_
  refine lv_lstore_n (lv' := [(1, .long (lI 0)), (0, .ref (o + 12))]) T.1 T.2.1 dX0_heldByAll_1 rfl hl (by decide) rfl (fun ls hl => ?_)
  refine xv_iconst T dX0_heldByAll_2 ?_
  refine lv_istore_n (lv' := [(3, .int (iI 0)), (1, .long (lI 0)), (0, .ref (o + 12))]) T.1 T.2.1 dX0_heldByAll_3 rfl hl (by decide) rfl (fun ls hl => ?_)
  have lp4 : ∀ (fuel : Nat) (acc : Int) (i : Int) (H : Heap) (locs : List Loc) (ls : Array Slot), (0 ≤ i ∧ i ≤ N 6) → (acc = sumZ (fun b => N (272 + b) * N (332 + b)) i.toNat) → N 6 - i < (fuel : Int) → xP K (shipW K o N) H → va_S (NoA) s.heap H locs → lv_has ls 4 [(0, .ref (o + 12)), (1, .long (lI acc)), (3, .int (iI i))] → W p l e (rmF 1 21) s m args below meth c H locs 0 0 (MQ below (qL K (fun (z : Int) (_ : Unit) => z = heldF N) (fun _ => shipW K o N) (NoA)) args s 0 0 (NoA)) (F0 m 4 ls []) := by
    intro fuel
    induction fuel with
    | zero =>
      intro acc i H locs ls hi ha hm hP hS hl
      exact absurd hm (by omega)
    | succ fuel ih4 =>
      intro acc i H locs ls hi ha hm hP hS hl
      refine lv_iload_n T.1 T.2.1 dX0_heldByAll_4 rfl (lv_at hl 2 rfl) ?_
      refine lv_aload_n T.1 T.2.1 dX0_heldByAll_5 rfl (lv_at hl 0 rfl) ?_
      refine g0_number T hK hP 12 rfl (v := .int (iI (N 6))) rfl mw_1_87 dX0_heldByAll_6 ?_
      refine xv_icmp_ge T (by omega) (tgt := 26) dX0_heldByAll_9 (by decide) (fun c1 => ?_) (fun c1 => ?_)
      · skip
        refine lv_lload_n T.1 T.2.1 dX0_heldByAll_26 rfl (lv_at hl 1 rfl) ?_
        exact rL T (u := ()) hr hk hK hP hS dX0_heldByAll_27 (by unfold heldF; rw [ha, show i = N 6 by omega])
      · skip
        refine lv_lload_n T.1 T.2.1 dX0_heldByAll_12 rfl (lv_at hl 1 rfl) ?_
        refine lv_aload_n T.1 T.2.1 dX0_heldByAll_13 rfl (lv_at hl 0 rfl) ?_
        refine lv_iload_n T.1 T.2.1 dX0_heldByAll_14 rfl (lv_at hl 2 rfl) ?_
        refine cL_V T hK hP hS 12 rfl rfl rfl (c_X0_held l K o N i (by omega) hR) iX0_held mw_3_45 ⟨Nat.le_of_ble_eq_true rfl, Nat.le_of_ble_eq_true rfl⟩ hP noA rfl hl.1 rfl (Nat.le_of_ble_eq_true rfl) ⟨Nat.zero_le _, Nat.zero_le _⟩ dX0_heldByAll_15 (fun z2 _ H1 locs q3 hP1 hg1 hg2 hS => ?_)
        have hP := xP_kept hP hg2
        generalize H1 = H at hP hS ⊢
        clear hg1 hg2 hP1
        obtain rfl : z2 = N (272 + i) * N (332 + i) := q3
        refine xv_ladd T dX0_heldByAll_18 ?_
        refine lv_lstore_n (lv' := [(1, .long (lI (acc + (N (272 + i) * N (332 + i))))), (0, .ref (o + 12)), (3, .int (iI i))]) T.1 T.2.1 dX0_heldByAll_19 rfl hl (by decide) rfl (fun ls hl => ?_)
        refine xv_iinc T (y := i + 1) (lv' := [(3, .int (iI (i + 1))), (1, .long (lI (acc + (N (272 + i) * N (332 + i))))), (0, .ref (o + 12))]) dX0_heldByAll_20 hl (q := 2) rfl (by omega) (by decide) rfl (fun ls hl => ?_)
        refine lv_goto T.1 T.2.1 (tgt := 4) dX0_heldByAll_23 (by decide) ?_
        exact ih4 (acc + (N (272 + i) * N (332 + i))) (i + 1) _ _ ls (by omega) (by rw [sumZ_step (by omega), ha]) (by omega) hP hS (lv_sub hl [2, 1, 0] rfl)
  exact lp4 61 0 0 _ _ ls (by omega) rfl (by omega) hP hS (lv_sub hl [2, 1, 0] rfl)
set_option maxHeartbeats 4000000 in
set_option maxRecDepth 100000 in
theorem c_X0_withUnits (l : Launch) (K : KT) (o : Nat) (N : Int → Int) (hR : InR N) : CtI l yX0_withUnits cX0_withUnits 3 .int 0 0 K [.ref (o + 12)] (shipW K o N) (NoA) (fun (z : Int) (_ : Unit) => z = livF N) (fun _ => shipW K o N) := by
  refine CtI_of (by decide) (Nat.le_of_ble_eq_true rfl) ?_
  intro p e s m args below meth c T hr hk hP hK ls hl
  have T : CF p m c cX0_withUnits 3 s args RX0 := T
  have hS : va_S (NoA) s.heap s.heap [] := va_S.rf
  have hl : lv_has ls 3 [(0, .ref (o + 12))] := hl
  obtain ⟨hI0, hIB⟩ := id hR
  obtain ⟨b0, b1, b2, b3, b4, b5, b6, b7, b8, b9⟩ := id hI0
  refine xv_iconst T dX0_withUnits_0 ?_
  refine lv_istore_n (lv' := [(1, .int (iI 0)), (0, .ref (o + 12))]) T.1 T.2.1 dX0_withUnits_1 rfl hl (by decide) rfl (fun ls hl => ?_)
  refine xv_iconst T dX0_withUnits_2 ?_
  refine lv_istore_n (lv' := [(2, .int (iI 0)), (1, .int (iI 0)), (0, .ref (o + 12))]) T.1 T.2.1 dX0_withUnits_3 rfl hl (by decide) rfl (fun ls hl => ?_)
  have lp4 : ∀ (fuel : Nat) (acc : Int) (i : Int) (H : Heap) (locs : List Loc) (ls : Array Slot), (0 ≤ i ∧ i ≤ N 6) → (acc = sumZ (fun b => if 0 < N (272 + b) then 1 else 0) i.toNat) → N 6 - i < (fuel : Int) → xP K (shipW K o N) H → va_S (NoA) s.heap H locs → lv_has ls 3 [(0, .ref (o + 12)), (1, .int (iI acc)), (2, .int (iI i))] → W p l e (rmF 0 0) s m args below meth c H locs 0 0 (MQ below (qI K (fun (z : Int) (_ : Unit) => z = livF N) (fun _ => shipW K o N) (NoA)) args s 0 0 (NoA)) (F0 m 4 ls []) := by
    intro fuel
    induction fuel with
    | zero =>
      intro acc i H locs ls hi ha hm hP hS hl
      exact absurd hm (by omega)
    | succ fuel ih4 =>
      intro acc i H locs ls hi ha hm hP hS hl
      refine lv_iload_n T.1 T.2.1 dX0_withUnits_4 rfl (lv_at hl 2 rfl) ?_
      refine lv_aload_n T.1 T.2.1 dX0_withUnits_5 rfl (lv_at hl 0 rfl) ?_
      refine g0_number T hK hP 12 rfl (v := .int (iI (N 6))) rfl mw_1_87 dX0_withUnits_6 ?_
      refine xv_icmp_ge T (by omega) (tgt := 30) dX0_withUnits_9 (by decide) (fun c1 => ?_) (fun c1 => ?_)
      · skip
        refine lv_iload_n T.1 T.2.1 dX0_withUnits_30 rfl (lv_at hl 1 rfl) ?_
        exact rI T (u := ()) hr hk hK hP hS dX0_withUnits_31 (by unfold livF; rw [ha, show i = N 6 by omega])
      · skip
        refine lv_aload_n T.1 T.2.1 dX0_withUnits_12 rfl (lv_at hl 0 rfl) ?_
        refine g0_left T hK hP 12 rfl rfl mw_1_98 dX0_withUnits_13 ?_
        refine lv_iload_n T.1 T.2.1 dX0_withUnits_16 rfl (lv_at hl 2 rfl) ?_
        refine xa_iald T hK hP 15 rfl rfl (272 + i) (by omega) (by omega) (by decide) dX0_withUnits_17 ?_
        have f2 := hIB i (by omega) (by omega)
        refine xv_if_le T (by omega) (tgt := 24) dX0_withUnits_18 (by decide) (fun c3 => ?_) (fun c3 => ?_)
        · skip
          refine xv_iinc T (y := i + 1) (lv' := [(2, .int (iI (i + 1))), (0, .ref (o + 12)), (1, .int (iI acc))]) dX0_withUnits_24 hl (q := 2) rfl (by omega) (by decide) rfl (fun ls hl => ?_)
          refine lv_goto T.1 T.2.1 (tgt := 4) dX0_withUnits_27 (by decide) ?_
          exact ih4 acc (i + 1) _ _ ls (by omega) (by rw [sumZ_step (by omega), ← ha]; first | rw [if_pos (by omega)] | (rw [if_neg (by omega)]; omega)) (by omega) hP hS (lv_sub hl [1, 2, 0] rfl)
        · skip
          refine xv_iinc T (y := acc + 1) (lv' := [(1, .int (iI (acc + 1))), (0, .ref (o + 12)), (2, .int (iI i))]) dX0_withUnits_21 hl (q := 1) rfl (by omega) (by decide) rfl (fun ls hl => ?_)
          refine xv_iinc T (y := i + 1) (lv' := [(2, .int (iI (i + 1))), (1, .int (iI (acc + 1))), (0, .ref (o + 12))]) dX0_withUnits_24 hl (q := 2) rfl (by omega) (by decide) rfl (fun ls hl => ?_)
          refine lv_goto T.1 T.2.1 (tgt := 4) dX0_withUnits_27 (by decide) ?_
          exact ih4 (acc + 1) (i + 1) _ _ ls (by omega) (by rw [sumZ_step (by omega), ← ha]; first | rw [if_pos (by omega)] | (rw [if_neg (by omega)]; omega)) (by omega) hP hS (lv_sub hl [2, 1, 0] rfl)
  exact lp4 61 0 0 _ _ ls (by omega) rfl (by omega) hP hS (lv_sub hl [2, 1, 0] rfl)
set_option maxHeartbeats 4000000 in
set_option maxRecDepth 100000 in
theorem c_X0_loaded (l : Launch) (K : KT) (o : Nat) (N : Int → Int) (gd : Int) (r_gd : -2147483648 ≤ gd ∧ gd ≤ 2147483647) (hR : InR N) : CtI l yX0_loaded cX0_loaded 4 .int 0 0 K [.ref (o + 12), .int (iI gd)] (shipW K o N) (NoA) (fun (z : Int) (_ : Unit) => z = sumZ (fun b => if N (152 + b) = gd then N (212 + b) else 0) (N 6).toNat) (fun _ => shipW K o N) := by
  refine CtI_of (by decide) (Nat.le_of_ble_eq_true rfl) ?_
  intro p e s m args below meth c T hr hk hP hK ls hl
  have T : CF p m c cX0_loaded 4 s args RX0 := T
  have hS : va_S (NoA) s.heap s.heap [] := va_S.rf
  have hl : lv_has ls 4 [(0, .ref (o + 12)), (1, .int (iI gd))] := hl
  obtain ⟨hI0, hIB⟩ := id hR
  obtain ⟨b0, b1, b2, b3, b4, b5, b6, b7, b8, b9⟩ := id hI0
  refine xv_iconst T dX0_loaded_0 ?_
  refine lv_istore_n (lv' := [(2, .int (iI 0)), (0, .ref (o + 12)), (1, .int (iI gd))]) T.1 T.2.1 dX0_loaded_1 rfl hl (by decide) rfl (fun ls hl => ?_)
  refine xv_iconst T dX0_loaded_2 ?_
  refine lv_istore_n (lv' := [(3, .int (iI 0)), (2, .int (iI 0)), (0, .ref (o + 12)), (1, .int (iI gd))]) T.1 T.2.1 dX0_loaded_3 rfl hl (by decide) rfl (fun ls hl => ?_)
  have lp4 : ∀ (fuel : Nat) (acc : Int) (i : Int) (H : Heap) (locs : List Loc) (ls : Array Slot), (0 ≤ i ∧ i ≤ N 6) → (acc = sumZ (fun b => if N (152 + b) = gd then N (212 + b) else 0) i.toNat) → N 6 - i < (fuel : Int) → xP K (shipW K o N) H → va_S (NoA) s.heap H locs → lv_has ls 4 [(0, .ref (o + 12)), (1, .int (iI gd)), (2, .int (iI acc)), (3, .int (iI i))] → W p l e (rmF 0 0) s m args below meth c H locs 0 0 (MQ below (qI K (fun (z : Int) (_ : Unit) => z = sumZ (fun b => if N (152 + b) = gd then N (212 + b) else 0) (N 6).toNat) (fun _ => shipW K o N) (NoA)) args s 0 0 (NoA)) (F0 m 4 ls []) := by
    intro fuel
    induction fuel with
    | zero =>
      intro acc i H locs ls hi ha hm hP hS hl
      exact absurd hm (by omega)
    | succ fuel ih4 =>
      intro acc i H locs ls hi ha hm hP hS hl
      refine lv_iload_n T.1 T.2.1 dX0_loaded_4 rfl (lv_at hl 3 rfl) ?_
      refine lv_aload_n T.1 T.2.1 dX0_loaded_5 rfl (lv_at hl 0 rfl) ?_
      refine g0_number T hK hP 12 rfl (v := .int (iI (N 6))) rfl mw_1_87 dX0_loaded_6 ?_
      refine xv_icmp_ge T (by omega) (tgt := 37) dX0_loaded_9 (by decide) (fun c1 => ?_) (fun c1 => ?_)
      · skip
        refine lv_iload_n T.1 T.2.1 dX0_loaded_37 rfl (lv_at hl 2 rfl) ?_
        exact rI T (u := ()) hr hk hK hP hS dX0_loaded_38 (by rw [ha, show i = N 6 by omega])
      · skip
        refine lv_aload_n T.1 T.2.1 dX0_loaded_12 rfl (lv_at hl 0 rfl) ?_
        refine g0_good T hK hP 12 rfl rfl mw_1_93 dX0_loaded_13 ?_
        refine lv_iload_n T.1 T.2.1 dX0_loaded_16 rfl (lv_at hl 3 rfl) ?_
        refine xa_iald T hK hP 13 rfl rfl (152 + i) (by omega) (by omega) (by decide) dX0_loaded_17 ?_
        have f2 := hIB i (by omega) (by omega)
        refine lv_iload_n T.1 T.2.1 dX0_loaded_18 rfl (lv_at hl 1 rfl) ?_
        refine xv_icmp_ne T (by omega) (tgt := 31) dX0_loaded_19 (by decide) (fun c3 => ?_) (fun c3 => ?_)
        · skip
          refine xv_iinc T (y := i + 1) (lv' := [(3, .int (iI (i + 1))), (0, .ref (o + 12)), (1, .int (iI gd)), (2, .int (iI acc))]) dX0_loaded_31 hl (q := 3) rfl (by omega) (by decide) rfl (fun ls hl => ?_)
          refine lv_goto T.1 T.2.1 (tgt := 4) dX0_loaded_34 (by decide) ?_
          exact ih4 acc (i + 1) _ _ ls (by omega) (by rw [sumZ_step (by omega), ← ha]; first | rw [if_pos (by omega)] | (rw [if_neg (by omega)]; omega)) (by omega) hP hS (lv_sub hl [1, 2, 3, 0] rfl)
        · skip
          refine lv_iload_n T.1 T.2.1 dX0_loaded_22 rfl (lv_at hl 2 rfl) ?_
          refine lv_aload_n T.1 T.2.1 dX0_loaded_23 rfl (lv_at hl 0 rfl) ?_
          refine g0_made T hK hP 12 rfl rfl mw_1_96 dX0_loaded_24 ?_
          refine lv_iload_n T.1 T.2.1 dX0_loaded_27 rfl (lv_at hl 3 rfl) ?_
          refine xa_iald T hK hP 14 rfl rfl (212 + i) (by omega) (by omega) (by decide) dX0_loaded_28 ?_
          refine xv_iadd T dX0_loaded_29 ?_
          refine lv_istore_n (lv' := [(2, .int (iI (acc + (N (212 + i))))), (0, .ref (o + 12)), (1, .int (iI gd)), (3, .int (iI i))]) T.1 T.2.1 dX0_loaded_30 rfl hl (by decide) rfl (fun ls hl => ?_)
          refine xv_iinc T (y := i + 1) (lv' := [(3, .int (iI (i + 1))), (2, .int (iI (acc + (N (212 + i))))), (0, .ref (o + 12)), (1, .int (iI gd))]) dX0_loaded_31 hl (q := 3) rfl (by omega) (by decide) rfl (fun ls hl => ?_)
          refine lv_goto T.1 T.2.1 (tgt := 4) dX0_loaded_34 (by decide) ?_
          exact ih4 (acc + (N (212 + i))) (i + 1) _ _ ls (by omega) (by rw [sumZ_step (by omega), ← ha]; first | rw [if_pos (by omega)] | (rw [if_neg (by omega)]; omega)) (by omega) hP hS (lv_sub hl [2, 3, 1, 0] rfl)
  exact lp4 61 0 0 _ _ ls (by omega) rfl (by omega) hP hS (lv_sub hl [2, 3, 1, 0] rfl)
set_option maxHeartbeats 4000000 in
set_option maxRecDepth 100000 in
theorem c_X0_leftOf (l : Launch) (K : KT) (o : Nat) (N : Int → Int) (gd : Int) (r_gd : -2147483648 ≤ gd ∧ gd ≤ 2147483647) (hR : InR N) : CtI l yX0_leftOf cX0_leftOf 4 .int 0 0 K [.ref (o + 12), .int (iI gd)] (shipW K o N) (NoA) (fun (z : Int) (_ : Unit) => z = sumZ (fun b => if N (152 + b) = gd then N (272 + b) else 0) (N 6).toNat) (fun _ => shipW K o N) := by
  refine CtI_of (by decide) (Nat.le_of_ble_eq_true rfl) ?_
  intro p e s m args below meth c T hr hk hP hK ls hl
  have T : CF p m c cX0_leftOf 4 s args RX0 := T
  have hS : va_S (NoA) s.heap s.heap [] := va_S.rf
  have hl : lv_has ls 4 [(0, .ref (o + 12)), (1, .int (iI gd))] := hl
  obtain ⟨hI0, hIB⟩ := id hR
  obtain ⟨b0, b1, b2, b3, b4, b5, b6, b7, b8, b9⟩ := id hI0
  refine xv_iconst T dX0_leftOf_0 ?_
  refine lv_istore_n (lv' := [(2, .int (iI 0)), (0, .ref (o + 12)), (1, .int (iI gd))]) T.1 T.2.1 dX0_leftOf_1 rfl hl (by decide) rfl (fun ls hl => ?_)
  refine xv_iconst T dX0_leftOf_2 ?_
  refine lv_istore_n (lv' := [(3, .int (iI 0)), (2, .int (iI 0)), (0, .ref (o + 12)), (1, .int (iI gd))]) T.1 T.2.1 dX0_leftOf_3 rfl hl (by decide) rfl (fun ls hl => ?_)
  have lp4 : ∀ (fuel : Nat) (acc : Int) (i : Int) (H : Heap) (locs : List Loc) (ls : Array Slot), (0 ≤ i ∧ i ≤ N 6) → (acc = sumZ (fun b => if N (152 + b) = gd then N (272 + b) else 0) i.toNat) → N 6 - i < (fuel : Int) → xP K (shipW K o N) H → va_S (NoA) s.heap H locs → lv_has ls 4 [(0, .ref (o + 12)), (1, .int (iI gd)), (2, .int (iI acc)), (3, .int (iI i))] → W p l e (rmF 0 0) s m args below meth c H locs 0 0 (MQ below (qI K (fun (z : Int) (_ : Unit) => z = sumZ (fun b => if N (152 + b) = gd then N (272 + b) else 0) (N 6).toNat) (fun _ => shipW K o N) (NoA)) args s 0 0 (NoA)) (F0 m 4 ls []) := by
    intro fuel
    induction fuel with
    | zero =>
      intro acc i H locs ls hi ha hm hP hS hl
      exact absurd hm (by omega)
    | succ fuel ih4 =>
      intro acc i H locs ls hi ha hm hP hS hl
      refine lv_iload_n T.1 T.2.1 dX0_leftOf_4 rfl (lv_at hl 3 rfl) ?_
      refine lv_aload_n T.1 T.2.1 dX0_leftOf_5 rfl (lv_at hl 0 rfl) ?_
      refine g0_number T hK hP 12 rfl (v := .int (iI (N 6))) rfl mw_1_87 dX0_leftOf_6 ?_
      refine xv_icmp_ge T (by omega) (tgt := 37) dX0_leftOf_9 (by decide) (fun c1 => ?_) (fun c1 => ?_)
      · skip
        refine lv_iload_n T.1 T.2.1 dX0_leftOf_37 rfl (lv_at hl 2 rfl) ?_
        exact rI T (u := ()) hr hk hK hP hS dX0_leftOf_38 (by rw [ha, show i = N 6 by omega])
      · skip
        refine lv_aload_n T.1 T.2.1 dX0_leftOf_12 rfl (lv_at hl 0 rfl) ?_
        refine g0_good T hK hP 12 rfl rfl mw_1_93 dX0_leftOf_13 ?_
        refine lv_iload_n T.1 T.2.1 dX0_leftOf_16 rfl (lv_at hl 3 rfl) ?_
        refine xa_iald T hK hP 13 rfl rfl (152 + i) (by omega) (by omega) (by decide) dX0_leftOf_17 ?_
        have f2 := hIB i (by omega) (by omega)
        refine lv_iload_n T.1 T.2.1 dX0_leftOf_18 rfl (lv_at hl 1 rfl) ?_
        refine xv_icmp_ne T (by omega) (tgt := 31) dX0_leftOf_19 (by decide) (fun c3 => ?_) (fun c3 => ?_)
        · skip
          refine xv_iinc T (y := i + 1) (lv' := [(3, .int (iI (i + 1))), (0, .ref (o + 12)), (1, .int (iI gd)), (2, .int (iI acc))]) dX0_leftOf_31 hl (q := 3) rfl (by omega) (by decide) rfl (fun ls hl => ?_)
          refine lv_goto T.1 T.2.1 (tgt := 4) dX0_leftOf_34 (by decide) ?_
          exact ih4 acc (i + 1) _ _ ls (by omega) (by rw [sumZ_step (by omega), ← ha]; first | rw [if_pos (by omega)] | (rw [if_neg (by omega)]; omega)) (by omega) hP hS (lv_sub hl [1, 2, 3, 0] rfl)
        · skip
          refine lv_iload_n T.1 T.2.1 dX0_leftOf_22 rfl (lv_at hl 2 rfl) ?_
          refine lv_aload_n T.1 T.2.1 dX0_leftOf_23 rfl (lv_at hl 0 rfl) ?_
          refine g0_left T hK hP 12 rfl rfl mw_1_98 dX0_leftOf_24 ?_
          refine lv_iload_n T.1 T.2.1 dX0_leftOf_27 rfl (lv_at hl 3 rfl) ?_
          refine xa_iald T hK hP 15 rfl rfl (272 + i) (by omega) (by omega) (by decide) dX0_leftOf_28 ?_
          refine xv_iadd T dX0_leftOf_29 ?_
          refine lv_istore_n (lv' := [(2, .int (iI (acc + (N (272 + i))))), (0, .ref (o + 12)), (1, .int (iI gd)), (3, .int (iI i))]) T.1 T.2.1 dX0_leftOf_30 rfl hl (by decide) rfl (fun ls hl => ?_)
          refine xv_iinc T (y := i + 1) (lv' := [(3, .int (iI (i + 1))), (2, .int (iI (acc + (N (272 + i))))), (0, .ref (o + 12)), (1, .int (iI gd))]) dX0_leftOf_31 hl (q := 3) rfl (by omega) (by decide) rfl (fun ls hl => ?_)
          refine lv_goto T.1 T.2.1 (tgt := 4) dX0_leftOf_34 (by decide) ?_
          exact ih4 (acc + (N (272 + i))) (i + 1) _ _ ls (by omega) (by rw [sumZ_step (by omega), ← ha]; first | rw [if_pos (by omega)] | (rw [if_neg (by omega)]; omega)) (by omega) hP hS (lv_sub hl [2, 3, 1, 0] rfl)
  exact lp4 61 0 0 _ _ ls (by omega) rfl (by omega) hP hS (lv_sub hl [2, 3, 1, 0] rfl)
set_option maxHeartbeats 4000000 in
set_option maxRecDepth 100000 in
theorem c_X0_nextAfter (l : Launch) (K : KT) (o : Nat) (N : Int → Int) (gd pv : Int) (r_gd : -1 ≤ gd ∧ gd ≤ 2147483647) (r_pv : pv = -1 ∨ (0 ≤ pv ∧ pv < N 6)) (hR : InR N) : CtI l yX0_nextAfter cX0_nextAfter 10 .int 0 0 K [.ref (o + 12), .int (iI gd), .int (iI pv)] (shipW K o N) (NoA) (fun (z : Int) (_ : Unit) => z = nxC N gd pv) (fun _ => shipW K o N) := by
  refine CtI_of (by decide) (Nat.le_of_ble_eq_true rfl) ?_
  intro p e s m args below meth c T hr hk hP hK ls hl
  have T : CF p m c cX0_nextAfter 10 s args RX0 := T
  have hS : va_S (NoA) s.heap s.heap [] := va_S.rf
  have hl : lv_has ls 10 [(0, .ref (o + 12)), (1, .int (iI gd)), (2, .int (iI pv))] := hl
  obtain ⟨hI0, hIB⟩ := id hR
  obtain ⟨b0, b1, b2, b3, b4, b5, b6, b7, b8, b9⟩ := id hI0
  have jn17 : ∀ (ff : Int) (H : Heap) (locs : List Loc) (ls : Array Slot), ((ff = 1 ∧ pv = -1) ∨ (ff = 0 ∧ 0 ≤ pv ∧ pv < N 6)) → xP K (shipW K o N) H → va_S (NoA) s.heap H locs → lv_has ls 10 [(0, .ref (o + 12)), (1, .int (iI gd)), (2, .int (iI pv))] → W p l e (rmF 0 0) s m args below meth c H locs 0 0 (MQ below (qI K (fun (z : Int) (_ : Unit) => z = nxC N gd pv) (fun _ => shipW K o N) (NoA)) args s 0 0 (NoA)) (F0 m 17 ls [.int (iI ff)]) := by
    intro ff H locs ls hff hP hS hl
    refine lv_istore_n (lv' := [(3, .int (iI ff)), (0, .ref (o + 12)), (1, .int (iI gd)), (2, .int (iI pv))]) T.1 T.2.1 dX0_nextAfter_17 rfl hl (by decide) rfl (fun ls hl => ?_)
    have jn37 : ∀ (rb : Int) (H : Heap) (locs : List Loc) (ls : Array Slot), (rb = if pv = -1 then -1 else rkF N pv) → (-1 ≤ rb ∧ rb ≤ 400000) → xP K (shipW K o N) H → va_S (NoA) s.heap H locs → lv_has ls 10 [(3, .int (iI ff)), (0, .ref (o + 12)), (1, .int (iI gd)), (2, .int (iI pv))] → W p l e (rmF 0 0) s m args below meth c H locs 0 0 (MQ below (qI K (fun (z : Int) (_ : Unit) => z = nxC N gd pv) (fun _ => shipW K o N) (NoA)) args s 0 0 (NoA)) (F0 m 37 ls [.int (iI rb)]) := by
      intro rb H locs ls hrb hrr hP hS hl
      refine lv_istore (lv' := [(4, .int (iI rb)), (3, .int (iI ff)), (0, .ref (o + 12)), (1, .int (iI gd)), (2, .int (iI pv))]) T.1 T.2.1 dX0_nextAfter_37 hl (by decide) rfl (fun ls hl => ?_)
      refine xv_iconst T dX0_nextAfter_39 ?_
      refine lv_istore (lv' := [(5, .int (iI (-1))), (4, .int (iI rb)), (3, .int (iI ff)), (0, .ref (o + 12)), (1, .int (iI gd)), (2, .int (iI pv))]) T.1 T.2.1 dX0_nextAfter_40 hl (by decide) rfl (fun ls hl => ?_)
      refine xv_iconst T dX0_nextAfter_42 ?_
      refine lv_istore (lv' := [(6, .int (iI (-1))), (5, .int (iI (-1))), (4, .int (iI rb)), (3, .int (iI ff)), (0, .ref (o + 12)), (1, .int (iI gd)), (2, .int (iI pv))]) T.1 T.2.1 dX0_nextAfter_43 hl (by decide) rfl (fun ls hl => ?_)
      refine xv_iconst T dX0_nextAfter_45 ?_
      refine lv_istore (lv' := [(7, .int (iI 0)), (6, .int (iI (-1))), (5, .int (iI (-1))), (4, .int (iI rb)), (3, .int (iI ff)), (0, .ref (o + 12)), (1, .int (iI gd)), (2, .int (iI pv))]) T.1 T.2.1 dX0_nextAfter_46 hl (by decide) rfl (fun ls hl => ?_)
      have lp48 : ∀ (fuel : Nat) (nx : Int) (nr : Int) (b : Int) (H : Heap) (locs : List Loc) (ls : Array Slot), (0 ≤ b ∧ b ≤ N 6) → (NxU N gd pv b nx) → ((nx = -1 ∨ nr = rkF N nx) ∧ -1 ≤ nr ∧ nr ≤ 400000) → N 6 - b < (fuel : Int) → xP K (shipW K o N) H → va_S (NoA) s.heap H locs → lv_has ls 10 [(0, .ref (o + 12)), (1, .int (iI gd)), (2, .int (iI pv)), (4, .int (iI rb)), (5, .int (iI nx)), (6, .int (iI nr)), (7, .int (iI b))] → W p l e (rmF 0 0) s m args below meth c H locs 0 0 (MQ below (qI K (fun (z : Int) (_ : Unit) => z = nxC N gd pv) (fun _ => shipW K o N) (NoA)) args s 0 0 (NoA)) (F0 m 48 ls []) := by
        intro fuel
        induction fuel with
        | zero =>
          intro nx nr b H locs ls hb hB hn hm hP hS hl
          exact absurd hm (by omega)
        | succ fuel ih48 =>
          intro nx nr b H locs ls hb hB hn hm hP hS hl
          have hB2 := nxU_at hB
          refine lv_iload T.1 T.2.1 dX0_nextAfter_48 (lv_at hl 6 rfl) ?_
          refine lv_aload_n T.1 T.2.1 dX0_nextAfter_50 rfl (lv_at hl 0 rfl) ?_
          refine g0_number T hK hP 12 rfl (v := .int (iI (N 6))) rfl mw_1_87 dX0_nextAfter_51 ?_
          refine xv_icmp_ge T (by omega) (tgt := 144) dX0_nextAfter_54 (by decide) (fun c1 => ?_) (fun c1 => ?_)
          · skip
            refine lv_iload T.1 T.2.1 dX0_nextAfter_144 (lv_at hl 4 rfl) ?_
            exact rI T (u := ()) hr hk hK hP hS dX0_nextAfter_146 (nxU_end hB (by omega) (by omega))
          · skip
            refine lv_aload_n T.1 T.2.1 dX0_nextAfter_57 rfl (lv_at hl 0 rfl) ?_
            refine g0_due T hK hP 12 rfl rfl mw_1_103 dX0_nextAfter_58 ?_
            refine lv_iload T.1 T.2.1 dX0_nextAfter_61 (lv_at hl 6 rfl) ?_
            refine xa_iald T hK hP 17 rfl rfl (392 + b) (by omega) (by omega) (by decide) dX0_nextAfter_63 ?_
            have f2 := hIB b (by omega) (by omega)
            refine xv_bipush T dX0_nextAfter_64 (by omega) ?_
            refine xv_imul T dX0_nextAfter_66 ?_
            refine lv_iload T.1 T.2.1 dX0_nextAfter_67 (lv_at hl 6 rfl) ?_
            refine xv_iadd T dX0_nextAfter_69 ?_
            refine lv_istore (lv' := [(8, .int (iI ((N (392 + b)) * 60 + b))), (0, .ref (o + 12)), (1, .int (iI gd)), (2, .int (iI pv)), (4, .int (iI rb)), (5, .int (iI nx)), (6, .int (iI nr)), (7, .int (iI b))]) T.1 T.2.1 dX0_nextAfter_70 hl (by decide) rfl (fun ls hl => ?_)
            have jn103 : ∀ (fv : Int) (H : Heap) (locs : List Loc) (ls : Array Slot), ((fv = 1 ∧ (0 < N (272 + b) ∧ (gd < 0 ∨ N (152 + b) = gd))) ∨ (fv = 0 ∧ ¬ (0 < N (272 + b) ∧ (gd < 0 ∨ N (152 + b) = gd)))) → xP K (shipW K o N) H → va_S (NoA) s.heap H locs → lv_has ls 10 [(8, .int (iI ((N (392 + b)) * 60 + b))), (0, .ref (o + 12)), (1, .int (iI gd)), (2, .int (iI pv)), (4, .int (iI rb)), (5, .int (iI nx)), (6, .int (iI nr)), (7, .int (iI b))] → W p l e (rmF 0 0) s m args below meth c H locs 0 0 (MQ below (qI K (fun (z : Int) (_ : Unit) => z = nxC N gd pv) (fun _ => shipW K o N) (NoA)) args s 0 0 (NoA)) (F0 m 103 ls [.int (iI fv)]) := by
              intro fv H locs ls q1 hP hS hl
              refine lv_istore (lv' := [(9, .int (iI fv)), (8, .int (iI ((N (392 + b)) * 60 + b))), (0, .ref (o + 12)), (1, .int (iI gd)), (2, .int (iI pv)), (4, .int (iI rb)), (5, .int (iI nx)), (6, .int (iI nr)), (7, .int (iI b))]) T.1 T.2.1 dX0_nextAfter_103 hl (by decide) rfl (fun ls hl => ?_)
              refine lv_iload T.1 T.2.1 dX0_nextAfter_105 (lv_at hl 0 rfl) ?_
              refine xv_if_eq T (by omega) (tgt := 138) dX0_nextAfter_107 (by decide) (fun c3 => ?_) (fun c3 => ?_)
              · skip
                refine xv_iinc T (y := b + 1) (lv' := [(7, .int (iI (b + 1))), (9, .int (iI fv)), (8, .int (iI ((N (392 + b)) * 60 + b))), (0, .ref (o + 12)), (1, .int (iI gd)), (2, .int (iI pv)), (4, .int (iI rb)), (5, .int (iI nx)), (6, .int (iI nr))]) dX0_nextAfter_138 hl (q := 8) rfl (by omega) (by decide) rfl (fun ls hl => ?_)
                refine lv_goto T.1 T.2.1 (tgt := 48) dX0_nextAfter_141 (by decide) ?_
                exact ih48 nx nr (b + 1) _ _ ls (by omega) (by have hk := okB_rk (N := N) (g := gd) (p := pv) (b := b) (by omega) (by omega) (by omega); rw [← hrb] at hk; have hx : rkF N b = N (392 + b) * 60 + b := rfl; first | exact nxU_no hB (by rw [hk]; omega) | exact nxU_yes hB (by rw [hk]; omega) (by omega) (by omega) | exact nxU_not hB (by omega) (by omega)) (by have hx : rkF N b = N (392 + b) * 60 + b := rfl; omega) (by omega) hP hS (lv_sub hl [3, 4, 5, 6, 7, 8, 0] rfl)
              · skip
                refine lv_iload T.1 T.2.1 dX0_nextAfter_110 (lv_at hl 1 rfl) ?_
                refine lv_iload T.1 T.2.1 dX0_nextAfter_112 (lv_at hl 5 rfl) ?_
                refine xv_icmp_le T (by omega) (tgt := 138) dX0_nextAfter_114 (by decide) (fun c4 => ?_) (fun c4 => ?_)
                · skip
                  refine xv_iinc T (y := b + 1) (lv' := [(7, .int (iI (b + 1))), (9, .int (iI fv)), (8, .int (iI ((N (392 + b)) * 60 + b))), (0, .ref (o + 12)), (1, .int (iI gd)), (2, .int (iI pv)), (4, .int (iI rb)), (5, .int (iI nx)), (6, .int (iI nr))]) dX0_nextAfter_138 hl (q := 8) rfl (by omega) (by decide) rfl (fun ls hl => ?_)
                  refine lv_goto T.1 T.2.1 (tgt := 48) dX0_nextAfter_141 (by decide) ?_
                  exact ih48 nx nr (b + 1) _ _ ls (by omega) (by have hk := okB_rk (N := N) (g := gd) (p := pv) (b := b) (by omega) (by omega) (by omega); rw [← hrb] at hk; have hx : rkF N b = N (392 + b) * 60 + b := rfl; first | exact nxU_no hB (by rw [hk]; omega) | exact nxU_yes hB (by rw [hk]; omega) (by omega) (by omega) | exact nxU_not hB (by omega) (by omega)) (by have hx : rkF N b = N (392 + b) * 60 + b := rfl; omega) (by omega) hP hS (lv_sub hl [3, 4, 5, 6, 7, 8, 0] rfl)
                · skip
                  refine lv_iload T.1 T.2.1 dX0_nextAfter_117 (lv_at hl 6 rfl) ?_
                  refine xv_iconst T dX0_nextAfter_119 ?_
                  refine xv_icmp_eq T (by omega) (tgt := 130) dX0_nextAfter_120 (by decide) (fun c5 => ?_) (fun c5 => ?_)
                  · skip
                    refine lv_iload T.1 T.2.1 dX0_nextAfter_130 (lv_at hl 8 rfl) ?_
                    refine lv_istore (lv' := [(5, .int (iI b)), (9, .int (iI fv)), (8, .int (iI ((N (392 + b)) * 60 + b))), (0, .ref (o + 12)), (1, .int (iI gd)), (2, .int (iI pv)), (4, .int (iI rb)), (6, .int (iI nr)), (7, .int (iI b))]) T.1 T.2.1 dX0_nextAfter_132 hl (by decide) rfl (fun ls hl => ?_)
                    refine lv_iload T.1 T.2.1 dX0_nextAfter_134 (lv_at hl 2 rfl) ?_
                    refine lv_istore (lv' := [(6, .int (iI ((N (392 + b)) * 60 + b))), (5, .int (iI b)), (9, .int (iI fv)), (8, .int (iI ((N (392 + b)) * 60 + b))), (0, .ref (o + 12)), (1, .int (iI gd)), (2, .int (iI pv)), (4, .int (iI rb)), (7, .int (iI b))]) T.1 T.2.1 dX0_nextAfter_136 hl (by decide) rfl (fun ls hl => ?_)
                    refine xv_iinc T (y := b + 1) (lv' := [(7, .int (iI (b + 1))), (6, .int (iI ((N (392 + b)) * 60 + b))), (5, .int (iI b)), (9, .int (iI fv)), (8, .int (iI ((N (392 + b)) * 60 + b))), (0, .ref (o + 12)), (1, .int (iI gd)), (2, .int (iI pv)), (4, .int (iI rb))]) dX0_nextAfter_138 hl (q := 8) rfl (by omega) (by decide) rfl (fun ls hl => ?_)
                    refine lv_goto T.1 T.2.1 (tgt := 48) dX0_nextAfter_141 (by decide) ?_
                    exact ih48 b ((N (392 + b)) * 60 + b) (b + 1) _ _ ls (by omega) (by have hk := okB_rk (N := N) (g := gd) (p := pv) (b := b) (by omega) (by omega) (by omega); rw [← hrb] at hk; have hx : rkF N b = N (392 + b) * 60 + b := rfl; first | exact nxU_no hB (by rw [hk]; omega) | exact nxU_yes hB (by rw [hk]; omega) (by omega) (by omega) | exact nxU_not hB (by omega) (by omega)) (by have hx : rkF N b = N (392 + b) * 60 + b := rfl; omega) (by omega) hP hS (lv_sub hl [5, 6, 7, 8, 2, 1, 0] rfl)
                  · skip
                    refine lv_iload T.1 T.2.1 dX0_nextAfter_123 (lv_at hl 1 rfl) ?_
                    refine lv_iload T.1 T.2.1 dX0_nextAfter_125 (lv_at hl 7 rfl) ?_
                    refine xv_icmp_ge T (by omega) (tgt := 138) dX0_nextAfter_127 (by decide) (fun c6 => ?_) (fun c6 => ?_)
                    · skip
                      refine xv_iinc T (y := b + 1) (lv' := [(7, .int (iI (b + 1))), (9, .int (iI fv)), (8, .int (iI ((N (392 + b)) * 60 + b))), (0, .ref (o + 12)), (1, .int (iI gd)), (2, .int (iI pv)), (4, .int (iI rb)), (5, .int (iI nx)), (6, .int (iI nr))]) dX0_nextAfter_138 hl (q := 8) rfl (by omega) (by decide) rfl (fun ls hl => ?_)
                      refine lv_goto T.1 T.2.1 (tgt := 48) dX0_nextAfter_141 (by decide) ?_
                      exact ih48 nx nr (b + 1) _ _ ls (by omega) (by have hk := okB_rk (N := N) (g := gd) (p := pv) (b := b) (by omega) (by omega) (by omega); rw [← hrb] at hk; have hx : rkF N b = N (392 + b) * 60 + b := rfl; first | exact nxU_no hB (by rw [hk]; omega) | exact nxU_yes hB (by rw [hk]; omega) (by omega) (by omega) | exact nxU_not hB (by omega) (by omega)) (by have hx : rkF N b = N (392 + b) * 60 + b := rfl; omega) (by omega) hP hS (lv_sub hl [3, 4, 5, 6, 7, 8, 0] rfl)
                    · skip
                      refine lv_iload T.1 T.2.1 dX0_nextAfter_130 (lv_at hl 8 rfl) ?_
                      refine lv_istore (lv' := [(5, .int (iI b)), (9, .int (iI fv)), (8, .int (iI ((N (392 + b)) * 60 + b))), (0, .ref (o + 12)), (1, .int (iI gd)), (2, .int (iI pv)), (4, .int (iI rb)), (6, .int (iI nr)), (7, .int (iI b))]) T.1 T.2.1 dX0_nextAfter_132 hl (by decide) rfl (fun ls hl => ?_)
                      refine lv_iload T.1 T.2.1 dX0_nextAfter_134 (lv_at hl 2 rfl) ?_
                      refine lv_istore (lv' := [(6, .int (iI ((N (392 + b)) * 60 + b))), (5, .int (iI b)), (9, .int (iI fv)), (8, .int (iI ((N (392 + b)) * 60 + b))), (0, .ref (o + 12)), (1, .int (iI gd)), (2, .int (iI pv)), (4, .int (iI rb)), (7, .int (iI b))]) T.1 T.2.1 dX0_nextAfter_136 hl (by decide) rfl (fun ls hl => ?_)
                      refine xv_iinc T (y := b + 1) (lv' := [(7, .int (iI (b + 1))), (6, .int (iI ((N (392 + b)) * 60 + b))), (5, .int (iI b)), (9, .int (iI fv)), (8, .int (iI ((N (392 + b)) * 60 + b))), (0, .ref (o + 12)), (1, .int (iI gd)), (2, .int (iI pv)), (4, .int (iI rb))]) dX0_nextAfter_138 hl (q := 8) rfl (by omega) (by decide) rfl (fun ls hl => ?_)
                      refine lv_goto T.1 T.2.1 (tgt := 48) dX0_nextAfter_141 (by decide) ?_
                      exact ih48 b ((N (392 + b)) * 60 + b) (b + 1) _ _ ls (by omega) (by have hk := okB_rk (N := N) (g := gd) (p := pv) (b := b) (by omega) (by omega) (by omega); rw [← hrb] at hk; have hx : rkF N b = N (392 + b) * 60 + b := rfl; first | exact nxU_no hB (by rw [hk]; omega) | exact nxU_yes hB (by rw [hk]; omega) (by omega) (by omega) | exact nxU_not hB (by omega) (by omega)) (by have hx : rkF N b = N (392 + b) * 60 + b := rfl; omega) (by omega) hP hS (lv_sub hl [5, 6, 7, 8, 2, 1, 0] rfl)
            refine lv_aload_n T.1 T.2.1 dX0_nextAfter_72 rfl (lv_at hl 1 rfl) ?_
            refine g0_left T hK hP 12 rfl rfl mw_1_98 dX0_nextAfter_73 ?_
            refine lv_iload T.1 T.2.1 dX0_nextAfter_76 (lv_at hl 7 rfl) ?_
            refine xa_iald T hK hP 15 rfl rfl (272 + b) (by omega) (by omega) (by decide) dX0_nextAfter_78 ?_
            refine xv_if_le T (by omega) (tgt := 102) dX0_nextAfter_79 (by decide) (fun c7 => ?_) (fun c7 => ?_)
            · skip
              refine xv_iconst T dX0_nextAfter_102 ?_
              exact jn103 0 _ _ ls (by omega) hP hS (lv_sub hl [0, 1, 2, 3, 4, 5, 6, 7] rfl)
            · skip
              refine lv_iload_n T.1 T.2.1 dX0_nextAfter_82 rfl (lv_at hl 2 rfl) ?_
              refine xv_iconst T dX0_nextAfter_83 ?_
              refine xv_icmp_eq T (by omega) (tgt := 98) dX0_nextAfter_84 (by decide) (fun c8 => ?_) (fun c8 => ?_)
              · skip
                refine xv_iconst T dX0_nextAfter_98 ?_
                refine lv_goto T.1 T.2.1 (tgt := 103) dX0_nextAfter_99 (by decide) ?_
                exact jn103 1 _ _ ls (by omega) hP hS (lv_sub hl [0, 1, 2, 3, 4, 5, 6, 7] rfl)
              · skip
                refine lv_aload_n T.1 T.2.1 dX0_nextAfter_87 rfl (lv_at hl 1 rfl) ?_
                refine g0_good T hK hP 12 rfl rfl mw_1_93 dX0_nextAfter_88 ?_
                refine lv_iload T.1 T.2.1 dX0_nextAfter_91 (lv_at hl 7 rfl) ?_
                refine xa_iald T hK hP 13 rfl rfl (152 + b) (by omega) (by omega) (by decide) dX0_nextAfter_93 ?_
                refine lv_iload_n T.1 T.2.1 dX0_nextAfter_94 rfl (lv_at hl 2 rfl) ?_
                refine xv_icmp_ne T (by omega) (tgt := 102) dX0_nextAfter_95 (by decide) (fun c9 => ?_) (fun c9 => ?_)
                · skip
                  refine xv_iconst T dX0_nextAfter_102 ?_
                  exact jn103 0 _ _ ls (by omega) hP hS (lv_sub hl [0, 1, 2, 3, 4, 5, 6, 7] rfl)
                · skip
                  refine xv_iconst T dX0_nextAfter_98 ?_
                  refine lv_goto T.1 T.2.1 (tgt := 103) dX0_nextAfter_99 (by decide) ?_
                  exact jn103 1 _ _ ls (by omega) hP hS (lv_sub hl [0, 1, 2, 3, 4, 5, 6, 7] rfl)
      exact lp48 61 (-1) (-1) 0 _ _ ls (by omega) nxU_0 (by omega) (by omega) hP hS (lv_sub hl [5, 6, 7, 3, 2, 1, 0] rfl)
    refine lv_iload_n T.1 T.2.1 dX0_nextAfter_18 rfl (lv_at hl 0 rfl) ?_
    refine xv_if_eq T (by omega) (tgt := 26) dX0_nextAfter_19 (by decide) (fun c10 => ?_) (fun c10 => ?_)
    · skip
      refine lv_aload_n T.1 T.2.1 dX0_nextAfter_26 rfl (lv_at hl 1 rfl) ?_
      refine g0_due T hK hP 12 rfl rfl mw_1_103 dX0_nextAfter_27 ?_
      refine lv_iload_n T.1 T.2.1 dX0_nextAfter_30 rfl (lv_at hl 3 rfl) ?_
      refine xa_iald T hK hP 17 rfl rfl (392 + pv) (by omega) (by omega) (by decide) dX0_nextAfter_31 ?_
      have f11 := hIB pv (by omega) (by omega)
      refine xv_bipush T dX0_nextAfter_32 (by omega) ?_
      refine xv_imul T dX0_nextAfter_34 ?_
      refine lv_iload_n T.1 T.2.1 dX0_nextAfter_35 rfl (lv_at hl 3 rfl) ?_
      refine xv_iadd T dX0_nextAfter_36 ?_
      exact jn37 ((N (392 + pv)) * 60 + pv) _ _ ls (by first | rw [if_pos (by omega)] | (rw [if_neg (by omega)]; rfl)) (by omega) hP hS (lv_sub hl [0, 1, 2, 3] rfl)
    · skip
      refine xv_iconst T dX0_nextAfter_22 ?_
      refine lv_goto T.1 T.2.1 (tgt := 37) dX0_nextAfter_23 (by decide) ?_
      exact jn37 (-1) _ _ ls (by first | rw [if_pos (by omega)] | (rw [if_neg (by omega)]; rfl)) (by omega) hP hS (lv_sub hl [0, 1, 2, 3] rfl)
  refine lv_iload_n T.1 T.2.1 dX0_nextAfter_0 rfl (lv_at hl 2 rfl) ?_
  refine xv_if_lt T (by omega) (tgt := 12) dX0_nextAfter_1 (by decide) (fun c12 => ?_) (fun c12 => ?_)
  · skip
    refine xv_iconst T dX0_nextAfter_12 ?_
    refine lv_goto T.1 T.2.1 (tgt := 17) dX0_nextAfter_13 (by decide) ?_
    exact jn17 1 _ _ ls (by omega) hP hS (lv_sub hl [0, 1, 2] rfl)
  · skip
    refine lv_iload_n T.1 T.2.1 dX0_nextAfter_4 rfl (lv_at hl 2 rfl) ?_
    refine lv_aload_n T.1 T.2.1 dX0_nextAfter_5 rfl (lv_at hl 0 rfl) ?_
    refine g0_number T hK hP 12 rfl (v := .int (iI (N 6))) rfl mw_1_87 dX0_nextAfter_6 ?_
    refine xv_icmp_lt T (by omega) (tgt := 16) dX0_nextAfter_9 (by decide) (fun c13 => ?_) (fun c13 => ?_)
    · skip
      refine xv_iconst T dX0_nextAfter_16 ?_
      exact jn17 0 _ _ ls (by omega) hP hS (lv_sub hl [0, 1, 2] rfl)
    · skip
      refine xv_iconst T dX0_nextAfter_12 ?_
      refine lv_goto T.1 T.2.1 (tgt := 17) dX0_nextAfter_13 (by decide) ?_
      exact jn17 1 _ _ ls (by omega) hP hS (lv_sub hl [0, 1, 2] rfl)
set_option maxHeartbeats 4000000 in
set_option maxRecDepth 100000 in
theorem c_X2_place (l : Launch) (K : KT) (o : Nat) (N : Int → Int) (lk gd : Int) : CtI l yX2_place cX2_place 3 .int 0 0 K [.ref (o + 3), .int (iI lk), .int (iI gd)] (shipW K o N) (NoA) (fun (z : Int) (_ : Unit) => z = lk * 8 + gd) (fun _ => shipW K o N) := by
  refine CtI_of (by decide) (Nat.le_of_ble_eq_true rfl) ?_
  intro p e s m args below meth c T hr hk hP hK ls hl
  have T : CF p m c cX2_place 3 s args RX2 := T
  have hS : va_S (NoA) s.heap s.heap [] := va_S.rf
  have hl : lv_has ls 3 [(0, .ref (o + 3)), (1, .int (iI lk)), (2, .int (iI gd))] := hl
  refine lv_iload_n T.1 T.2.1 dX2_place_0 rfl (lv_at hl 1 rfl) ?_
  refine xv_bipush T dX2_place_1 (by omega) ?_
  refine xv_imul T dX2_place_3 ?_
  refine lv_iload_n T.1 T.2.1 dX2_place_4 rfl (lv_at hl 2 rfl) ?_
  refine xv_iadd T dX2_place_5 ?_
  exact rI T (u := ()) hr hk hK hP hS dX2_place_6 (rfl)
set_option maxHeartbeats 4000000 in
set_option maxRecDepth 100000 in
theorem c_X4_place (l : Launch) (K : KT) (o : Nat) (N : Int → Int) (gd re : Int) : CtI l yX4_place cX4_place 3 .int 0 0 K [.ref (o + 18), .int (iI gd), .int (iI re)] (shipW K o N) (NoA) (fun (z : Int) (_ : Unit) => z = gd * 4 + re) (fun _ => shipW K o N) := by
  refine CtI_of (by decide) (Nat.le_of_ble_eq_true rfl) ?_
  intro p e s m args below meth c T hr hk hP hK ls hl
  have T : CF p m c cX4_place 3 s args RX4 := T
  have hS : va_S (NoA) s.heap s.heap [] := va_S.rf
  have hl : lv_has ls 3 [(0, .ref (o + 18)), (1, .int (iI gd)), (2, .int (iI re))] := hl
  refine lv_iload_n T.1 T.2.1 dX4_place_0 rfl (lv_at hl 1 rfl) ?_
  refine xv_iconst T dX4_place_1 ?_
  refine xv_imul T dX4_place_2 ?_
  refine lv_iload_n T.1 T.2.1 dX4_place_3 rfl (lv_at hl 2 rfl) ?_
  refine xv_iadd T dX4_place_4 ?_
  exact rI T (u := ()) hr hk hK hP hS dX4_place_5 (rfl)
set_option maxHeartbeats 4000000 in
set_option maxRecDepth 100000 in
theorem c_X2_inState (l : Launch) (K : KT) (o : Nat) (N : Int → Int) (wn : Int) (r_wn : -2147483648 ≤ wn ∧ wn ≤ 2147483647) (hI0 : In0 N) (hIL : InL N) : CtI l yX2_inState cX2_inState 4 .int 0 0 K [.ref (o + 3), .int (iI wn)] (shipW K o N) (NoA) (fun (z : Int) (_ : Unit) => z = cntF N wn) (fun _ => shipW K o N) := by
  refine CtI_of (by decide) (Nat.le_of_ble_eq_true rfl) ?_
  intro p e s m args below meth c T hr hk hP hK ls hl
  have T : CF p m c cX2_inState 4 s args RX2 := T
  have hS : va_S (NoA) s.heap s.heap [] := va_S.rf
  have hl : lv_has ls 4 [(0, .ref (o + 3)), (1, .int (iI wn))] := hl
  obtain ⟨b0, b1, b2, b3, b4, b5, b6, b7, b8, b9⟩ := id hI0
  refine xv_iconst T dX2_inState_0 ?_
  refine lv_istore_n (lv' := [(2, .int (iI 0)), (0, .ref (o + 3)), (1, .int (iI wn))]) T.1 T.2.1 dX2_inState_1 rfl hl (by decide) rfl (fun ls hl => ?_)
  refine xv_iconst T dX2_inState_2 ?_
  refine lv_istore_n (lv' := [(3, .int (iI 0)), (2, .int (iI 0)), (0, .ref (o + 3)), (1, .int (iI wn))]) T.1 T.2.1 dX2_inState_3 rfl hl (by decide) rfl (fun ls hl => ?_)
  have lp4 : ∀ (fuel : Nat) (acc : Int) (i : Int) (H : Heap) (locs : List Loc) (ls : Array Slot), (0 ≤ i ∧ i ≤ N 4) → (acc = sumZ (fun k => if N (14 + k) = wn then 1 else 0) i.toNat) → N 4 - i < (fuel : Int) → xP K (shipW K o N) H → va_S (NoA) s.heap H locs → lv_has ls 4 [(0, .ref (o + 3)), (1, .int (iI wn)), (2, .int (iI acc)), (3, .int (iI i))] → W p l e (rmF 0 0) s m args below meth c H locs 0 0 (MQ below (qI K (fun (z : Int) (_ : Unit) => z = cntF N wn) (fun _ => shipW K o N) (NoA)) args s 0 0 (NoA)) (F0 m 4 ls []) := by
    intro fuel
    induction fuel with
    | zero =>
      intro acc i H locs ls hi ha hm hP hS hl
      exact absurd hm (by omega)
    | succ fuel ih4 =>
      intro acc i H locs ls hi ha hm hP hS hl
      refine lv_iload_n T.1 T.2.1 dX2_inState_4 rfl (lv_at hl 3 rfl) ?_
      refine lv_aload_n T.1 T.2.1 dX2_inState_5 rfl (lv_at hl 0 rfl) ?_
      refine g2_number T hK hP 3 rfl (v := .int (iI (N 4))) rfl mw_1_31 dX2_inState_6 ?_
      refine xv_icmp_ge T (by omega) (tgt := 31) dX2_inState_9 (by decide) (fun c1 => ?_) (fun c1 => ?_)
      · skip
        refine lv_iload_n T.1 T.2.1 dX2_inState_31 rfl (lv_at hl 2 rfl) ?_
        exact rI T (u := ()) hr hk hK hP hS dX2_inState_32 (by unfold cntF; rw [ha, show i = N 4 by omega])
      · skip
        refine lv_aload_n T.1 T.2.1 dX2_inState_12 rfl (lv_at hl 0 rfl) ?_
        refine g2_state T hK hP 3 rfl rfl mw_1_34 dX2_inState_13 ?_
        refine lv_iload_n T.1 T.2.1 dX2_inState_16 rfl (lv_at hl 3 rfl) ?_
        refine xa_iald T hK hP 4 rfl rfl (14 + i) (by omega) (by omega) (by decide) dX2_inState_17 ?_
        have hli := hIL i (by omega) (by omega)
        refine lv_iload_n T.1 T.2.1 dX2_inState_18 rfl (lv_at hl 1 rfl) ?_
        refine xv_icmp_ne T (by omega) (tgt := 25) dX2_inState_19 (by decide) (fun c2 => ?_) (fun c2 => ?_)
        · skip
          refine xv_iinc T (y := i + 1) (lv' := [(3, .int (iI (i + 1))), (0, .ref (o + 3)), (1, .int (iI wn)), (2, .int (iI acc))]) dX2_inState_25 hl (q := 3) rfl (by omega) (by decide) rfl (fun ls hl => ?_)
          refine lv_goto T.1 T.2.1 (tgt := 4) dX2_inState_28 (by decide) ?_
          exact ih4 acc (i + 1) _ _ ls (by omega) (by rw [sumZ_step (by omega), ← ha]; first | rw [if_pos (by omega)] | (rw [if_neg (by omega)]; omega)) (by omega) hP hS (lv_sub hl [1, 2, 3, 0] rfl)
        · skip
          refine xv_iinc T (y := acc + 1) (lv' := [(2, .int (iI (acc + 1))), (0, .ref (o + 3)), (1, .int (iI wn)), (3, .int (iI i))]) dX2_inState_22 hl (q := 2) rfl (by omega) (by decide) rfl (fun ls hl => ?_)
          refine xv_iinc T (y := i + 1) (lv' := [(3, .int (iI (i + 1))), (2, .int (iI (acc + 1))), (0, .ref (o + 3)), (1, .int (iI wn))]) dX2_inState_25 hl (q := 3) rfl (by omega) (by decide) rfl (fun ls hl => ?_)
          refine lv_goto T.1 T.2.1 (tgt := 4) dX2_inState_28 (by decide) ?_
          exact ih4 (acc + 1) (i + 1) _ _ ls (by omega) (by rw [sumZ_step (by omega), ← ha]; first | rw [if_pos (by omega)] | (rw [if_neg (by omega)]; omega)) (by omega) hP hS (lv_sub hl [2, 3, 1, 0] rfl)
  exact lp4 6 0 0 _ _ ls (by omega) rfl (by omega) hP hS (lv_sub hl [2, 3, 1, 0] rfl)
set_option maxHeartbeats 4000000 in
set_option maxRecDepth 100000 in
theorem c_X2_sumOfLocker_u (l : Launch) (K : KT) (o : Nat) (N : Int → Int) (lk : Int) (r_lk : 0 ≤ lk ∧ lk < 5) : CtI l yX2_sumOfLocker cX2_sumOfLocker 5 .int 1 22 K [.ref (o + 3), .ref (o + 6), .int (iI lk)] (shipW K o N) (NoA) (fun (z : Int) (_ : Unit) => z = sumZ (fun k => N (24 + 8 * lk + k)) 8) (fun _ => shipW K o N) := by
  refine CtI_of (by decide) (Nat.le_of_ble_eq_true rfl) ?_
  intro p e s m args below meth c T hr hk hP hK ls hl
  have T : CF p m c cX2_sumOfLocker 5 s args RX2 := T
  have hS : va_S (NoA) s.heap s.heap [] := va_S.rf
  have hl : lv_has ls 5 [(0, .ref (o + 3)), (1, .ref (o + 6)), (2, .int (iI lk))] := hl
  refine xv_iconst T dX2_sumOfLocker_0 ?_
  refine lv_istore_n (lv' := [(3, .int (iI 0)), (0, .ref (o + 3)), (1, .ref (o + 6)), (2, .int (iI lk))]) T.1 T.2.1 dX2_sumOfLocker_1 rfl hl (by decide) rfl (fun ls hl => ?_)
  refine xv_iconst T dX2_sumOfLocker_2 ?_
  refine lv_istore (lv' := [(4, .int (iI 0)), (3, .int (iI 0)), (0, .ref (o + 3)), (1, .ref (o + 6)), (2, .int (iI lk))]) T.1 T.2.1 dX2_sumOfLocker_3 hl (by decide) rfl (fun ls hl => ?_)
  have lp5 : ∀ (fuel : Nat) (acc : Int) (i : Int) (H : Heap) (locs : List Loc) (ls : Array Slot), (0 ≤ i ∧ i ≤ 8) → (acc = sumZ (fun k => N (24 + 8 * lk + k)) i.toNat) → 8 - i < (fuel : Int) → xP K (shipW K o N) H → va_S (NoA) s.heap H locs → lv_has ls 5 [(0, .ref (o + 3)), (1, .ref (o + 6)), (2, .int (iI lk)), (3, .int (iI acc)), (4, .int (iI i))] → W p l e (rmF 1 22) s m args below meth c H locs 0 0 (MQ below (qI K (fun (z : Int) (_ : Unit) => z = sumZ (fun k => N (24 + 8 * lk + k)) 8) (fun _ => shipW K o N) (NoA)) args s 0 0 (NoA)) (F0 m 5 ls []) := by
    intro fuel
    induction fuel with
    | zero =>
      intro acc i H locs ls hi ha hm hP hS hl
      exact absurd hm (by omega)
    | succ fuel ih5 =>
      intro acc i H locs ls hi ha hm hP hS hl
      refine lv_iload T.1 T.2.1 dX2_sumOfLocker_5 (lv_at hl 4 rfl) ?_
      refine xv_bipush T dX2_sumOfLocker_7 (by omega) ?_
      refine xv_icmp_ge T (by omega) (tgt := 30) dX2_sumOfLocker_9 (by decide) (fun c1 => ?_) (fun c1 => ?_)
      · skip
        refine lv_iload_n T.1 T.2.1 dX2_sumOfLocker_30 rfl (lv_at hl 3 rfl) ?_
        exact rI T (u := ()) hr hk hK hP hS dX2_sumOfLocker_31 (by rw [ha]; congr 1; omega)
      · skip
        refine lv_iload_n T.1 T.2.1 dX2_sumOfLocker_12 rfl (lv_at hl 3 rfl) ?_
        refine lv_aload_n T.1 T.2.1 dX2_sumOfLocker_13 rfl (lv_at hl 1 rfl) ?_
        refine lv_aload_n T.1 T.2.1 dX2_sumOfLocker_14 rfl (lv_at hl 0 rfl) ?_
        refine lv_iload_n T.1 T.2.1 dX2_sumOfLocker_15 rfl (lv_at hl 2 rfl) ?_
        refine lv_iload T.1 T.2.1 dX2_sumOfLocker_16 (lv_at hl 4 rfl) ?_
        refine cI_V T hK hP hS 3 rfl rfl rfl (c_X2_place l K o N lk i ) iX2_place mw_2_132 ⟨Nat.le_of_ble_eq_true rfl, Nat.le_of_ble_eq_true rfl⟩ hP noA rfl hl.1 rfl (Nat.le_of_ble_eq_true rfl) ⟨Nat.zero_le _, Nat.zero_le _⟩ dX2_sumOfLocker_18 (fun z2 _ H1 locs q3 hP1 hg1 hg2 hS => ?_)
        have hP := xP_kept hP hg2
        generalize H1 = H at hP hS ⊢
        clear hg1 hg2 hP1
        obtain rfl : z2 = lk * 8 + i := q3
        refine xa_iald T hK hP 6 rfl rfl (24 + 8 * lk + i) (by omega) (by omega) (by decide) dX2_sumOfLocker_21 ?_
        refine xv_iadd T dX2_sumOfLocker_22 ?_
        refine lv_istore_n (lv' := [(3, .int (iI (acc + (N (24 + 8 * lk + i))))), (0, .ref (o + 3)), (1, .ref (o + 6)), (2, .int (iI lk)), (4, .int (iI i))]) T.1 T.2.1 dX2_sumOfLocker_23 rfl hl (by decide) rfl (fun ls hl => ?_)
        refine xv_iinc T (y := i + 1) (lv' := [(4, .int (iI (i + 1))), (3, .int (iI (acc + (N (24 + 8 * lk + i))))), (0, .ref (o + 3)), (1, .ref (o + 6)), (2, .int (iI lk))]) dX2_sumOfLocker_24 hl (q := 4) rfl (by omega) (by decide) rfl (fun ls hl => ?_)
        refine lv_goto T.1 T.2.1 (tgt := 5) dX2_sumOfLocker_27 (by decide) ?_
        exact ih5 (acc + (N (24 + 8 * lk + i))) (i + 1) _ _ ls (by omega) (by rw [sumZ_step (by omega), ha]) (by omega) hP hS (lv_sub hl [2, 3, 4, 1, 0] rfl)
  exact lp5 9 0 0 _ _ ls (by omega) rfl (by omega) hP hS (lv_sub hl [2, 3, 4, 1, 0] rfl)
set_option maxHeartbeats 4000000 in
set_option maxRecDepth 100000 in
theorem c_X2_sumOfLocker_m (l : Launch) (K : KT) (o : Nat) (N : Int → Int) (lk : Int) (r_lk : 0 ≤ lk ∧ lk < 5) : CtI l yX2_sumOfLocker cX2_sumOfLocker 5 .int 1 22 K [.ref (o + 3), .ref (o + 7), .int (iI lk)] (shipW K o N) (NoA) (fun (z : Int) (_ : Unit) => z = sumZ (fun k => N (64 + 8 * lk + k)) 8) (fun _ => shipW K o N) := by
  refine CtI_of (by decide) (Nat.le_of_ble_eq_true rfl) ?_
  intro p e s m args below meth c T hr hk hP hK ls hl
  have T : CF p m c cX2_sumOfLocker 5 s args RX2 := T
  have hS : va_S (NoA) s.heap s.heap [] := va_S.rf
  have hl : lv_has ls 5 [(0, .ref (o + 3)), (1, .ref (o + 7)), (2, .int (iI lk))] := hl
  refine xv_iconst T dX2_sumOfLocker_0 ?_
  refine lv_istore_n (lv' := [(3, .int (iI 0)), (0, .ref (o + 3)), (1, .ref (o + 7)), (2, .int (iI lk))]) T.1 T.2.1 dX2_sumOfLocker_1 rfl hl (by decide) rfl (fun ls hl => ?_)
  refine xv_iconst T dX2_sumOfLocker_2 ?_
  refine lv_istore (lv' := [(4, .int (iI 0)), (3, .int (iI 0)), (0, .ref (o + 3)), (1, .ref (o + 7)), (2, .int (iI lk))]) T.1 T.2.1 dX2_sumOfLocker_3 hl (by decide) rfl (fun ls hl => ?_)
  have lp5 : ∀ (fuel : Nat) (acc : Int) (i : Int) (H : Heap) (locs : List Loc) (ls : Array Slot), (0 ≤ i ∧ i ≤ 8) → (acc = sumZ (fun k => N (64 + 8 * lk + k)) i.toNat) → 8 - i < (fuel : Int) → xP K (shipW K o N) H → va_S (NoA) s.heap H locs → lv_has ls 5 [(0, .ref (o + 3)), (1, .ref (o + 7)), (2, .int (iI lk)), (3, .int (iI acc)), (4, .int (iI i))] → W p l e (rmF 1 22) s m args below meth c H locs 0 0 (MQ below (qI K (fun (z : Int) (_ : Unit) => z = sumZ (fun k => N (64 + 8 * lk + k)) 8) (fun _ => shipW K o N) (NoA)) args s 0 0 (NoA)) (F0 m 5 ls []) := by
    intro fuel
    induction fuel with
    | zero =>
      intro acc i H locs ls hi ha hm hP hS hl
      exact absurd hm (by omega)
    | succ fuel ih5 =>
      intro acc i H locs ls hi ha hm hP hS hl
      refine lv_iload T.1 T.2.1 dX2_sumOfLocker_5 (lv_at hl 4 rfl) ?_
      refine xv_bipush T dX2_sumOfLocker_7 (by omega) ?_
      refine xv_icmp_ge T (by omega) (tgt := 30) dX2_sumOfLocker_9 (by decide) (fun c1 => ?_) (fun c1 => ?_)
      · skip
        refine lv_iload_n T.1 T.2.1 dX2_sumOfLocker_30 rfl (lv_at hl 3 rfl) ?_
        exact rI T (u := ()) hr hk hK hP hS dX2_sumOfLocker_31 (by rw [ha]; congr 1; omega)
      · skip
        refine lv_iload_n T.1 T.2.1 dX2_sumOfLocker_12 rfl (lv_at hl 3 rfl) ?_
        refine lv_aload_n T.1 T.2.1 dX2_sumOfLocker_13 rfl (lv_at hl 1 rfl) ?_
        refine lv_aload_n T.1 T.2.1 dX2_sumOfLocker_14 rfl (lv_at hl 0 rfl) ?_
        refine lv_iload_n T.1 T.2.1 dX2_sumOfLocker_15 rfl (lv_at hl 2 rfl) ?_
        refine lv_iload T.1 T.2.1 dX2_sumOfLocker_16 (lv_at hl 4 rfl) ?_
        refine cI_V T hK hP hS 3 rfl rfl rfl (c_X2_place l K o N lk i ) iX2_place mw_2_132 ⟨Nat.le_of_ble_eq_true rfl, Nat.le_of_ble_eq_true rfl⟩ hP noA rfl hl.1 rfl (Nat.le_of_ble_eq_true rfl) ⟨Nat.zero_le _, Nat.zero_le _⟩ dX2_sumOfLocker_18 (fun z2 _ H1 locs q3 hP1 hg1 hg2 hS => ?_)
        have hP := xP_kept hP hg2
        generalize H1 = H at hP hS ⊢
        clear hg1 hg2 hP1
        obtain rfl : z2 = lk * 8 + i := q3
        refine xa_iald T hK hP 7 rfl rfl (64 + 8 * lk + i) (by omega) (by omega) (by decide) dX2_sumOfLocker_21 ?_
        refine xv_iadd T dX2_sumOfLocker_22 ?_
        refine lv_istore_n (lv' := [(3, .int (iI (acc + (N (64 + 8 * lk + i))))), (0, .ref (o + 3)), (1, .ref (o + 7)), (2, .int (iI lk)), (4, .int (iI i))]) T.1 T.2.1 dX2_sumOfLocker_23 rfl hl (by decide) rfl (fun ls hl => ?_)
        refine xv_iinc T (y := i + 1) (lv' := [(4, .int (iI (i + 1))), (3, .int (iI (acc + (N (64 + 8 * lk + i))))), (0, .ref (o + 3)), (1, .ref (o + 7)), (2, .int (iI lk))]) dX2_sumOfLocker_24 hl (q := 4) rfl (by omega) (by decide) rfl (fun ls hl => ?_)
        refine lv_goto T.1 T.2.1 (tgt := 5) dX2_sumOfLocker_27 (by decide) ?_
        exact ih5 (acc + (N (64 + 8 * lk + i))) (i + 1) _ _ ls (by omega) (by rw [sumZ_step (by omega), ha]) (by omega) hP hS (lv_sub hl [2, 3, 4, 1, 0] rfl)
  exact lp5 9 0 0 _ _ ls (by omega) rfl (by omega) hP hS (lv_sub hl [2, 3, 4, 1, 0] rfl)
set_option maxHeartbeats 4000000 in
set_option maxRecDepth 100000 in
theorem c_X2_sumOfGood_u (l : Launch) (K : KT) (o : Nat) (N : Int → Int) (gd : Int) (r_gd : 0 ≤ gd ∧ gd < 8) (hI0 : In0 N) : CtI l yX2_sumOfGood cX2_sumOfGood 5 .int 1 22 K [.ref (o + 3), .ref (o + 6), .int (iI gd)] (shipW K o N) (NoA) (fun (z : Int) (_ : Unit) => z = sumZ (fun k => N (24 + 8 * k + gd)) (N 4).toNat) (fun _ => shipW K o N) := by
  refine CtI_of (by decide) (Nat.le_of_ble_eq_true rfl) ?_
  intro p e s m args below meth c T hr hk hP hK ls hl
  have T : CF p m c cX2_sumOfGood 5 s args RX2 := T
  have hS : va_S (NoA) s.heap s.heap [] := va_S.rf
  have hl : lv_has ls 5 [(0, .ref (o + 3)), (1, .ref (o + 6)), (2, .int (iI gd))] := hl
  obtain ⟨b0, b1, b2, b3, b4, b5, b6, b7, b8, b9⟩ := id hI0
  refine xv_iconst T dX2_sumOfGood_0 ?_
  refine lv_istore_n (lv' := [(3, .int (iI 0)), (0, .ref (o + 3)), (1, .ref (o + 6)), (2, .int (iI gd))]) T.1 T.2.1 dX2_sumOfGood_1 rfl hl (by decide) rfl (fun ls hl => ?_)
  refine xv_iconst T dX2_sumOfGood_2 ?_
  refine lv_istore (lv' := [(4, .int (iI 0)), (3, .int (iI 0)), (0, .ref (o + 3)), (1, .ref (o + 6)), (2, .int (iI gd))]) T.1 T.2.1 dX2_sumOfGood_3 hl (by decide) rfl (fun ls hl => ?_)
  have lp5 : ∀ (fuel : Nat) (acc : Int) (i : Int) (H : Heap) (locs : List Loc) (ls : Array Slot), (0 ≤ i ∧ i ≤ N 4) → (acc = sumZ (fun k => N (24 + 8 * k + gd)) i.toNat) → N 4 - i < (fuel : Int) → xP K (shipW K o N) H → va_S (NoA) s.heap H locs → lv_has ls 5 [(0, .ref (o + 3)), (1, .ref (o + 6)), (2, .int (iI gd)), (3, .int (iI acc)), (4, .int (iI i))] → W p l e (rmF 1 22) s m args below meth c H locs 0 0 (MQ below (qI K (fun (z : Int) (_ : Unit) => z = sumZ (fun k => N (24 + 8 * k + gd)) (N 4).toNat) (fun _ => shipW K o N) (NoA)) args s 0 0 (NoA)) (F0 m 5 ls []) := by
    intro fuel
    induction fuel with
    | zero =>
      intro acc i H locs ls hi ha hm hP hS hl
      exact absurd hm (by omega)
    | succ fuel ih5 =>
      intro acc i H locs ls hi ha hm hP hS hl
      refine lv_iload T.1 T.2.1 dX2_sumOfGood_5 (lv_at hl 4 rfl) ?_
      refine lv_aload_n T.1 T.2.1 dX2_sumOfGood_7 rfl (lv_at hl 0 rfl) ?_
      refine g2_number T hK hP 3 rfl (v := .int (iI (N 4))) rfl mw_1_31 dX2_sumOfGood_8 ?_
      refine xv_icmp_ge T (by omega) (tgt := 32) dX2_sumOfGood_11 (by decide) (fun c1 => ?_) (fun c1 => ?_)
      · skip
        refine lv_iload_n T.1 T.2.1 dX2_sumOfGood_32 rfl (lv_at hl 3 rfl) ?_
        exact rI T (u := ()) hr hk hK hP hS dX2_sumOfGood_33 (by rw [ha, show i = N 4 by omega])
      · skip
        refine lv_iload_n T.1 T.2.1 dX2_sumOfGood_14 rfl (lv_at hl 3 rfl) ?_
        refine lv_aload_n T.1 T.2.1 dX2_sumOfGood_15 rfl (lv_at hl 1 rfl) ?_
        refine lv_aload_n T.1 T.2.1 dX2_sumOfGood_16 rfl (lv_at hl 0 rfl) ?_
        refine lv_iload T.1 T.2.1 dX2_sumOfGood_17 (lv_at hl 4 rfl) ?_
        refine lv_iload_n T.1 T.2.1 dX2_sumOfGood_19 rfl (lv_at hl 2 rfl) ?_
        refine cI_V T hK hP hS 3 rfl rfl rfl (c_X2_place l K o N i gd ) iX2_place mw_2_132 ⟨Nat.le_of_ble_eq_true rfl, Nat.le_of_ble_eq_true rfl⟩ hP noA rfl hl.1 rfl (Nat.le_of_ble_eq_true rfl) ⟨Nat.zero_le _, Nat.zero_le _⟩ dX2_sumOfGood_20 (fun z2 _ H1 locs q3 hP1 hg1 hg2 hS => ?_)
        have hP := xP_kept hP hg2
        generalize H1 = H at hP hS ⊢
        clear hg1 hg2 hP1
        obtain rfl : z2 = i * 8 + gd := q3
        refine xa_iald T hK hP 6 rfl rfl (24 + 8 * i + gd) (by omega) (by omega) (by decide) dX2_sumOfGood_23 ?_
        refine xv_iadd T dX2_sumOfGood_24 ?_
        refine lv_istore_n (lv' := [(3, .int (iI (acc + (N (24 + 8 * i + gd))))), (0, .ref (o + 3)), (1, .ref (o + 6)), (2, .int (iI gd)), (4, .int (iI i))]) T.1 T.2.1 dX2_sumOfGood_25 rfl hl (by decide) rfl (fun ls hl => ?_)
        refine xv_iinc T (y := i + 1) (lv' := [(4, .int (iI (i + 1))), (3, .int (iI (acc + (N (24 + 8 * i + gd))))), (0, .ref (o + 3)), (1, .ref (o + 6)), (2, .int (iI gd))]) dX2_sumOfGood_26 hl (q := 4) rfl (by omega) (by decide) rfl (fun ls hl => ?_)
        refine lv_goto T.1 T.2.1 (tgt := 5) dX2_sumOfGood_29 (by decide) ?_
        exact ih5 (acc + (N (24 + 8 * i + gd))) (i + 1) _ _ ls (by omega) (by rw [sumZ_step (by omega), ha]) (by omega) hP hS (lv_sub hl [2, 3, 4, 1, 0] rfl)
  exact lp5 6 0 0 _ _ ls (by omega) rfl (by omega) hP hS (lv_sub hl [2, 3, 4, 1, 0] rfl)
set_option maxHeartbeats 4000000 in
set_option maxRecDepth 100000 in
theorem c_X2_sumOfGood_m (l : Launch) (K : KT) (o : Nat) (N : Int → Int) (gd : Int) (r_gd : 0 ≤ gd ∧ gd < 8) (hI0 : In0 N) : CtI l yX2_sumOfGood cX2_sumOfGood 5 .int 1 22 K [.ref (o + 3), .ref (o + 7), .int (iI gd)] (shipW K o N) (NoA) (fun (z : Int) (_ : Unit) => z = sumZ (fun k => N (64 + 8 * k + gd)) (N 4).toNat) (fun _ => shipW K o N) := by
  refine CtI_of (by decide) (Nat.le_of_ble_eq_true rfl) ?_
  intro p e s m args below meth c T hr hk hP hK ls hl
  have T : CF p m c cX2_sumOfGood 5 s args RX2 := T
  have hS : va_S (NoA) s.heap s.heap [] := va_S.rf
  have hl : lv_has ls 5 [(0, .ref (o + 3)), (1, .ref (o + 7)), (2, .int (iI gd))] := hl
  obtain ⟨b0, b1, b2, b3, b4, b5, b6, b7, b8, b9⟩ := id hI0
  refine xv_iconst T dX2_sumOfGood_0 ?_
  refine lv_istore_n (lv' := [(3, .int (iI 0)), (0, .ref (o + 3)), (1, .ref (o + 7)), (2, .int (iI gd))]) T.1 T.2.1 dX2_sumOfGood_1 rfl hl (by decide) rfl (fun ls hl => ?_)
  refine xv_iconst T dX2_sumOfGood_2 ?_
  refine lv_istore (lv' := [(4, .int (iI 0)), (3, .int (iI 0)), (0, .ref (o + 3)), (1, .ref (o + 7)), (2, .int (iI gd))]) T.1 T.2.1 dX2_sumOfGood_3 hl (by decide) rfl (fun ls hl => ?_)
  have lp5 : ∀ (fuel : Nat) (acc : Int) (i : Int) (H : Heap) (locs : List Loc) (ls : Array Slot), (0 ≤ i ∧ i ≤ N 4) → (acc = sumZ (fun k => N (64 + 8 * k + gd)) i.toNat) → N 4 - i < (fuel : Int) → xP K (shipW K o N) H → va_S (NoA) s.heap H locs → lv_has ls 5 [(0, .ref (o + 3)), (1, .ref (o + 7)), (2, .int (iI gd)), (3, .int (iI acc)), (4, .int (iI i))] → W p l e (rmF 1 22) s m args below meth c H locs 0 0 (MQ below (qI K (fun (z : Int) (_ : Unit) => z = sumZ (fun k => N (64 + 8 * k + gd)) (N 4).toNat) (fun _ => shipW K o N) (NoA)) args s 0 0 (NoA)) (F0 m 5 ls []) := by
    intro fuel
    induction fuel with
    | zero =>
      intro acc i H locs ls hi ha hm hP hS hl
      exact absurd hm (by omega)
    | succ fuel ih5 =>
      intro acc i H locs ls hi ha hm hP hS hl
      refine lv_iload T.1 T.2.1 dX2_sumOfGood_5 (lv_at hl 4 rfl) ?_
      refine lv_aload_n T.1 T.2.1 dX2_sumOfGood_7 rfl (lv_at hl 0 rfl) ?_
      refine g2_number T hK hP 3 rfl (v := .int (iI (N 4))) rfl mw_1_31 dX2_sumOfGood_8 ?_
      refine xv_icmp_ge T (by omega) (tgt := 32) dX2_sumOfGood_11 (by decide) (fun c1 => ?_) (fun c1 => ?_)
      · skip
        refine lv_iload_n T.1 T.2.1 dX2_sumOfGood_32 rfl (lv_at hl 3 rfl) ?_
        exact rI T (u := ()) hr hk hK hP hS dX2_sumOfGood_33 (by rw [ha, show i = N 4 by omega])
      · skip
        refine lv_iload_n T.1 T.2.1 dX2_sumOfGood_14 rfl (lv_at hl 3 rfl) ?_
        refine lv_aload_n T.1 T.2.1 dX2_sumOfGood_15 rfl (lv_at hl 1 rfl) ?_
        refine lv_aload_n T.1 T.2.1 dX2_sumOfGood_16 rfl (lv_at hl 0 rfl) ?_
        refine lv_iload T.1 T.2.1 dX2_sumOfGood_17 (lv_at hl 4 rfl) ?_
        refine lv_iload_n T.1 T.2.1 dX2_sumOfGood_19 rfl (lv_at hl 2 rfl) ?_
        refine cI_V T hK hP hS 3 rfl rfl rfl (c_X2_place l K o N i gd ) iX2_place mw_2_132 ⟨Nat.le_of_ble_eq_true rfl, Nat.le_of_ble_eq_true rfl⟩ hP noA rfl hl.1 rfl (Nat.le_of_ble_eq_true rfl) ⟨Nat.zero_le _, Nat.zero_le _⟩ dX2_sumOfGood_20 (fun z2 _ H1 locs q3 hP1 hg1 hg2 hS => ?_)
        have hP := xP_kept hP hg2
        generalize H1 = H at hP hS ⊢
        clear hg1 hg2 hP1
        obtain rfl : z2 = i * 8 + gd := q3
        refine xa_iald T hK hP 7 rfl rfl (64 + 8 * i + gd) (by omega) (by omega) (by decide) dX2_sumOfGood_23 ?_
        refine xv_iadd T dX2_sumOfGood_24 ?_
        refine lv_istore_n (lv' := [(3, .int (iI (acc + (N (64 + 8 * i + gd))))), (0, .ref (o + 3)), (1, .ref (o + 7)), (2, .int (iI gd)), (4, .int (iI i))]) T.1 T.2.1 dX2_sumOfGood_25 rfl hl (by decide) rfl (fun ls hl => ?_)
        refine xv_iinc T (y := i + 1) (lv' := [(4, .int (iI (i + 1))), (3, .int (iI (acc + (N (64 + 8 * i + gd))))), (0, .ref (o + 3)), (1, .ref (o + 7)), (2, .int (iI gd))]) dX2_sumOfGood_26 hl (q := 4) rfl (by omega) (by decide) rfl (fun ls hl => ?_)
        refine lv_goto T.1 T.2.1 (tgt := 5) dX2_sumOfGood_29 (by decide) ?_
        exact ih5 (acc + (N (64 + 8 * i + gd))) (i + 1) _ _ ls (by omega) (by rw [sumZ_step (by omega), ha]) (by omega) hP hS (lv_sub hl [2, 3, 4, 1, 0] rfl)
  exact lp5 6 0 0 _ _ ls (by omega) rfl (by omega) hP hS (lv_sub hl [2, 3, 4, 1, 0] rfl)
set_option maxHeartbeats 4000000 in
set_option maxRecDepth 100000 in
theorem c_X5_left (l : Launch) (K : KT) (o : Nat) (N : Int → Int) (hI0 : In0 N) : CtI l yX5_left cX5_left 1 .int 0 0 K [.ref (o + 8)] (shipW K o N) (NoA) (fun (z : Int) (_ : Unit) => z = 200 - N 7) (fun _ => shipW K o N) := by
  refine CtI_of (by decide) (Nat.le_of_ble_eq_true rfl) ?_
  intro p e s m args below meth c T hr hk hP hK ls hl
  have T : CF p m c cX5_left 1 s args RX5 := T
  have hS : va_S (NoA) s.heap s.heap [] := va_S.rf
  have hl : lv_has ls 1 [(0, .ref (o + 8))] := hl
  refine xv_sipush T dX5_left_0 (by omega) ?_
  refine lv_aload_n T.1 T.2.1 dX5_left_3 rfl (lv_at hl 0 rfl) ?_
  refine g5_used T hK hP 8 rfl (v := .int (iI (N 7))) rfl mw_1_64 dX5_left_4 ?_
  refine xv_isub T dX5_left_7 ?_
  exact rI T (u := ()) hr hk hK hP hS dX5_left_8 (rfl)
