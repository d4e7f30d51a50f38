set_option maxHeartbeats 4000000 in
set_option maxRecDepth 100000 in
theorem c_X8_in (l : Launch) (K : KT) (v low high : Int) (r_v : -2147483648 ≤ v ∧ v ≤ 2147483647) (r_low : -2147483648 ≤ low ∧ low ≤ 2147483647) (r_high : -2147483648 ≤ high ∧ high ≤ 2147483647) : CtI l yX8_in cX8_in 3 .boolean 0 0 K [.int (iI v), .int (iI low), .int (iI high)] ([]) (NoA) (fun (z : Int) (_ : Unit) => (z = 1 ∧ (low ≤ v ∧ v ≤ high)) ∨ (z = 0 ∧ ¬ (low ≤ v ∧ v ≤ high))) (fun _ => []) := by
  refine CtI_of (by decide) (Nat.le_of_ble_eq_true rfl) ?_
  intro p e s m args below meth c T hr hk hP hK ls hl
  have T : CF p m c cX8_in 3 s args RX8 := T
  have hS : va_S (NoA) s.heap s.heap [] := va_S.rf
  have hl : lv_has ls 3 [(0, .int (iI v)), (1, .int (iI low)), (2, .int (iI high))] := hl
  refine lv_iload_n T.1 T.2.1 dX8_in_0 rfl (lv_at hl 0 rfl) ?_
  refine lv_iload_n T.1 T.2.1 dX8_in_1 rfl (lv_at hl 1 rfl) ?_
  refine xv_icmp_lt T (by omega) (tgt := 14) dX8_in_2 (by decide) (fun c1 => ?_) (fun c1 => ?_)
  · skip
    refine xv_iconst T dX8_in_14 ?_
    exact rB T (u := ()) hr hk hK hP hS (by omega) dX8_in_15 (by omega)
  · skip
    refine lv_iload_n T.1 T.2.1 dX8_in_5 rfl (lv_at hl 0 rfl) ?_
    refine lv_iload_n T.1 T.2.1 dX8_in_6 rfl (lv_at hl 2 rfl) ?_
    refine xv_icmp_gt T (by omega) (tgt := 14) dX8_in_7 (by decide) (fun c2 => ?_) (fun c2 => ?_)
    · skip
      refine xv_iconst T dX8_in_14 ?_
      exact rB T (u := ()) hr hk hK hP hS (by omega) dX8_in_15 (by omega)
    · skip
      refine xv_iconst T dX8_in_10 ?_
      refine lv_goto T.1 T.2.1 (tgt := 15) dX8_in_11 (by decide) ?_
      exact rB T (u := ()) hr hk hK hP hS (by omega) dX8_in_15 (by omega)
set_option maxHeartbeats 4000000 in
set_option maxRecDepth 100000 in
theorem c_X8_isLocker (l : Launch) (K : KT) (o : Nat) (N B SS TT F : Int → Int) (lk : Int) (r_lk : -2147483648 ≤ lk ∧ lk ≤ 2147483647) (hI : Inv N) : CtI l yX8_isLocker cX8_isLocker 2 .boolean 1 22 K [.ref o, .int (iI lk)] (mW K o N B SS TT F) (NoA) (fun (z : Int) (_ : Unit) => (z = 1 ∧ (0 ≤ lk ∧ lk < N 4)) ∨ (z = 0 ∧ ¬ (0 ≤ lk ∧ lk < N 4))) (fun _ => mW K o N B SS TT F) := by
  refine CtI_of (by decide) (Nat.le_of_ble_eq_true rfl) ?_
  intro p e s m args below meth c T hr hk hP hK ls hl
  have T : CF p m c cX8_isLocker 2 s args RX8 := T
  have hS : va_S (NoA) s.heap s.heap [] := va_S.rf
  have hl : lv_has ls 2 [(0, .ref o), (1, .int (iI lk))] := hl
  obtain ⟨hI0, hIL, hIH, hIB, hID, hIC, hIG, hIZ, hIF⟩ := id hI
  have hR : InR N := ⟨hI0, hIB⟩
  obtain ⟨b0, b1, b2, b3, b4, b5, b6, b7, b8, b9⟩ := id hI0
  refine lv_iload_n T.1 T.2.1 dX8_isLocker_0 rfl (lv_at hl 1 rfl) ?_
  refine xv_iconst T dX8_isLocker_1 ?_
  refine lv_aload_n T.1 T.2.1 dX8_isLocker_2 rfl (lv_at hl 0 rfl) ?_
  refine g8_now T hK hP 0 rfl rfl mw_3_175 dX8_isLocker_3 ?_
  refine xv_iconst T dX8_isLocker_6 ?_
  refine xa_iald T hK hP 1 rfl rfl 4 (by omega) (by omega) (by decide) dX8_isLocker_7 ?_
  refine xv_iconst T dX8_isLocker_8 ?_
  refine xv_isub T dX8_isLocker_9 ?_
  refine cI_S T hK hP hS (c_X8_in l K lk 0 (N 4 - 1) (by omega) (by omega) (by omega)) iX8_in mw_4_15 ⟨Nat.le_of_ble_eq_true rfl, Nat.le_of_ble_eq_true rfl⟩ xP_nil noA rfl hl.1 rfl (Nat.le_of_ble_eq_true rfl) ⟨Nat.zero_le _, Nat.zero_le _⟩ dX8_isLocker_10 (fun z1 _ H1 locs q2 hP1 hg1 hg2 hS => ?_)
  have hP := xP_kept hP hg2
  generalize H1 = H at hP hS ⊢
  clear hg1 hg2 hP1
  rcases q2 with ⟨rfl, q2⟩ | ⟨rfl, q2⟩
  · skip
    exact rB T (u := ()) hr hk hK hP hS (by omega) dX8_isLocker_13 (by omega)
  · skip
    exact rB T (u := ()) hr hk hK hP hS (by omega) dX8_isLocker_13 (by omega)
set_option maxHeartbeats 4000000 in
set_option maxRecDepth 100000 in
theorem c_X8_isGood (l : Launch) (K : KT) (o : Nat) (N B SS TT F : Int → Int) (gd : Int) (r_gd : -2147483648 ≤ gd ∧ gd ≤ 2147483647) (hI : Inv N) : CtI l yX8_isGood cX8_isGood 2 .boolean 1 22 K [.ref o, .int (iI gd)] (mW K o N B SS TT F) (NoA) (fun (z : Int) (_ : Unit) => (z = 1 ∧ (0 ≤ gd ∧ gd < N 5)) ∨ (z = 0 ∧ ¬ (0 ≤ gd ∧ gd < N 5))) (fun _ => mW K o N B SS TT F) := by
  refine CtI_of (by decide) (Nat.le_of_ble_eq_true rfl) ?_
  intro p e s m args below meth c T hr hk hP hK ls hl
  have T : CF p m c cX8_isGood 2 s args RX8 := T
  have hS : va_S (NoA) s.heap s.heap [] := va_S.rf
  have hl : lv_has ls 2 [(0, .ref o), (1, .int (iI gd))] := hl
  obtain ⟨hI0, hIL, hIH, hIB, hID, hIC, hIG, hIZ, hIF⟩ := id hI
  have hR : InR N := ⟨hI0, hIB⟩
  obtain ⟨b0, b1, b2, b3, b4, b5, b6, b7, b8, b9⟩ := id hI0
  refine lv_iload_n T.1 T.2.1 dX8_isGood_0 rfl (lv_at hl 1 rfl) ?_
  refine xv_iconst T dX8_isGood_1 ?_
  refine lv_aload_n T.1 T.2.1 dX8_isGood_2 rfl (lv_at hl 0 rfl) ?_
  refine g8_now T hK hP 0 rfl rfl mw_3_175 dX8_isGood_3 ?_
  refine xv_iconst T dX8_isGood_6 ?_
  refine xa_iald T hK hP 1 rfl rfl 5 (by omega) (by omega) (by decide) dX8_isGood_7 ?_
  refine xv_iconst T dX8_isGood_8 ?_
  refine xv_isub T dX8_isGood_9 ?_
  refine cI_S T hK hP hS (c_X8_in l K gd 0 (N 5 - 1) (by omega) (by omega) (by omega)) iX8_in mw_4_15 ⟨Nat.le_of_ble_eq_true rfl, Nat.le_of_ble_eq_true rfl⟩ xP_nil noA rfl hl.1 rfl (Nat.le_of_ble_eq_true rfl) ⟨Nat.zero_le _, Nat.zero_le _⟩ dX8_isGood_10 (fun z1 _ H1 locs q2 hP1 hg1 hg2 hS => ?_)
  have hP := xP_kept hP hg2
  generalize H1 = H at hP hS ⊢
  clear hg1 hg2 hP1
  rcases q2 with ⟨rfl, q2⟩ | ⟨rfl, q2⟩
  · skip
    exact rB T (u := ()) hr hk hK hP hS (by omega) dX8_isGood_13 (by omega)
  · skip
    exact rB T (u := ()) hr hk hK hP hS (by omega) dX8_isGood_13 (by omega)
set_option maxHeartbeats 4000000 in
set_option maxRecDepth 100000 in
theorem c_X8_hasSeals (l : Launch) (K : KT) (o : Nat) (N B SS TT F : Int → Int) (many : Int) (r_many : 0 ≤ many ∧ many ≤ 1000) (r_ns : 0 ≤ N 7 ∧ N 7 ≤ 200) : CtI l yX8_hasSeals cX8_hasSeals 2 .boolean 0 0 K [.ref o, .int (iI many)] (mW K o N B SS TT F) (NoA) (fun (z : Int) (_ : Unit) => (z = 1 ∧ (N 7 + many ≤ 200)) ∨ (z = 0 ∧ ¬ (N 7 + many ≤ 200))) (fun _ => mW K o N B SS TT F) := by
  refine CtI_of (by decide) (Nat.le_of_ble_eq_true rfl) ?_
  intro p e s m args below meth c T hr hk hP hK ls hl
  have T : CF p m c cX8_hasSeals 2 s args RX8 := T
  have hS : va_S (NoA) s.heap s.heap [] := va_S.rf
  have hl : lv_has ls 2 [(0, .ref o), (1, .int (iI many))] := hl
  refine lv_aload_n T.1 T.2.1 dX8_hasSeals_0 rfl (lv_at hl 0 rfl) ?_
  refine g8_now T hK hP 0 rfl rfl mw_3_175 dX8_hasSeals_1 ?_
  refine xv_bipush T dX8_hasSeals_4 (by omega) ?_
  refine xa_iald T hK hP 1 rfl rfl 7 (by omega) (by omega) (by decide) dX8_hasSeals_6 ?_
  refine lv_iload_n T.1 T.2.1 dX8_hasSeals_7 rfl (lv_at hl 1 rfl) ?_
  refine xv_iadd T dX8_hasSeals_8 ?_
  refine xv_sipush T dX8_hasSeals_9 (by omega) ?_
  refine xv_icmp_gt T (by omega) (tgt := 19) dX8_hasSeals_12 (by decide) (fun c1 => ?_) (fun c1 => ?_)
  · skip
    refine xv_iconst T dX8_hasSeals_19 ?_
    exact rB T (u := ()) hr hk hK hP hS (by omega) dX8_hasSeals_20 (by omega)
  · skip
    refine xv_iconst T dX8_hasSeals_15 ?_
    refine lv_goto T.1 T.2.1 (tgt := 20) dX8_hasSeals_16 (by decide) ?_
    exact rB T (u := ()) hr hk hK hP hS (by omega) dX8_hasSeals_20 (by omega)
set_option maxHeartbeats 4000000 in
set_option maxRecDepth 100000 in
theorem c_X8_isDuty (l : Launch) (K : KT) (dt : Int) (r_dt : -2147483648 ≤ dt ∧ dt ≤ 2147483647) : CtI l yX8_isDuty cX8_isDuty 1 .boolean 1 22 K [.int (iI dt)] ([]) (NoA) (fun (z : Int) (_ : Unit) => (z = 1 ∧ (1 ≤ dt ∧ dt ≤ 1000000)) ∨ (z = 0 ∧ ¬ (1 ≤ dt ∧ dt ≤ 1000000))) (fun _ => []) := by
  refine CtI_of (by decide) (Nat.le_of_ble_eq_true rfl) ?_
  intro p e s m args below meth c T hr hk hP hK ls hl
  have T : CF p m c cX8_isDuty 1 s args RX8 := T
  have hS : va_S (NoA) s.heap s.heap [] := va_S.rf
  have hl : lv_has ls 1 [(0, .int (iI dt))] := hl
  refine lv_iload_n T.1 T.2.1 dX8_isDuty_0 rfl (lv_at hl 0 rfl) ?_
  refine xv_iconst T dX8_isDuty_1 ?_
  refine xv_ldc T mw_4_14 (n := 1000000) (by decide +kernel) dX8_isDuty_2 ?_
  refine cI_S T hK hP hS (c_X8_in l K dt 1 1000000 (by omega) (by omega) (by omega)) iX8_in mw_4_15 ⟨Nat.le_of_ble_eq_true rfl, Nat.le_of_ble_eq_true rfl⟩ xP_nil noA rfl hl.1 rfl (Nat.le_of_ble_eq_true rfl) ⟨Nat.zero_le _, Nat.zero_le _⟩ dX8_isDuty_4 (fun z1 _ H1 locs q2 hP1 hg1 hg2 hS => ?_)
  have hP := xP_kept hP hg2
  generalize H1 = H at hP hS ⊢
  clear hg1 hg2 hP1
  rcases q2 with ⟨rfl, q2⟩ | ⟨rfl, q2⟩
  · skip
    exact rB T (u := ()) hr hk hK hP hS (by omega) dX8_isDuty_7 (by omega)
  · skip
    exact rB T (u := ()) hr hk hK hP hS (by omega) dX8_isDuty_7 (by omega)
set_option maxHeartbeats 4000000 in
set_option maxRecDepth 100000 in
theorem c_X8_least (l : Launch) (K : KT) (a b : Int) (r_a : -2147483648 ≤ a ∧ a ≤ 2147483647) (r_b : -2147483648 ≤ b ∧ b ≤ 2147483647) : CtI l yX8_least cX8_least 2 .int 0 0 K [.int (iI a), .int (iI b)] ([]) (NoA) (fun (z : Int) (_ : Unit) => z ≤ a ∧ z ≤ b ∧ (z = a ∨ z = b)) (fun _ => []) := by
  refine CtI_of (by decide) (Nat.le_of_ble_eq_true rfl) ?_
  intro p e s m args below meth c T hr hk hP hK ls hl
  have T : CF p m c cX8_least 2 s args RX8 := T
  have hS : va_S (NoA) s.heap s.heap [] := va_S.rf
  have hl : lv_has ls 2 [(0, .int (iI a)), (1, .int (iI b))] := hl
  refine lv_iload_n T.1 T.2.1 dX8_least_0 rfl (lv_at hl 0 rfl) ?_
  refine lv_iload_n T.1 T.2.1 dX8_least_1 rfl (lv_at hl 1 rfl) ?_
  refine xv_icmp_ge T (by omega) (tgt := 9) dX8_least_2 (by decide) (fun c1 => ?_) (fun c1 => ?_)
  · skip
    refine lv_iload_n T.1 T.2.1 dX8_least_9 rfl (lv_at hl 1 rfl) ?_
    exact rI T (u := ()) hr hk hK hP hS dX8_least_10 (by omega)
  · skip
    refine lv_iload_n T.1 T.2.1 dX8_least_5 rfl (lv_at hl 0 rfl) ?_
    refine lv_goto T.1 T.2.1 (tgt := 10) dX8_least_6 (by decide) ?_
    exact rI T (u := ()) hr hk hK hP hS dX8_least_10 (by omega)
set_option maxHeartbeats 4000000 in
set_option maxRecDepth 100000 in
theorem c_X8_isMove (l : Launch) (K : KT) (o : Nat) (N B SS TT F : Int → Int) (lk gd un : Int) (r_lk : -2147483648 ≤ lk ∧ lk ≤ 2147483647) (r_gd : -2147483648 ≤ gd ∧ gd ≤ 2147483647) (r_un : -2147483648 ≤ un ∧ un ≤ 2147483647) (hI : Inv N) : CtI l yX8_isMove cX8_isMove 4 .boolean 2 43 K [.ref o, .int (iI lk), .int (iI gd), .int (iI un)] (mW K o N B SS TT F) (NoA) (fun (z : Int) (_ : Unit) => (z = 1 ∧ ((0 ≤ lk ∧ lk < N 4) ∧ (0 ≤ gd ∧ gd < N 5) ∧ (1 ≤ un ∧ un ≤ 9999))) ∨ (z = 0 ∧ ¬ ((0 ≤ lk ∧ lk < N 4) ∧ (0 ≤ gd ∧ gd < N 5) ∧ (1 ≤ un ∧ un ≤ 9999)))) (fun _ => mW K o N B SS TT F) := by
  refine CtI_of (by decide) (Nat.le_of_ble_eq_true rfl) ?_
  intro p e s m args below meth c T hr hk hP hK ls hl
  have T : CF p m c cX8_isMove 4 s args RX8 := T
  have hS : va_S (NoA) s.heap s.heap [] := va_S.rf
  have hl : lv_has ls 4 [(0, .ref o), (1, .int (iI lk)), (2, .int (iI gd)), (3, .int (iI un))] := hl
  obtain ⟨hI0, hIL, hIH, hIB, hID, hIC, hIG, hIZ, hIF⟩ := id hI
  have hR : InR N := ⟨hI0, hIB⟩
  obtain ⟨b0, b1, b2, b3, b4, b5, b6, b7, b8, b9⟩ := id hI0
  refine lv_aload_n T.1 T.2.1 dX8_isMove_0 rfl (lv_at hl 0 rfl) ?_
  refine lv_iload_n T.1 T.2.1 dX8_isMove_1 rfl (lv_at hl 1 rfl) ?_
  refine cI_V T hK hP hS 0 rfl rfl rfl (c_X8_isLocker l K o N B SS TT F lk (by omega) hI) iX8_isLocker mw_4_38 ⟨Nat.le_of_ble_eq_true rfl, Nat.le_of_ble_eq_true rfl⟩ hP noA rfl hl.1 rfl (Nat.le_of_ble_eq_true rfl) ⟨Nat.zero_le _, Nat.zero_le _⟩ dX8_isMove_2 (fun z1 _ H1 locs q2 hP1 hg1 hg2 hS => ?_)
  have hP := xP_kept hP hg2
  generalize H1 = H at hP hS ⊢
  clear hg1 hg2 hP1
  rcases q2 with ⟨rfl, q2⟩ | ⟨rfl, q2⟩
  · skip
    refine xv_if_eq T (by omega) (tgt := 31) dX8_isMove_5 (by decide) (fun c3 => absurd c3 (by omega)) (fun _ => ?_)
    refine lv_aload_n T.1 T.2.1 dX8_isMove_8 rfl (lv_at hl 0 rfl) ?_
    refine lv_iload_n T.1 T.2.1 dX8_isMove_9 rfl (lv_at hl 2 rfl) ?_
    refine cI_V T hK hP hS 0 rfl rfl rfl (c_X8_isGood l K o N B SS TT F gd (by omega) hI) iX8_isGood mw_4_22 ⟨Nat.le_of_ble_eq_true rfl, Nat.le_of_ble_eq_true rfl⟩ hP noA rfl hl.1 rfl (Nat.le_of_ble_eq_true rfl) ⟨Nat.zero_le _, Nat.zero_le _⟩ dX8_isMove_10 (fun z4 _ H1 locs q5 hP1 hg1 hg2 hS => ?_)
    have hP := xP_kept hP hg2
    generalize H1 = H at hP hS ⊢
    clear hg1 hg2 hP1
    rcases q5 with ⟨rfl, q5⟩ | ⟨rfl, q5⟩
    · skip
      refine xv_if_eq T (by omega) (tgt := 31) dX8_isMove_13 (by decide) (fun c6 => absurd c6 (by omega)) (fun _ => ?_)
      refine lv_iload_n T.1 T.2.1 dX8_isMove_16 rfl (lv_at hl 3 rfl) ?_
      refine xv_iconst T dX8_isMove_17 ?_
      refine xv_sipush T dX8_isMove_18 (by omega) ?_
      refine cI_S T hK hP hS (c_X8_in l K un 1 9999 (by omega) (by omega) (by omega)) iX8_in mw_4_15 ⟨Nat.le_of_ble_eq_true rfl, Nat.le_of_ble_eq_true rfl⟩ xP_nil noA rfl hl.1 rfl (Nat.le_of_ble_eq_true rfl) ⟨Nat.zero_le _, Nat.zero_le _⟩ dX8_isMove_21 (fun z7 _ H1 locs q8 hP1 hg1 hg2 hS => ?_)
      have hP := xP_kept hP hg2
      generalize H1 = H at hP hS ⊢
      clear hg1 hg2 hP1
      rcases q8 with ⟨rfl, q8⟩ | ⟨rfl, q8⟩
      · skip
        refine xv_if_eq T (by omega) (tgt := 31) dX8_isMove_24 (by decide) (fun c9 => absurd c9 (by omega)) (fun _ => ?_)
        refine xv_iconst T dX8_isMove_27 ?_
        refine lv_goto T.1 T.2.1 (tgt := 32) dX8_isMove_28 (by decide) ?_
        exact rB T (u := ()) hr hk hK hP hS (by omega) dX8_isMove_32 (by omega)
      · skip
        refine xv_if_eq T (by omega) (tgt := 31) dX8_isMove_24 (by decide) (fun _ => ?_) (fun c10 => absurd c10 (by omega))
        refine xv_iconst T dX8_isMove_31 ?_
        exact rB T (u := ()) hr hk hK hP hS (by omega) dX8_isMove_32 (by omega)
    · skip
      refine xv_if_eq T (by omega) (tgt := 31) dX8_isMove_13 (by decide) (fun _ => ?_) (fun c11 => absurd c11 (by omega))
      refine xv_iconst T dX8_isMove_31 ?_
      exact rB T (u := ()) hr hk hK hP hS (by omega) dX8_isMove_32 (by omega)
  · skip
    refine xv_if_eq T (by omega) (tgt := 31) dX8_isMove_5 (by decide) (fun _ => ?_) (fun c12 => absurd c12 (by omega))
    refine xv_iconst T dX8_isMove_31 ?_
    exact rB T (u := ()) hr hk hK hP hS (by omega) dX8_isMove_32 (by omega)
set_option maxHeartbeats 4000000 in
set_option maxRecDepth 100000 in
theorem c_X8_sum (l : Launch) (K : KT) (o : Nat) (N B SS TT F : Int → Int) (fr : Int) (r_fr : 0 ≤ fr ∧ fr ≤ 1000) : CtI l yX8_sum cX8_sum 4 .int 0 0 K [.ref o, .int (iI fr)] (mW K o N B SS TT F) (NoA) (fun (z : Int) (_ : Unit) => z = sumZ (fun k => N (fr + k)) 8) (fun _ => mW K o N B SS TT F) := by
  refine CtI_of (by decide) (Nat.le_of_ble_eq_true rfl) ?_
  intro p e s m args below meth c T hr hk hP hK ls hl
  have T : CF p m c cX8_sum 4 s args RX8 := T
  have hS : va_S (NoA) s.heap s.heap [] := va_S.rf
  have hl : lv_has ls 4 [(0, .ref o), (1, .int (iI fr))] := hl
  refine xv_iconst T dX8_sum_0 ?_
  refine lv_istore_n (lv' := [(2, .int (iI 0)), (0, .ref o), (1, .int (iI fr))]) T.1 T.2.1 dX8_sum_1 rfl hl (by decide) rfl (fun ls hl => ?_)
  refine xv_iconst T dX8_sum_2 ?_
  refine lv_istore_n (lv' := [(3, .int (iI 0)), (2, .int (iI 0)), (0, .ref o), (1, .int (iI fr))]) T.1 T.2.1 dX8_sum_3 rfl hl (by decide) rfl (fun ls hl => ?_)
  have lp4 : ∀ (fuel : Nat) (acc : Int) (i : Int) (H : Heap) (locs : List Loc) (ls : Array Slot), (0 ≤ i ∧ i ≤ 8) → (acc = sumZ (fun k => N (fr + k)) i.toNat) → 8 - i < (fuel : Int) → xP K (mW K o N B SS TT F) H → va_S (NoA) s.heap H locs → lv_has ls 4 [(0, .ref o), (1, .int (iI fr)), (2, .int (iI acc)), (3, .int (iI i))] → W p l e (rmF 0 0) s m args below meth c H locs 0 0 (MQ below (qI K (fun (z : Int) (_ : Unit) => z = sumZ (fun k => N (fr + k)) 8) (fun _ => mW K o N B SS TT F) (NoA)) args s 0 0 (NoA)) (F0 m 4 ls []) := by
    intro fuel
    induction fuel with
    | zero =>
      intro acc i H locs ls hi ha hm hP hS hl
      exact absurd hm (by omega)
    | succ fuel ih4 =>
      intro acc i H locs ls hi ha hm hP hS hl
      refine lv_iload_n T.1 T.2.1 dX8_sum_4 rfl (lv_at hl 3 rfl) ?_
      refine xv_bipush T dX8_sum_5 (by omega) ?_
      refine xv_icmp_ge T (by omega) (tgt := 27) dX8_sum_7 (by decide) (fun c1 => ?_) (fun c1 => ?_)
      · skip
        refine lv_iload_n T.1 T.2.1 dX8_sum_27 rfl (lv_at hl 2 rfl) ?_
        exact rI T (u := ()) hr hk hK hP hS dX8_sum_28 (by rw [ha]; congr 1; omega)
      · skip
        refine lv_iload_n T.1 T.2.1 dX8_sum_10 rfl (lv_at hl 2 rfl) ?_
        refine lv_aload_n T.1 T.2.1 dX8_sum_11 rfl (lv_at hl 0 rfl) ?_
        refine g8_now T hK hP 0 rfl rfl mw_3_175 dX8_sum_12 ?_
        refine lv_iload_n T.1 T.2.1 dX8_sum_15 rfl (lv_at hl 1 rfl) ?_
        refine lv_iload_n T.1 T.2.1 dX8_sum_16 rfl (lv_at hl 3 rfl) ?_
        refine xv_iadd T dX8_sum_17 ?_
        refine xa_iald T hK hP 1 rfl rfl (fr + i) (by omega) (by omega) (by decide) dX8_sum_18 ?_
        refine xv_iadd T dX8_sum_19 ?_
        refine lv_istore_n (lv' := [(2, .int (iI (acc + (N (fr + i))))), (0, .ref o), (1, .int (iI fr)), (3, .int (iI i))]) T.1 T.2.1 dX8_sum_20 rfl hl (by decide) rfl (fun ls hl => ?_)
        refine xv_iinc T (y := i + 1) (lv' := [(3, .int (iI (i + 1))), (2, .int (iI (acc + (N (fr + i))))), (0, .ref o), (1, .int (iI fr))]) dX8_sum_21 hl (q := 3) rfl (by omega) (by decide) rfl (fun ls hl => ?_)
        refine lv_goto T.1 T.2.1 (tgt := 4) dX8_sum_24 (by decide) ?_
        exact ih4 (acc + (N (fr + i))) (i + 1) _ _ ls (by omega) (by rw [sumZ_step (by omega), ha]) (by omega) hP hS (lv_sub hl [2, 3, 1, 0] rfl)
  exact lp4 (8 + 1) 0 0 _ _ ls (by omega) rfl (by omega) hP hS (lv_sub hl [2, 3, 1, 0] rfl)
set_option maxHeartbeats 4000000 in
set_option maxRecDepth 100000 in
theorem c_X8_lockersThat (l : Launch) (K : KT) (o : Nat) (N B SS TT F : Int → Int) (how : Int) (r_how : -2147483648 ≤ how ∧ how ≤ 2147483647) (hI : Inv N) : CtI l yX8_lockersThat cX8_lockersThat 4 .int 0 0 K [.ref o, .int (iI how)] (mW K o N B SS TT F) (NoA) (fun (z : Int) (_ : Unit) => z = cntF N how) (fun _ => mW K o N B SS TT F) := by
  refine CtI_of (by decide) (Nat.le_of_ble_eq_true rfl) ?_
  intro p e s m args below meth c T hr hk hP hK ls hl
  have T : CF p m c cX8_lockersThat 4 s args RX8 := T
  have hS : va_S (NoA) s.heap s.heap [] := va_S.rf
  have hl : lv_has ls 4 [(0, .ref o), (1, .int (iI how))] := hl
  obtain ⟨hI0, hIL, hIH, hIB, hID, hIC, hIG, hIZ, hIF⟩ := id hI
  have hR : InR N := ⟨hI0, hIB⟩
  obtain ⟨b0, b1, b2, b3, b4, b5, b6, b7, b8, b9⟩ := id hI0
  refine xv_iconst T dX8_lockersThat_0 ?_
  refine lv_istore_n (lv' := [(2, .int (iI 0)), (0, .ref o), (1, .int (iI how))]) T.1 T.2.1 dX8_lockersThat_1 rfl hl (by decide) rfl (fun ls hl => ?_)
  refine xv_iconst T dX8_lockersThat_2 ?_
  refine lv_istore_n (lv' := [(3, .int (iI 0)), (2, .int (iI 0)), (0, .ref o), (1, .int (iI how))]) T.1 T.2.1 dX8_lockersThat_3 rfl hl (by decide) rfl (fun ls hl => ?_)
  have lp4 : ∀ (fuel : Nat) (acc : Int) (i : Int) (H : Heap) (locs : List Loc) (ls : Array Slot), (0 ≤ i ∧ i ≤ N 4) → (acc = sumZ (fun k => if N (14 + k) = how then 1 else 0) i.toNat) → N 4 - i < (fuel : Int) → xP K (mW K o N B SS TT F) H → va_S (NoA) s.heap H locs → lv_has ls 4 [(0, .ref o), (1, .int (iI how)), (2, .int (iI acc)), (3, .int (iI i))] → W p l e (rmF 0 0) s m args below meth c H locs 0 0 (MQ below (qI K (fun (z : Int) (_ : Unit) => z = cntF N how) (fun _ => mW K o N B SS TT F) (NoA)) args s 0 0 (NoA)) (F0 m 4 ls []) := by
    intro fuel
    induction fuel with
    | zero =>
      intro acc i H locs ls hi ha hm hP hS hl
      exact absurd hm (by omega)
    | succ fuel ih4 =>
      intro acc i H locs ls hi ha hm hP hS hl
      refine lv_iload_n T.1 T.2.1 dX8_lockersThat_4 rfl (lv_at hl 3 rfl) ?_
      refine lv_aload_n T.1 T.2.1 dX8_lockersThat_5 rfl (lv_at hl 0 rfl) ?_
      refine g8_now T hK hP 0 rfl rfl mw_3_175 dX8_lockersThat_6 ?_
      refine xv_iconst T dX8_lockersThat_9 ?_
      refine xa_iald T hK hP 1 rfl rfl 4 (by omega) (by omega) (by decide) dX8_lockersThat_10 ?_
      refine xv_icmp_ge T (by omega) (tgt := 41) dX8_lockersThat_11 (by decide) (fun c1 => ?_) (fun c1 => ?_)
      · skip
        refine lv_iload_n T.1 T.2.1 dX8_lockersThat_41 rfl (lv_at hl 2 rfl) ?_
        exact rI T (u := ()) hr hk hK hP hS dX8_lockersThat_42 (by unfold cntF; rw [ha]; congr 1; omega)
      · skip
        refine lv_iload_n T.1 T.2.1 dX8_lockersThat_14 rfl (lv_at hl 2 rfl) ?_
        refine lv_aload_n T.1 T.2.1 dX8_lockersThat_15 rfl (lv_at hl 0 rfl) ?_
        refine g8_now T hK hP 0 rfl rfl mw_3_175 dX8_lockersThat_16 ?_
        refine xv_bipush T dX8_lockersThat_19 (by omega) ?_
        refine lv_iload_n T.1 T.2.1 dX8_lockersThat_21 rfl (lv_at hl 3 rfl) ?_
        refine xv_iadd T dX8_lockersThat_22 ?_
        refine xa_iald T hK hP 1 rfl rfl (14 + i) (by omega) (by omega) (by decide) dX8_lockersThat_23 ?_
        have f2 := hIL i (by omega) (by omega)
        refine lv_iload_n T.1 T.2.1 dX8_lockersThat_24 rfl (lv_at hl 1 rfl) ?_
        refine xv_icmp_ne T (by omega) (tgt := 32) dX8_lockersThat_25 (by decide) (fun c3 => ?_) (fun c3 => ?_)
        · skip
          refine xv_iconst T dX8_lockersThat_32 ?_
          refine xv_iadd T dX8_lockersThat_33 ?_
          refine lv_istore_n (lv' := [(2, .int (iI (acc + 0))), (0, .ref o), (1, .int (iI how)), (3, .int (iI i))]) T.1 T.2.1 dX8_lockersThat_34 rfl hl (by decide) rfl (fun ls hl => ?_)
          refine xv_iinc T (y := i + 1) (lv' := [(3, .int (iI (i + 1))), (2, .int (iI (acc + 0))), (0, .ref o), (1, .int (iI how))]) dX8_lockersThat_35 hl (q := 3) rfl (by omega) (by decide) rfl (fun ls hl => ?_)
          refine lv_goto T.1 T.2.1 (tgt := 4) dX8_lockersThat_38 (by decide) ?_
          exact ih4 (acc + 0) (i + 1) _ _ ls (by omega) (by rw [sumZ_step (by omega), ha]; first | rw [if_pos (by assumption)] | rw [if_neg (by assumption)]) (by omega) hP hS (lv_sub hl [2, 3, 1, 0] rfl)
        · skip
          refine xv_iconst T dX8_lockersThat_28 ?_
          refine lv_goto T.1 T.2.1 (tgt := 33) dX8_lockersThat_29 (by decide) ?_
          refine xv_iadd T dX8_lockersThat_33 ?_
          refine lv_istore_n (lv' := [(2, .int (iI (acc + 1))), (0, .ref o), (1, .int (iI how)), (3, .int (iI i))]) T.1 T.2.1 dX8_lockersThat_34 rfl hl (by decide) rfl (fun ls hl => ?_)
          refine xv_iinc T (y := i + 1) (lv' := [(3, .int (iI (i + 1))), (2, .int (iI (acc + 1))), (0, .ref o), (1, .int (iI how))]) dX8_lockersThat_35 hl (q := 3) rfl (by omega) (by decide) rfl (fun ls hl => ?_)
          refine lv_goto T.1 T.2.1 (tgt := 4) dX8_lockersThat_38 (by decide) ?_
          exact ih4 (acc + 1) (i + 1) _ _ ls (by omega) (by rw [sumZ_step (by omega), ha]; first | rw [if_pos (by assumption)] | rw [if_neg (by assumption)]) (by omega) hP hS (lv_sub hl [2, 3, 1, 0] rfl)
  exact lp4 6 0 0 _ _ ls (by omega) rfl (by omega) hP hS (lv_sub hl [2, 3, 1, 0] rfl)
set_option maxHeartbeats 4000000 in
set_option maxRecDepth 100000 in
theorem c_X8_overLockers (l : Launch) (K : KT) (o : Nat) (N B SS TT F : Int → Int) (fr gd : Int) (r_fr : 0 ≤ fr ∧ fr ≤ 900) (r_gd : 0 ≤ gd ∧ gd < 8) : CtI l yX8_overLockers cX8_overLockers 5 .int 0 0 K [.ref o, .int (iI fr), .int (iI gd)] (mW K o N B SS TT F) (NoA) (fun (z : Int) (_ : Unit) => z = sumZ (fun k => N (fr + 8 * k + gd)) 5) (fun _ => mW K o N B SS TT F) := by
  refine CtI_of (by decide) (Nat.le_of_ble_eq_true rfl) ?_
  intro p e s m args below meth c T hr hk hP hK ls hl
  have T : CF p m c cX8_overLockers 5 s args RX8 := T
  have hS : va_S (NoA) s.heap s.heap [] := va_S.rf
  have hl : lv_has ls 5 [(0, .ref o), (1, .int (iI fr)), (2, .int (iI gd))] := hl
  refine xv_iconst T dX8_overLockers_0 ?_
  refine lv_istore_n (lv' := [(3, .int (iI 0)), (0, .ref o), (1, .int (iI fr)), (2, .int (iI gd))]) T.1 T.2.1 dX8_overLockers_1 rfl hl (by decide) rfl (fun ls hl => ?_)
  refine xv_iconst T dX8_overLockers_2 ?_
  refine lv_istore (lv' := [(4, .int (iI 0)), (3, .int (iI 0)), (0, .ref o), (1, .int (iI fr)), (2, .int (iI gd))]) T.1 T.2.1 dX8_overLockers_3 hl (by decide) rfl (fun ls hl => ?_)
  have lp5 : ∀ (fuel : Nat) (acc : Int) (i : Int) (H : Heap) (locs : List Loc) (ls : Array Slot), (0 ≤ i ∧ i ≤ 5) → (acc = sumZ (fun k => N (fr + 8 * k + gd)) i.toNat) → 5 - i < (fuel : Int) → xP K (mW K o N B SS TT F) H → va_S (NoA) s.heap H locs → lv_has ls 5 [(0, .ref o), (1, .int (iI fr)), (2, .int (iI gd)), (3, .int (iI acc)), (4, .int (iI i))] → W p l e (rmF 0 0) s m args below meth c H locs 0 0 (MQ below (qI K (fun (z : Int) (_ : Unit) => z = sumZ (fun k => N (fr + 8 * k + gd)) 5) (fun _ => mW K o N B SS TT F) (NoA)) args s 0 0 (NoA)) (F0 m 5 ls []) := by
    intro fuel
    induction fuel with
    | zero =>
      intro acc i H locs ls hi ha hm hP hS hl
      exact absurd hm (by omega)
    | succ fuel ih5 =>
      intro acc i H locs ls hi ha hm hP hS hl
      refine lv_iload T.1 T.2.1 dX8_overLockers_5 (lv_at hl 4 rfl) ?_
      refine xv_iconst T dX8_overLockers_7 ?_
      refine xv_icmp_ge T (by omega) (tgt := 34) dX8_overLockers_8 (by decide) (fun c1 => ?_) (fun c1 => ?_)
      · skip
        refine lv_iload_n T.1 T.2.1 dX8_overLockers_34 rfl (lv_at hl 3 rfl) ?_
        exact rI T (u := ()) hr hk hK hP hS dX8_overLockers_35 (by rw [ha]; congr 1; omega)
      · skip
        refine lv_iload_n T.1 T.2.1 dX8_overLockers_11 rfl (lv_at hl 3 rfl) ?_
        refine lv_aload_n T.1 T.2.1 dX8_overLockers_12 rfl (lv_at hl 0 rfl) ?_
        refine g8_now T hK hP 0 rfl rfl mw_3_175 dX8_overLockers_13 ?_
        refine lv_iload_n T.1 T.2.1 dX8_overLockers_16 rfl (lv_at hl 1 rfl) ?_
        refine xv_bipush T dX8_overLockers_17 (by omega) ?_
        refine lv_iload T.1 T.2.1 dX8_overLockers_19 (lv_at hl 4 rfl) ?_
        refine xv_imul T dX8_overLockers_21 ?_
        refine xv_iadd T dX8_overLockers_22 ?_
        refine lv_iload_n T.1 T.2.1 dX8_overLockers_23 rfl (lv_at hl 2 rfl) ?_
        refine xv_iadd T dX8_overLockers_24 ?_
        refine xa_iald T hK hP 1 rfl rfl (8 * i + fr + gd) (by omega) (by omega) (by decide) dX8_overLockers_25 ?_
        refine xv_iadd T dX8_overLockers_26 ?_
        refine lv_istore_n (lv' := [(3, .int (iI (acc + (N (8 * i + fr + gd))))), (0, .ref o), (1, .int (iI fr)), (2, .int (iI gd)), (4, .int (iI i))]) T.1 T.2.1 dX8_overLockers_27 rfl hl (by decide) rfl (fun ls hl => ?_)
        refine xv_iinc T (y := i + 1) (lv' := [(4, .int (iI (i + 1))), (3, .int (iI (acc + (N (8 * i + fr + gd))))), (0, .ref o), (1, .int (iI fr)), (2, .int (iI gd))]) dX8_overLockers_28 hl (q := 4) rfl (by omega) (by decide) rfl (fun ls hl => ?_)
        refine lv_goto T.1 T.2.1 (tgt := 5) dX8_overLockers_31 (by decide) ?_
        exact ih5 (acc + (N (8 * i + fr + gd))) (i + 1) _ _ ls (by omega) (by rw [sumZ_step (by omega), ha, show 8 * i + fr + gd = fr + 8 * i + gd by omega]) (by omega) hP hS (lv_sub hl [2, 3, 4, 1, 0] rfl)
  exact lp5 6 0 0 _ _ ls (by omega) rfl (by omega) hP hS (lv_sub hl [2, 3, 4, 1, 0] rfl)
set_option maxHeartbeats 4000000 in
set_option maxRecDepth 100000 in
theorem c_X8_nextOf (l : Launch) (K : KT) (o : Nat) (N B SS TT F : Int → Int) (gd pv : Int) (r_gd : -2147483648 ≤ gd ∧ gd ≤ 2147483647) (r_pv : pv = -1 ∨ (0 ≤ pv ∧ pv < N 6)) (hR : InR N) : CtI l yX8_nextOf cX8_nextOf 7 .int 0 0 K [.ref o, .int (iI gd), .int (iI pv)] (mW K o N B SS TT F) (NoA) (fun (z : Int) (_ : Unit) => z = nxt N gd pv ∧ IsNx N gd pv z) (fun _ => mW K o N B SS TT F) := by
  refine CtI_of (by decide) (Nat.le_of_ble_eq_true rfl) ?_
  intro p e s m args below meth c T hr hk hP hK ls hl
  have T : CF p m c cX8_nextOf 7 s args RX8 := T
  have hS : va_S (NoA) s.heap s.heap [] := va_S.rf
  have hl : lv_has ls 7 [(0, .ref o), (1, .int (iI gd)), (2, .int (iI pv))] := hl
  obtain ⟨hI0, hIB⟩ := id hR
  obtain ⟨b0, b1, b2, b3, b4, b5, b6, b7, b8, b9⟩ := id hI0
  refine xv_bipush T dX8_nextOf_0 (by omega) ?_
  refine lv_istore_n (lv' := [(3, .int (iI (-4))), (0, .ref o), (1, .int (iI gd)), (2, .int (iI pv))]) T.1 T.2.1 dX8_nextOf_2 rfl hl (by decide) rfl (fun ls hl => ?_)
  refine lv_aload_n T.1 T.2.1 dX8_nextOf_3 rfl (lv_at hl 1 rfl) ?_
  refine g8_now T hK hP 0 rfl rfl mw_3_175 dX8_nextOf_4 ?_
  refine xv_bipush T dX8_nextOf_7 (by omega) ?_
  refine xa_iald T hK hP 1 rfl rfl 6 (by omega) (by omega) (by decide) dX8_nextOf_9 ?_
  refine xv_iconst T dX8_nextOf_10 ?_
  refine xv_isub T dX8_nextOf_11 ?_
  refine lv_istore (lv' := [(4, .int (iI (N 6 - 1))), (3, .int (iI (-4))), (0, .ref o), (1, .int (iI gd)), (2, .int (iI pv))]) T.1 T.2.1 dX8_nextOf_12 hl (by decide) rfl (fun ls hl => ?_)
  have lp14 : ∀ (fuel : Nat) (best : Int) (b : Int) (H : Heap) (locs : List Loc) (ls : Array Slot), (-1 ≤ b ∧ b < N 6) → (NxI N gd pv b best) → b + 1 < (fuel : Int) → xP K (mW K o N B SS TT F) H → va_S (NoA) s.heap H locs → lv_has ls 7 [(0, .ref o), (1, .int (iI gd)), (2, .int (iI pv)), (3, .int (iI best)), (4, .int (iI b))] → W p l e (rmF 0 0) s m args below meth c H locs 0 0 (MQ below (qI K (fun (z : Int) (_ : Unit) => z = nxt N gd pv ∧ IsNx N gd pv z) (fun _ => mW K o N B SS TT F) (NoA)) args s 0 0 (NoA)) (F0 m 14 ls []) := by
    intro fuel
    induction fuel with
    | zero =>
      intro best b H locs ls hb hB hm hP hS hl
      exact absurd hm (by omega)
    | succ fuel ih14 =>
      intro best b H locs ls hb hB hm hP hS hl
      have hB2 := nxI_at hB
      refine lv_iload T.1 T.2.1 dX8_nextOf_14 (lv_at hl 4 rfl) ?_
      refine xv_if_lt T (by omega) (tgt := 171) dX8_nextOf_16 (by decide) (fun c1 => ?_) (fun c1 => ?_)
      · skip
        refine lv_iload_n T.1 T.2.1 dX8_nextOf_171 rfl (lv_at hl 3 rfl) ?_
        exact rI T (u := ()) hr hk hK hP hS dX8_nextOf_172 (by have h9 := nxI_end hB (by omega); exact ⟨nxt_eq h9, h9⟩)
      · skip
        have jn57 : ∀ (iv : Int) (H : Heap) (locs : List Loc) (ls : Array Slot), ((iv = 1 ∧ (0 < N (272 + b) ∧ (gd < 0 ∨ N (152 + b) = gd))) ∨ (iv = 0 ∧ ¬ (0 < N (272 + b) ∧ (gd < 0 ∨ N (152 + b) = gd)))) → xP K (mW K o N B SS TT F) H → va_S (NoA) s.heap H locs → lv_has ls 7 [(0, .ref o), (1, .int (iI gd)), (2, .int (iI pv)), (3, .int (iI best)), (4, .int (iI b))] → W p l e (rmF 0 0) s m args below meth c H locs 0 0 (MQ below (qI K (fun (z : Int) (_ : Unit) => z = nxt N gd pv ∧ IsNx N gd pv z) (fun _ => mW K o N B SS TT F) (NoA)) args s 0 0 (NoA)) (F0 m 57 ls [.int (iI iv)]) := by
          intro iv H locs ls q1 hP hS hl
          refine lv_istore (lv' := [(5, .int (iI iv)), (0, .ref o), (1, .int (iI gd)), (2, .int (iI pv)), (3, .int (iI best)), (4, .int (iI b))]) T.1 T.2.1 dX8_nextOf_57 hl (by decide) rfl (fun ls hl => ?_)
          have jn122 : ∀ (bv : Int) (H : Heap) (locs : List Loc) (ls : Array Slot), ((bv = 1 ∧ (pv < 0 ∨ N (392 + pv) < N (392 + b) ∨ (N (392 + pv) = N (392 + b) ∧ pv < b))) ∨ (bv = 0 ∧ ¬ (pv < 0 ∨ N (392 + pv) < N (392 + b) ∨ (N (392 + pv) = N (392 + b) ∧ pv < b)))) → xP K (mW K o N B SS TT F) H → va_S (NoA) s.heap H locs → lv_has ls 7 [(5, .int (iI iv)), (0, .ref o), (1, .int (iI gd)), (2, .int (iI pv)), (3, .int (iI best)), (4, .int (iI b))] → W p l e (rmF 0 0) s m args below meth c H locs 0 0 (MQ below (qI K (fun (z : Int) (_ : Unit) => z = nxt N gd pv ∧ IsNx N gd pv z) (fun _ => mW K o N B SS TT F) (NoA)) args s 0 0 (NoA)) (F0 m 122 ls [.int (iI bv)]) := by
            intro bv H locs ls q2 hP hS hl
            refine lv_istore (lv' := [(6, .int (iI bv)), (5, .int (iI iv)), (0, .ref o), (1, .int (iI gd)), (2, .int (iI pv)), (3, .int (iI best)), (4, .int (iI b))]) T.1 T.2.1 dX8_nextOf_122 hl (by decide) rfl (fun ls hl => ?_)
            refine lv_iload T.1 T.2.1 dX8_nextOf_124 (lv_at hl 1 rfl) ?_
            refine xv_if_eq T (by omega) (tgt := 165) dX8_nextOf_126 (by decide) (fun c2 => ?_) (fun c2 => ?_)
            · skip
              refine xv_iinc T (y := b - 1) (lv' := [(4, .int (iI (b - 1))), (6, .int (iI bv)), (5, .int (iI iv)), (0, .ref o), (1, .int (iI gd)), (2, .int (iI pv)), (3, .int (iI best))]) dX8_nextOf_165 hl (q := 6) rfl (by omega) (by decide) rfl (fun ls hl => ?_)
              refine lv_goto T.1 T.2.1 (tgt := 14) dX8_nextOf_168 (by decide) ?_
              exact ih14 best (b - 1) _ _ ls (by omega) (by first | exact nxI_no hB (by unfold okB; omega) | exact nxI_yes hB (by unfold okB; omega) (by omega) (by omega) (by omega) | exact nxI_not hB (by omega) (by omega)) (by omega) hP hS (lv_sub hl [3, 4, 5, 6, 0] rfl)
            · skip
              refine lv_iload T.1 T.2.1 dX8_nextOf_129 (lv_at hl 0 rfl) ?_
              refine xv_if_eq T (by omega) (tgt := 165) dX8_nextOf_131 (by decide) (fun c3 => ?_) (fun c3 => ?_)
              · skip
                refine xv_iinc T (y := b - 1) (lv' := [(4, .int (iI (b - 1))), (6, .int (iI bv)), (5, .int (iI iv)), (0, .ref o), (1, .int (iI gd)), (2, .int (iI pv)), (3, .int (iI best))]) dX8_nextOf_165 hl (q := 6) rfl (by omega) (by decide) rfl (fun ls hl => ?_)
                refine lv_goto T.1 T.2.1 (tgt := 14) dX8_nextOf_168 (by decide) ?_
                exact ih14 best (b - 1) _ _ ls (by omega) (by first | exact nxI_no hB (by unfold okB; omega) | exact nxI_yes hB (by unfold okB; omega) (by omega) (by omega) (by omega) | exact nxI_not hB (by omega) (by omega)) (by omega) hP hS (lv_sub hl [3, 4, 5, 6, 0] rfl)
              · skip
                refine lv_iload_n T.1 T.2.1 dX8_nextOf_134 rfl (lv_at hl 5 rfl) ?_
                refine xv_if_lt T (by omega) (tgt := 162) dX8_nextOf_135 (by decide) (fun c4 => ?_) (fun c4 => ?_)
                · skip
                  refine lv_iload T.1 T.2.1 dX8_nextOf_162 (lv_at hl 6 rfl) ?_
                  refine lv_istore_n (lv' := [(3, .int (iI b)), (6, .int (iI bv)), (5, .int (iI iv)), (0, .ref o), (1, .int (iI gd)), (2, .int (iI pv)), (4, .int (iI b))]) T.1 T.2.1 dX8_nextOf_164 rfl hl (by decide) rfl (fun ls hl => ?_)
                  refine xv_iinc T (y := b - 1) (lv' := [(4, .int (iI (b - 1))), (3, .int (iI b)), (6, .int (iI bv)), (5, .int (iI iv)), (0, .ref o), (1, .int (iI gd)), (2, .int (iI pv))]) dX8_nextOf_165 hl (q := 6) rfl (by omega) (by decide) rfl (fun ls hl => ?_)
                  refine lv_goto T.1 T.2.1 (tgt := 14) dX8_nextOf_168 (by decide) ?_
                  exact ih14 b (b - 1) _ _ ls (by omega) (by first | exact nxI_no hB (by unfold okB; omega) | exact nxI_yes hB (by unfold okB; omega) (by omega) (by omega) (by omega) | exact nxI_not hB (by omega) (by omega)) (by omega) hP hS (lv_sub hl [4, 5, 6, 1, 0] rfl)
                · skip
                  refine lv_aload_n T.1 T.2.1 dX8_nextOf_138 rfl (lv_at hl 2 rfl) ?_
                  refine g8_now T hK hP 0 rfl rfl mw_3_175 dX8_nextOf_139 ?_
                  refine xv_sipush T dX8_nextOf_142 (by omega) ?_
                  refine lv_iload T.1 T.2.1 dX8_nextOf_145 (lv_at hl 6 rfl) ?_
                  refine xv_iadd T dX8_nextOf_147 ?_
                  refine xa_iald T hK hP 1 rfl rfl (392 + b) (by omega) (by omega) (by decide) dX8_nextOf_148 ?_
                  have f5 := hIB b (by omega) (by omega)
                  refine lv_aload_n T.1 T.2.1 dX8_nextOf_149 rfl (lv_at hl 2 rfl) ?_
                  refine g8_now T hK hP 0 rfl rfl mw_3_175 dX8_nextOf_150 ?_
                  refine xv_sipush T dX8_nextOf_153 (by omega) ?_
                  refine lv_iload_n T.1 T.2.1 dX8_nextOf_156 rfl (lv_at hl 5 rfl) ?_
                  refine xv_iadd T dX8_nextOf_157 ?_
                  refine xa_iald T hK hP 1 rfl rfl (392 + best) (by omega) (by omega) (by decide) dX8_nextOf_158 ?_
                  have f6 := hIB best (by omega) (by omega)
                  refine xv_icmp_gt T (by omega) (tgt := 165) dX8_nextOf_159 (by decide) (fun c7 => ?_) (fun c7 => ?_)
                  · skip
                    refine xv_iinc T (y := b - 1) (lv' := [(4, .int (iI (b - 1))), (6, .int (iI bv)), (5, .int (iI iv)), (0, .ref o), (1, .int (iI gd)), (2, .int (iI pv)), (3, .int (iI best))]) dX8_nextOf_165 hl (q := 6) rfl (by omega) (by decide) rfl (fun ls hl => ?_)
                    refine lv_goto T.1 T.2.1 (tgt := 14) dX8_nextOf_168 (by decide) ?_
                    exact ih14 best (b - 1) _ _ ls (by omega) (by first | exact nxI_no hB (by unfold okB; omega) | exact nxI_yes hB (by unfold okB; omega) (by omega) (by omega) (by omega) | exact nxI_not hB (by omega) (by omega)) (by omega) hP hS (lv_sub hl [3, 4, 5, 6, 0] rfl)
                  · skip
                    refine lv_iload T.1 T.2.1 dX8_nextOf_162 (lv_at hl 6 rfl) ?_
                    refine lv_istore_n (lv' := [(3, .int (iI b)), (6, .int (iI bv)), (5, .int (iI iv)), (0, .ref o), (1, .int (iI gd)), (2, .int (iI pv)), (4, .int (iI b))]) T.1 T.2.1 dX8_nextOf_164 rfl hl (by decide) rfl (fun ls hl => ?_)
                    refine xv_iinc T (y := b - 1) (lv' := [(4, .int (iI (b - 1))), (3, .int (iI b)), (6, .int (iI bv)), (5, .int (iI iv)), (0, .ref o), (1, .int (iI gd)), (2, .int (iI pv))]) dX8_nextOf_165 hl (q := 6) rfl (by omega) (by decide) rfl (fun ls hl => ?_)
                    refine lv_goto T.1 T.2.1 (tgt := 14) dX8_nextOf_168 (by decide) ?_
                    exact ih14 b (b - 1) _ _ ls (by omega) (by first | exact nxI_no hB (by unfold okB; omega) | exact nxI_yes hB (by unfold okB; omega) (by omega) (by omega) (by omega) | exact nxI_not hB (by omega) (by omega)) (by omega) hP hS (lv_sub hl [4, 5, 6, 1, 0] rfl)
          refine lv_iload_n T.1 T.2.1 dX8_nextOf_59 rfl (lv_at hl 3 rfl) ?_
          refine xv_if_lt T (by omega) (tgt := 117) dX8_nextOf_60 (by decide) (fun c8 => ?_) (fun c8 => ?_)
          · skip
            refine xv_iconst T dX8_nextOf_117 ?_
            refine lv_goto T.1 T.2.1 (tgt := 122) dX8_nextOf_118 (by decide) ?_
            exact jn122 1 _ _ ls (by omega) hP hS (lv_sub hl [0, 1, 2, 3, 4, 5] rfl)
          · skip
            refine lv_aload_n T.1 T.2.1 dX8_nextOf_63 rfl (lv_at hl 1 rfl) ?_
            refine g8_now T hK hP 0 rfl rfl mw_3_175 dX8_nextOf_64 ?_
            refine xv_sipush T dX8_nextOf_67 (by omega) ?_
            refine lv_iload T.1 T.2.1 dX8_nextOf_70 (lv_at hl 5 rfl) ?_
            refine xv_iadd T dX8_nextOf_72 ?_
            refine xa_iald T hK hP 1 rfl rfl (392 + b) (by omega) (by omega) (by decide) dX8_nextOf_73 ?_
            have f9 := hIB b (by omega) (by omega)
            refine lv_aload_n T.1 T.2.1 dX8_nextOf_74 rfl (lv_at hl 1 rfl) ?_
            refine g8_now T hK hP 0 rfl rfl mw_3_175 dX8_nextOf_75 ?_
            refine xv_sipush T dX8_nextOf_78 (by omega) ?_
            refine lv_iload_n T.1 T.2.1 dX8_nextOf_81 rfl (lv_at hl 3 rfl) ?_
            refine xv_iadd T dX8_nextOf_82 ?_
            refine xa_iald T hK hP 1 rfl rfl (392 + pv) (by omega) (by omega) (by decide) dX8_nextOf_83 ?_
            have f10 := hIB pv (by omega) (by omega)
            refine xv_icmp_gt T (by omega) (tgt := 117) dX8_nextOf_84 (by decide) (fun c11 => ?_) (fun c11 => ?_)
            · skip
              refine xv_iconst T dX8_nextOf_117 ?_
              refine lv_goto T.1 T.2.1 (tgt := 122) dX8_nextOf_118 (by decide) ?_
              exact jn122 1 _ _ ls (by omega) hP hS (lv_sub hl [0, 1, 2, 3, 4, 5] rfl)
            · skip
              refine lv_aload_n T.1 T.2.1 dX8_nextOf_87 rfl (lv_at hl 1 rfl) ?_
              refine g8_now T hK hP 0 rfl rfl mw_3_175 dX8_nextOf_88 ?_
              refine xv_sipush T dX8_nextOf_91 (by omega) ?_
              refine lv_iload T.1 T.2.1 dX8_nextOf_94 (lv_at hl 5 rfl) ?_
              refine xv_iadd T dX8_nextOf_96 ?_
              refine xa_iald T hK hP 1 rfl rfl (392 + b) (by omega) (by omega) (by decide) dX8_nextOf_97 ?_
              refine lv_aload_n T.1 T.2.1 dX8_nextOf_98 rfl (lv_at hl 1 rfl) ?_
              refine g8_now T hK hP 0 rfl rfl mw_3_175 dX8_nextOf_99 ?_
              refine xv_sipush T dX8_nextOf_102 (by omega) ?_
              refine lv_iload_n T.1 T.2.1 dX8_nextOf_105 rfl (lv_at hl 3 rfl) ?_
              refine xv_iadd T dX8_nextOf_106 ?_
              refine xa_iald T hK hP 1 rfl rfl (392 + pv) (by omega) (by omega) (by decide) dX8_nextOf_107 ?_
              refine xv_icmp_ne T (by omega) (tgt := 121) dX8_nextOf_108 (by decide) (fun c12 => ?_) (fun c12 => ?_)
              · skip
                refine xv_iconst T dX8_nextOf_121 ?_
                exact jn122 0 _ _ ls (by omega) hP hS (lv_sub hl [0, 1, 2, 3, 4, 5] rfl)
              · skip
                refine lv_iload T.1 T.2.1 dX8_nextOf_111 (lv_at hl 5 rfl) ?_
                refine lv_iload_n T.1 T.2.1 dX8_nextOf_113 rfl (lv_at hl 3 rfl) ?_
                refine xv_icmp_le T (by omega) (tgt := 121) dX8_nextOf_114 (by decide) (fun c13 => ?_) (fun c13 => ?_)
                · skip
                  refine xv_iconst T dX8_nextOf_121 ?_
                  exact jn122 0 _ _ ls (by omega) hP hS (lv_sub hl [0, 1, 2, 3, 4, 5] rfl)
                · skip
                  refine xv_iconst T dX8_nextOf_117 ?_
                  refine lv_goto T.1 T.2.1 (tgt := 122) dX8_nextOf_118 (by decide) ?_
                  exact jn122 1 _ _ ls (by omega) hP hS (lv_sub hl [0, 1, 2, 3, 4, 5] rfl)
        refine lv_aload_n T.1 T.2.1 dX8_nextOf_19 rfl (lv_at hl 0 rfl) ?_
        refine g8_now T hK hP 0 rfl rfl mw_3_175 dX8_nextOf_20 ?_
        refine xv_sipush T dX8_nextOf_23 (by omega) ?_
        refine lv_iload T.1 T.2.1 dX8_nextOf_26 (lv_at hl 4 rfl) ?_
        refine xv_iadd T dX8_nextOf_28 ?_
        refine xa_iald T hK hP 1 rfl rfl (272 + b) (by omega) (by omega) (by decide) dX8_nextOf_29 ?_
        have f14 := hIB b (by omega) (by omega)
        refine xv_if_le T (by omega) (tgt := 56) dX8_nextOf_30 (by decide) (fun c15 => ?_) (fun c15 => ?_)
        · skip
          refine xv_iconst T dX8_nextOf_56 ?_
          exact jn57 0 _ _ ls (by omega) hP hS (lv_sub hl [0, 1, 2, 3, 4] rfl)
        · skip
          refine lv_iload_n T.1 T.2.1 dX8_nextOf_33 rfl (lv_at hl 1 rfl) ?_
          refine xv_if_lt T (by omega) (tgt := 52) dX8_nextOf_34 (by decide) (fun c16 => ?_) (fun c16 => ?_)
          · skip
            refine xv_iconst T dX8_nextOf_52 ?_
            refine lv_goto T.1 T.2.1 (tgt := 57) dX8_nextOf_53 (by decide) ?_
            exact jn57 1 _ _ ls (by omega) hP hS (lv_sub hl [0, 1, 2, 3, 4] rfl)
          · skip
            refine lv_aload_n T.1 T.2.1 dX8_nextOf_37 rfl (lv_at hl 0 rfl) ?_
            refine g8_now T hK hP 0 rfl rfl mw_3_175 dX8_nextOf_38 ?_
            refine xv_sipush T dX8_nextOf_41 (by omega) ?_
            refine lv_iload T.1 T.2.1 dX8_nextOf_44 (lv_at hl 4 rfl) ?_
            refine xv_iadd T dX8_nextOf_46 ?_
            refine xa_iald T hK hP 1 rfl rfl (152 + b) (by omega) (by omega) (by decide) dX8_nextOf_47 ?_
            refine lv_iload_n T.1 T.2.1 dX8_nextOf_48 rfl (lv_at hl 1 rfl) ?_
            refine xv_icmp_ne T (by omega) (tgt := 56) dX8_nextOf_49 (by decide) (fun c17 => ?_) (fun c17 => ?_)
            · skip
              refine xv_iconst T dX8_nextOf_56 ?_
              exact jn57 0 _ _ ls (by omega) hP hS (lv_sub hl [0, 1, 2, 3, 4] rfl)
            · skip
              refine xv_iconst T dX8_nextOf_52 ?_
              refine lv_goto T.1 T.2.1 (tgt := 57) dX8_nextOf_53 (by decide) ?_
              exact jn57 1 _ _ ls (by omega) hP hS (lv_sub hl [0, 1, 2, 3, 4] rfl)
  exact lp14 61 (-4) (N 6 - 1) _ _ ls (by omega) (nxI_0 (by omega)) (by omega) hP hS (lv_sub hl [2, 3, 4, 1, 0] rfl)
set_option maxHeartbeats 4000000 in
set_option maxRecDepth 100000 in
theorem c_X8_takesOff (l : Launch) (K : KT) (o : Nat) (N B SS TT F : Int → Int) (lk w : Int) (r_lk : 0 ≤ lk ∧ lk < 5) (r_w : -2147483648 ≤ w ∧ w ≤ 2147483647) (h_l : (0 ≤ N (14 + lk) ∧ N (14 + lk) ≤ 2) ∧ (0 ≤ N (19 + lk) ∧ N (19 + lk) ≤ 200)) : CtV l yX8_takesOff cX8_takesOff 3 0 0 K [.ref o, .int (iI lk), .int (iI w)] (mW K o N B SS TT F) (Blk o 5) (fun (u : Int → Int) => u = offF N lk w) (fun u => mW K o u B SS TT F) := by
  refine CtV_of (by decide) (Nat.le_of_ble_eq_true rfl) ?_
  intro p e s m args below meth c T hr hk hP hK ls hl
  have T : CF p m c cX8_takesOff 3 s args RX8 := T
  have hS : va_S (Blk o 5) s.heap s.heap [] := va_S.rf
  have hl : lv_has ls 3 [(0, .ref o), (1, .int (iI lk)), (2, .int (iI w))] := hl
  refine lv_aload_n T.1 T.2.1 dX8_takesOff_0 rfl (lv_at hl 0 rfl) ?_
  refine g8_now T hK hP 0 rfl rfl mw_3_175 dX8_takesOff_1 ?_
  refine xv_bipush T dX8_takesOff_4 (by omega) ?_
  refine lv_iload_n T.1 T.2.1 dX8_takesOff_6 rfl (lv_at hl 1 rfl) ?_
  refine xv_iadd T dX8_takesOff_7 ?_
  refine xa_iald T hK hP 1 rfl rfl (14 + lk) (by omega) (by omega) (by decide) dX8_takesOff_8 ?_
  refine xv_iconst T dX8_takesOff_9 ?_
  refine xv_icmp_ne T (by omega) (tgt := 42) dX8_takesOff_10 (by decide) (fun c1 => ?_) (fun c1 => ?_)
  · skip
    exact rV T (u := N) hr hk hK hP hS dX8_takesOff_42 (by skip; unfold offF; first | rw [if_pos (by assumption)] | rw [if_neg (by assumption)])
  · skip
    refine lv_aload_n T.1 T.2.1 dX8_takesOff_13 rfl (lv_at hl 0 rfl) ?_
    refine g8_now T hK hP 0 rfl rfl mw_3_175 dX8_takesOff_14 ?_
    refine xv_sipush T dX8_takesOff_17 (by omega) ?_
    refine lv_aload_n T.1 T.2.1 dX8_takesOff_20 rfl (lv_at hl 0 rfl) ?_
    refine g8_now T hK hP 0 rfl rfl mw_3_175 dX8_takesOff_21 ?_
    refine xv_bipush T dX8_takesOff_24 (by omega) ?_
    refine lv_iload_n T.1 T.2.1 dX8_takesOff_26 rfl (lv_at hl 1 rfl) ?_
    refine xv_iadd T dX8_takesOff_27 ?_
    refine xa_iald T hK hP 1 rfl rfl (19 + lk) (by omega) (by omega) (by decide) dX8_takesOff_28 ?_
    refine xv_iadd T dX8_takesOff_29 ?_
    refine lv_iload_n T.1 T.2.1 dX8_takesOff_30 rfl (lv_at hl 2 rfl) ?_
    refine xa_iast T hK hP (m_D K o N B SS TT F) hS 1 rfl rfl (by omega) (by decide) dX8_takesOff_31 (mu_N K o N B SS TT F w (by omega)) (fun H locs hP hS => ?_)
    obtain ⟨N2, hN2⟩ : ∃ Y0 : Int → Int, Y0 = uZ N (854 + (N (19 + lk))) w := ⟨_, rfl⟩
    have hP : xP K (mW K o N2 B SS TT F) H := by rw [hN2]; exact hP
    rw [show 854 + (N (19 + lk)) = 854 + N (19 + lk) by omega] at hN2
    refine lv_aload_n T.1 T.2.1 dX8_takesOff_32 rfl (lv_at hl 0 rfl) ?_
    refine g8_now T hK hP 0 rfl rfl mw_3_175 dX8_takesOff_33 ?_
    refine xv_bipush T dX8_takesOff_36 (by omega) ?_
    refine lv_iload_n T.1 T.2.1 dX8_takesOff_38 rfl (lv_at hl 1 rfl) ?_
    refine xv_iadd T dX8_takesOff_39 ?_
    refine xv_iconst T dX8_takesOff_40 ?_
    refine xa_iast T hK hP (m_D K o N2 B SS TT F) hS 1 rfl rfl (by omega) (by decide) dX8_takesOff_41 (mu_N K o N2 B SS TT F 0 (by omega)) (fun H locs hP hS => ?_)
    obtain ⟨N3, hN3⟩ : ∃ Y0 : Int → Int, Y0 = uZ N2 (14 + lk) 0 := ⟨_, rfl⟩
    have hP : xP K (mW K o N3 B SS TT F) H := by rw [hN3]; exact hP
    exact rV T (u := N3) hr hk hK hP hS dX8_takesOff_42 (by subst hN3 hN2; unfold offF; first | rw [if_pos (by assumption)] | rw [if_neg (by assumption)])
set_option maxHeartbeats 4000000 in
set_option maxRecDepth 100000 in
theorem c_X8_seals (l : Launch) (K : KT) (o : Nat) (N B SS TT F : Int → Int) (lk : Int) (r_lk : 0 ≤ lk ∧ lk < 5) (r_ns : 0 ≤ N 7 ∧ N 7 < 200) : CtV l yX8_seals cX8_seals 3 0 0 K [.ref o, .int (iI lk)] (mW K o N B SS TT F) (Blk o 5) (fun (u : Int → Int) => u = sealsF N lk) (fun u => mW K o u B SS TT F) := by
  refine CtV_of (by decide) (Nat.le_of_ble_eq_true rfl) ?_
  intro p e s m args below meth c T hr hk hP hK ls hl
  have T : CF p m c cX8_seals 3 s args RX8 := T
  have hS : va_S (Blk o 5) s.heap s.heap [] := va_S.rf
  have hl : lv_has ls 3 [(0, .ref o), (1, .int (iI lk))] := hl
  refine lv_aload_n T.1 T.2.1 dX8_seals_0 rfl (lv_at hl 0 rfl) ?_
  refine g8_now T hK hP 0 rfl rfl mw_3_175 dX8_seals_1 ?_
  refine xv_bipush T dX8_seals_4 (by omega) ?_
  refine lv_dup2_11 T.1 T.2.1 dX8_seals_6 rfl rfl ?_
  refine xa_iald T hK hP 1 rfl rfl 7 (by omega) (by omega) (by decide) dX8_seals_7 ?_
  refine xv_iconst T dX8_seals_8 ?_
  refine xv_iadd T dX8_seals_9 ?_
  refine xa_iast T hK hP (m_D K o N B SS TT F) hS 1 rfl rfl (by omega) (by decide) dX8_seals_10 (mu_N K o N B SS TT F (N 7 + 1) (by omega)) (fun H locs hP hS => ?_)
  obtain ⟨N1, hN1⟩ : ∃ Y0 : Int → Int, Y0 = uZ N 7 (N 7 + 1) := ⟨_, rfl⟩
  have hP : xP K (mW K o N1 B SS TT F) H := by rw [hN1]; exact hP
  refine lv_aload_n T.1 T.2.1 dX8_seals_11 rfl (lv_at hl 0 rfl) ?_
  refine g8_now T hK hP 0 rfl rfl mw_3_175 dX8_seals_12 ?_
  refine xv_bipush T dX8_seals_15 (by omega) ?_
  refine xa_iald T hK hP 1 rfl rfl 7 (by omega) (by omega) (by decide) dX8_seals_17 ?_
  refine xv_cv (b := N 7 + 1) (by rw [hN1, uZ_eq]) ?_
  refine lv_istore_n (lv' := [(2, .int (iI (N 7 + 1))), (0, .ref o), (1, .int (iI lk))]) T.1 T.2.1 dX8_seals_18 rfl hl (by decide) rfl (fun ls hl => ?_)
  refine lv_aload_n T.1 T.2.1 dX8_seals_19 rfl (lv_at hl 1 rfl) ?_
  refine g8_now T hK hP 0 rfl rfl mw_3_175 dX8_seals_20 ?_
  refine xv_bipush T dX8_seals_23 (by omega) ?_
  refine lv_iload_n T.1 T.2.1 dX8_seals_25 rfl (lv_at hl 2 rfl) ?_
  refine xv_iadd T dX8_seals_26 ?_
  refine xv_iconst T dX8_seals_27 ?_
  refine xa_iast T hK hP (m_D K o N1 B SS TT F) hS 1 rfl rfl (by omega) (by decide) dX8_seals_28 (mu_N K o N1 B SS TT F 1 (by omega)) (fun H locs hP hS => ?_)
  obtain ⟨N2, hN2⟩ : ∃ Y0 : Int → Int, Y0 = uZ N1 (14 + lk) 1 := ⟨_, rfl⟩
  have hP : xP K (mW K o N2 B SS TT F) H := by rw [hN2]; exact hP
  refine lv_aload_n T.1 T.2.1 dX8_seals_29 rfl (lv_at hl 1 rfl) ?_
  refine g8_now T hK hP 0 rfl rfl mw_3_175 dX8_seals_30 ?_
  refine xv_bipush T dX8_seals_33 (by omega) ?_
  refine lv_iload_n T.1 T.2.1 dX8_seals_35 rfl (lv_at hl 2 rfl) ?_
  refine xv_iadd T dX8_seals_36 ?_
  refine lv_iload_n T.1 T.2.1 dX8_seals_37 rfl (lv_at hl 0 rfl) ?_
  refine xa_iast T hK hP (m_D K o N2 B SS TT F) hS 1 rfl rfl (by omega) (by decide) dX8_seals_38 (mu_N K o N2 B SS TT F (N 7 + 1) (by omega)) (fun H locs hP hS => ?_)
  obtain ⟨N3, hN3⟩ : ∃ Y0 : Int → Int, Y0 = uZ N2 (19 + lk) (N 7 + 1) := ⟨_, rfl⟩
  have hP : xP K (mW K o N3 B SS TT F) H := by rw [hN3]; exact hP
  refine lv_aload_n T.1 T.2.1 dX8_seals_39 rfl (lv_at hl 1 rfl) ?_
  refine g8_now T hK hP 0 rfl rfl mw_3_175 dX8_seals_40 ?_
  refine xv_sipush T dX8_seals_43 (by omega) ?_
  refine lv_iload_n T.1 T.2.1 dX8_seals_46 rfl (lv_at hl 0 rfl) ?_
  refine xv_iadd T dX8_seals_47 ?_
  refine lv_iload_n T.1 T.2.1 dX8_seals_48 rfl (lv_at hl 2 rfl) ?_
  refine xa_iast T hK hP (m_D K o N3 B SS TT F) hS 1 rfl rfl (by omega) (by decide) dX8_seals_49 (mu_N K o N3 B SS TT F lk (by omega)) (fun H locs hP hS => ?_)
  obtain ⟨N4, hN4⟩ : ∃ Y0 : Int → Int, Y0 = uZ N3 (452 + (N 7 + 1)) lk := ⟨_, rfl⟩
  have hP : xP K (mW K o N4 B SS TT F) H := by rw [hN4]; exact hP
  rw [show 452 + (N 7 + 1) = 453 + N 7 by omega] at hN4
  refine lv_aload_n T.1 T.2.1 dX8_seals_50 rfl (lv_at hl 1 rfl) ?_
  refine g8_now T hK hP 0 rfl rfl mw_3_175 dX8_seals_51 ?_
  refine xv_sipush T dX8_seals_54 (by omega) ?_
  refine lv_iload_n T.1 T.2.1 dX8_seals_57 rfl (lv_at hl 0 rfl) ?_
  refine xv_iadd T dX8_seals_58 ?_
  refine lv_aload_n T.1 T.2.1 dX8_seals_59 rfl (lv_at hl 1 rfl) ?_
  refine g8_now T hK hP 0 rfl rfl mw_3_175 dX8_seals_60 ?_
  refine xv_iconst T dX8_seals_63 ?_
  refine xa_iald T hK hP 1 rfl rfl 1 (by omega) (by omega) (by decide) dX8_seals_64 ?_
  refine xv_cv (b := N 1) (by rw [hN4, uZ_ne (by omega), hN3, uZ_ne (by omega), hN2, uZ_ne (by omega), hN1, uZ_ne (by omega)]) ?_
  refine xa_iast T hK hP (m_D K o N4 B SS TT F) hS 1 rfl rfl (by omega) (by decide) dX8_seals_65 (mu_N K o N4 B SS TT F (N 1) (by omega)) (fun H locs hP hS => ?_)
  obtain ⟨N5, hN5⟩ : ∃ Y0 : Int → Int, Y0 = uZ N4 (653 + (N 7 + 1)) (N 1) := ⟨_, rfl⟩
  have hP : xP K (mW K o N5 B SS TT F) H := by rw [hN5]; exact hP
  rw [show 653 + (N 7 + 1) = 654 + N 7 by omega] at hN5
  refine lv_aload_n T.1 T.2.1 dX8_seals_66 rfl (lv_at hl 1 rfl) ?_
  refine g8_now T hK hP 0 rfl rfl mw_3_175 dX8_seals_67 ?_
  refine xv_sipush T dX8_seals_70 (by omega) ?_
  refine lv_iload_n T.1 T.2.1 dX8_seals_73 rfl (lv_at hl 0 rfl) ?_
  refine xv_iadd T dX8_seals_74 ?_
  refine xv_iconst T dX8_seals_75 ?_
  refine xa_iast T hK hP (m_D K o N5 B SS TT F) hS 1 rfl rfl (by omega) (by decide) dX8_seals_76 (mu_N K o N5 B SS TT F 0 (by omega)) (fun H locs hP hS => ?_)
  obtain ⟨N6, hN6⟩ : ∃ Y0 : Int → Int, Y0 = uZ N5 (854 + (N 7 + 1)) 0 := ⟨_, rfl⟩
  have hP : xP K (mW K o N6 B SS TT F) H := by rw [hN6]; exact hP
  rw [show 854 + (N 7 + 1) = 855 + N 7 by omega] at hN6
  exact rV T (u := N6) hr hk hK hP hS dX8_seals_77 (by subst hN6 hN5 hN4 hN3 hN2 hN1; rfl)
