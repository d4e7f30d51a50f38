set_option maxHeartbeats 4000000 in
set_option maxRecDepth 100000 in
theorem c_X8_addsLocker (l : Launch) (K : KT) (o : Nat) (N B SS TT F : Int → Int) (hI : Inv N) : CtI l yX8_addsLocker cX8_addsLocker 1 .int 1 22 K [.ref o] (mW K o N B SS TT F) (Blk o 5) (fun (z : Int) (u : Int → Int) => (z, u) = sLocker N) (fun u => mW K o u B SS TT F) := by
  refine CtI_of (by decide) (Nat.le_of_ble_eq_true rfl) ?_
  intro p e s m args below meth c T hr hk hP hK ls hl
  have T : CF p m c cX8_addsLocker 1 s args RX8 := T
  have hS : va_S (Blk o 5) s.heap s.heap [] := va_S.rf
  have hl : lv_has ls 1 [(0, .ref o)] := hl
  obtain ⟨hI0, hIL, hIH, hIB, hID, hIC, hIG, hIZ, hIF⟩ := id hI
  have hR : InR N := ⟨hI0, hIB⟩
  obtain ⟨b0, b1, b2, b3, b4, b5, b6, b7, b8, b9⟩ := id hI0
  refine lv_aload_n T.1 T.2.1 dX8_addsLocker_0 rfl (lv_at hl 0 rfl) ?_
  refine g8_now T hK hP 0 rfl rfl mw_3_175 dX8_addsLocker_1 ?_
  refine xv_iconst T dX8_addsLocker_4 ?_
  refine xa_iald T hK hP 1 rfl rfl 0 (by omega) (by omega) (by decide) dX8_addsLocker_5 ?_
  refine xv_iconst T dX8_addsLocker_6 ?_
  refine xv_icmp_eq T (by omega) (tgt := 13) dX8_addsLocker_7 (by decide) (fun c1 => ?_) (fun c1 => ?_)
  · skip
    refine lv_aload_n T.1 T.2.1 dX8_addsLocker_13 rfl (lv_at hl 0 rfl) ?_
    refine g8_now T hK hP 0 rfl rfl mw_3_175 dX8_addsLocker_14 ?_
    refine xv_iconst T dX8_addsLocker_17 ?_
    refine xa_iald T hK hP 1 rfl rfl 4 (by omega) (by omega) (by decide) dX8_addsLocker_18 ?_
    refine xv_iconst T dX8_addsLocker_19 ?_
    refine xv_icmp_eq T (by omega) (tgt := 31) dX8_addsLocker_20 (by decide) (fun c2 => ?_) (fun c2 => ?_)
    · skip
      refine xv_bipush T dX8_addsLocker_31 (by omega) ?_
      exact rI T (u := N) hr hk hK hP hS dX8_addsLocker_33 (by skip; unfold sLocker; (repeat' split) <;> first | (exfalso; omega) | rfl | (rw [Int.add_sub_cancel]))
    · skip
      refine lv_aload_n T.1 T.2.1 dX8_addsLocker_23 rfl (lv_at hl 0 rfl) ?_
      refine xv_iconst T dX8_addsLocker_24 ?_
      refine cI_V T hK hP hS 0 rfl rfl rfl (c_X8_hasSeals l K o N B SS TT F 1 (by omega) (by omega)) iX8_hasSeals mw_3_231 ⟨Nat.le_of_ble_eq_true rfl, Nat.le_of_ble_eq_true rfl⟩ hP noA rfl hl.1 rfl (Nat.le_of_ble_eq_true rfl) ⟨Nat.zero_le _, Nat.zero_le _⟩ dX8_addsLocker_25 (fun z3 _ H1 locs q4 hP1 hg1 hg2 hS => ?_)
      have hP := xP_kept hP hg2
      generalize H1 = H at hP hS ⊢
      clear hg1 hg2 hP1
      rcases q4 with ⟨rfl, q4⟩ | ⟨rfl, q4⟩
      · skip
        refine xv_if_ne T (by omega) (tgt := 34) dX8_addsLocker_28 (by decide) (fun _ => ?_) (fun c5 => absurd c5 (by omega))
        refine lv_aload_n T.1 T.2.1 dX8_addsLocker_34 rfl (lv_at hl 0 rfl) ?_
        refine lv_aload_n T.1 T.2.1 dX8_addsLocker_35 rfl (lv_at hl 0 rfl) ?_
        refine g8_now T hK hP 0 rfl rfl mw_3_175 dX8_addsLocker_36 ?_
        refine xv_iconst T dX8_addsLocker_39 ?_
        refine xa_iald T hK hP 1 rfl rfl 4 (by omega) (by omega) (by decide) dX8_addsLocker_40 ?_
        refine cV_V T hK hP hS 0 rfl rfl rfl (c_X8_seals l K o N B SS TT F (N 4) (by omega) (by omega)) iX8_seals mw_3_235 ⟨Nat.le_of_ble_eq_true rfl, Nat.le_of_ble_eq_true rfl⟩ hP (fun _ h => h) rfl hl.1 rfl (Nat.le_of_ble_eq_true rfl) ⟨Nat.zero_le _, Nat.zero_le _⟩ dX8_addsLocker_41 (fun N8 H1 locs q7 hP1 hg1 hg2 hS => ?_)
        have hP : xP K (mW K o N8 B SS TT F) H1 := hP1
        generalize H1 = H at hP hS ⊢
        clear hg1 hg2 hP1
        refine lv_aload_n T.1 T.2.1 dX8_addsLocker_44 rfl (lv_at hl 0 rfl) ?_
        refine g8_now T hK hP 0 rfl rfl mw_3_175 dX8_addsLocker_45 ?_
        refine xv_iconst T dX8_addsLocker_48 ?_
        refine lv_dup2_11 T.1 T.2.1 dX8_addsLocker_49 rfl rfl ?_
        refine xa_iald T hK hP 1 rfl rfl 4 (by omega) (by omega) (by decide) dX8_addsLocker_50 ?_
        refine xv_cv (b := N 4) (by rw [q7, sealsF_ne (by omega)]) ?_
        refine xv_iconst T dX8_addsLocker_51 ?_
        refine xv_iadd T dX8_addsLocker_52 ?_
        refine xa_iast T hK hP (m_D K o N8 B SS TT F) hS 1 rfl rfl (by omega) (by decide) dX8_addsLocker_53 (mu_N K o N8 B SS TT F (N 4 + 1) (by omega)) (fun H locs hP hS => ?_)
        obtain ⟨N9, hN9⟩ : ∃ Y0 : Int → Int, Y0 = uZ N8 4 (N 4 + 1) := ⟨_, rfl⟩
        have hP : xP K (mW K o N9 B SS TT F) H := by rw [hN9]; exact hP
        refine lv_aload_n T.1 T.2.1 dX8_addsLocker_54 rfl (lv_at hl 0 rfl) ?_
        refine g8_now T hK hP 0 rfl rfl mw_3_175 dX8_addsLocker_55 ?_
        refine xv_iconst T dX8_addsLocker_58 ?_
        refine xa_iald T hK hP 1 rfl rfl 4 (by omega) (by omega) (by decide) dX8_addsLocker_59 ?_
        refine xv_cv (b := N 4 + 1) (by rw [hN9, uZ_eq]) ?_
        refine xv_iconst T dX8_addsLocker_60 ?_
        refine xv_isub T dX8_addsLocker_61 ?_
        exact rI T (u := N9) hr hk hK hP hS dX8_addsLocker_62 (by subst hN9 q7; unfold sLocker; (repeat' split) <;> first | (exfalso; omega) | rfl | (rw [Int.add_sub_cancel]))
      · skip
        refine xv_if_ne T (by omega) (tgt := 34) dX8_addsLocker_28 (by decide) (fun c10 => absurd c10 (by omega)) (fun _ => ?_)
        refine xv_bipush T dX8_addsLocker_31 (by omega) ?_
        exact rI T (u := N) hr hk hK hP hS dX8_addsLocker_33 (by skip; unfold sLocker; (repeat' split) <;> first | (exfalso; omega) | rfl | (rw [Int.add_sub_cancel]))
  · skip
    refine xv_bipush T dX8_addsLocker_10 (by omega) ?_
    exact rI T (u := N) hr hk hK hP hS dX8_addsLocker_12 (by skip; unfold sLocker; (repeat' split) <;> first | (exfalso; omega) | rfl | (rw [Int.add_sub_cancel]))
set_option maxHeartbeats 4000000 in
set_option maxRecDepth 100000 in
theorem c_X8_addsGood (l : Launch) (K : KT) (o : Nat) (N B SS TT F : Int → Int) (dt : Int) (r_dt : -2147483648 ≤ dt ∧ dt ≤ 2147483647) (hI : Inv N) : CtI l yX8_addsGood cX8_addsGood 2 .int 2 42 K [.ref o, .int (iI dt)] (mW K o N B SS TT F) (Blk o 5) (fun (z : Int) (u : Int → Int) => (z, u) = sGood N dt) (fun u => mW K o u B SS TT F) := by
  refine CtI_of (by decide) (Nat.le_of_ble_eq_true rfl) ?_
  intro p e s m args below meth c T hr hk hP hK ls hl
  have T : CF p m c cX8_addsGood 2 s args RX8 := T
  have hS : va_S (Blk o 5) s.heap s.heap [] := va_S.rf
  have hl : lv_has ls 2 [(0, .ref o), (1, .int (iI dt))] := hl
  obtain ⟨hI0, hIL, hIH, hIB, hID, hIC, hIG, hIZ, hIF⟩ := id hI
  have hR : InR N := ⟨hI0, hIB⟩
  obtain ⟨b0, b1, b2, b3, b4, b5, b6, b7, b8, b9⟩ := id hI0
  refine lv_iload_n T.1 T.2.1 dX8_addsGood_0 rfl (lv_at hl 1 rfl) ?_
  refine cI_S T hK hP hS (c_X8_isDuty l K dt (by omega)) iX8_isDuty mw_4_11 ⟨Nat.le_of_ble_eq_true rfl, Nat.le_of_ble_eq_true rfl⟩ xP_nil noA rfl hl.1 rfl (Nat.le_of_ble_eq_true rfl) ⟨Nat.zero_le _, Nat.zero_le _⟩ dX8_addsGood_1 (fun z1 _ H1 locs q2 hP1 hg1 hg2 hS => ?_)
  have hP := xP_kept hP hg2
  generalize H1 = H at hP hS ⊢
  clear hg1 hg2 hP1
  rcases q2 with ⟨rfl, q2⟩ | ⟨rfl, q2⟩
  · skip
    refine xv_if_ne T (by omega) (tgt := 9) dX8_addsGood_4 (by decide) (fun _ => ?_) (fun c3 => absurd c3 (by omega))
    refine lv_aload_n T.1 T.2.1 dX8_addsGood_9 rfl (lv_at hl 0 rfl) ?_
    refine g8_now T hK hP 0 rfl rfl mw_3_175 dX8_addsGood_10 ?_
    refine xv_iconst T dX8_addsGood_13 ?_
    refine xa_iald T hK hP 1 rfl rfl 5 (by omega) (by omega) (by decide) dX8_addsGood_14 ?_
    refine xv_bipush T dX8_addsGood_15 (by omega) ?_
    refine xv_icmp_ne T (by omega) (tgt := 23) dX8_addsGood_17 (by decide) (fun c4 => ?_) (fun c4 => ?_)
    · skip
      refine lv_aload_n T.1 T.2.1 dX8_addsGood_23 rfl (lv_at hl 0 rfl) ?_
      refine g8_now T hK hP 0 rfl rfl mw_3_175 dX8_addsGood_24 ?_
      refine xv_bipush T dX8_addsGood_27 (by omega) ?_
      refine lv_aload_n T.1 T.2.1 dX8_addsGood_29 rfl (lv_at hl 0 rfl) ?_
      refine g8_now T hK hP 0 rfl rfl mw_3_175 dX8_addsGood_30 ?_
      refine xv_iconst T dX8_addsGood_33 ?_
      refine xa_iald T hK hP 1 rfl rfl 5 (by omega) (by omega) (by decide) dX8_addsGood_34 ?_
      refine xv_iadd T dX8_addsGood_35 ?_
      refine lv_iload_n T.1 T.2.1 dX8_addsGood_36 rfl (lv_at hl 1 rfl) ?_
      refine xa_iast T hK hP (m_D K o N B SS TT F) hS 1 rfl rfl (by omega) (by decide) dX8_addsGood_37 (mu_N K o N B SS TT F dt (by omega)) (fun H locs hP hS => ?_)
      obtain ⟨N5, hN5⟩ : ∃ Y0 : Int → Int, Y0 = uZ N (104 + (N 5)) dt := ⟨_, rfl⟩
      have hP : xP K (mW K o N5 B SS TT F) H := by rw [hN5]; exact hP
      rw [show 104 + (N 5) = 104 + N 5 by omega] at hN5
      refine lv_aload_n T.1 T.2.1 dX8_addsGood_38 rfl (lv_at hl 0 rfl) ?_
      refine g8_now T hK hP 0 rfl rfl mw_3_175 dX8_addsGood_39 ?_
      refine xv_iconst T dX8_addsGood_42 ?_
      refine lv_dup2_11 T.1 T.2.1 dX8_addsGood_43 rfl rfl ?_
      refine xa_iald T hK hP 1 rfl rfl 5 (by omega) (by omega) (by decide) dX8_addsGood_44 ?_
      refine xv_cv (b := N 5) (by rw [hN5, uZ_ne (by omega)]) ?_
      refine xv_iconst T dX8_addsGood_45 ?_
      refine xv_iadd T dX8_addsGood_46 ?_
      refine xa_iast T hK hP (m_D K o N5 B SS TT F) hS 1 rfl rfl (by omega) (by decide) dX8_addsGood_47 (mu_N K o N5 B SS TT F (N 5 + 1) (by omega)) (fun H locs hP hS => ?_)
      obtain ⟨N6, hN6⟩ : ∃ Y0 : Int → Int, Y0 = uZ N5 5 (N 5 + 1) := ⟨_, rfl⟩
      have hP : xP K (mW K o N6 B SS TT F) H := by rw [hN6]; exact hP
      refine lv_aload_n T.1 T.2.1 dX8_addsGood_48 rfl (lv_at hl 0 rfl) ?_
      refine g8_now T hK hP 0 rfl rfl mw_3_175 dX8_addsGood_49 ?_
      refine xv_iconst T dX8_addsGood_52 ?_
      refine xa_iald T hK hP 1 rfl rfl 5 (by omega) (by omega) (by decide) dX8_addsGood_53 ?_
      refine xv_cv (b := N 5 + 1) (by rw [hN6, uZ_eq]) ?_
      refine xv_iconst T dX8_addsGood_54 ?_
      refine xv_isub T dX8_addsGood_55 ?_
      exact rI T (u := N6) hr hk hK hP hS dX8_addsGood_56 (by subst hN6 hN5; unfold sGood; (repeat' split) <;> first | (exfalso; omega) | rfl | (rw [Int.add_sub_cancel]))
    · skip
      refine xv_bipush T dX8_addsGood_20 (by omega) ?_
      exact rI T (u := N) hr hk hK hP hS dX8_addsGood_22 (by skip; unfold sGood; (repeat' split) <;> first | (exfalso; omega) | rfl | (rw [Int.add_sub_cancel]))
  · skip
    refine xv_if_ne T (by omega) (tgt := 9) dX8_addsGood_4 (by decide) (fun c7 => absurd c7 (by omega)) (fun _ => ?_)
    refine xv_iconst T dX8_addsGood_7 ?_
    exact rI T (u := N) hr hk hK hP hS dX8_addsGood_8 (by skip; unfold sGood; (repeat' split) <;> first | (exfalso; omega) | rfl | (rw [Int.add_sub_cancel]))
set_option maxHeartbeats 4000000 in
set_option maxRecDepth 100000 in
theorem c_X8_loads (l : Launch) (K : KT) (o : Nat) (N B SS TT F : Int → Int) (lk gd un : Int) (r_lk : -2147483648 ≤ lk ∧ lk ≤ 2147483647) (r_gd : -2147483648 ≤ gd ∧ gd ≤ 2147483647) (r_un : -2147483648 ≤ un ∧ un ≤ 2147483647) (hI : Inv N) : CtI l yX8_loads cX8_loads 7 .int 3 66 K [.ref o, .int (iI lk), .int (iI gd), .int (iI un)] (mW K o N B SS TT F) (Blk o 5) (fun (z : Int) (u : Int → Int) => (z, u) = sLoad N lk gd un) (fun u => mW K o u B SS TT F) := by
  refine CtI_of (by decide) (Nat.le_of_ble_eq_true rfl) ?_
  intro p e s m args below meth c T hr hk hP hK ls hl
  have T : CF p m c cX8_loads 7 s args RX8 := T
  have hS : va_S (Blk o 5) s.heap s.heap [] := va_S.rf
  have hl : lv_has ls 7 [(0, .ref o), (1, .int (iI lk)), (2, .int (iI gd)), (3, .int (iI un))] := hl
  obtain ⟨hI0, hIL, hIH, hIB, hID, hIC, hIG, hIZ, hIF⟩ := id hI
  have hR : InR N := ⟨hI0, hIB⟩
  obtain ⟨b0, b1, b2, b3, b4, b5, b6, b7, b8, b9⟩ := id hI0
  refine lv_aload_n T.1 T.2.1 dX8_loads_0 rfl (lv_at hl 0 rfl) ?_
  refine lv_iload_n T.1 T.2.1 dX8_loads_1 rfl (lv_at hl 1 rfl) ?_
  refine lv_iload_n T.1 T.2.1 dX8_loads_2 rfl (lv_at hl 2 rfl) ?_
  refine lv_iload_n T.1 T.2.1 dX8_loads_3 rfl (lv_at hl 3 rfl) ?_
  refine cI_V T hK hP hS 0 rfl rfl rfl (c_X8_isMove l K o N B SS TT F lk gd un (by omega) (by omega) (by omega) hI) iX8_isMove mw_4_34 ⟨Nat.le_of_ble_eq_true rfl, Nat.le_of_ble_eq_true rfl⟩ hP noA rfl hl.1 rfl (Nat.le_of_ble_eq_true rfl) ⟨Nat.zero_le _, Nat.zero_le _⟩ dX8_loads_4 (fun z1 _ H1 locs q2 hP1 hg1 hg2 hS => ?_)
  have hP := xP_kept hP hg2
  generalize H1 = H at hP hS ⊢
  clear hg1 hg2 hP1
  rcases q2 with ⟨rfl, q2⟩ | ⟨rfl, q2⟩
  · skip
    refine xv_if_ne T (by omega) (tgt := 12) dX8_loads_7 (by decide) (fun _ => ?_) (fun c3 => absurd c3 (by omega))
    refine lv_aload_n T.1 T.2.1 dX8_loads_12 rfl (lv_at hl 0 rfl) ?_
    refine g8_now T hK hP 0 rfl rfl mw_3_175 dX8_loads_13 ?_
    refine xv_iconst T dX8_loads_16 ?_
    refine xa_iald T hK hP 1 rfl rfl 0 (by omega) (by omega) (by decide) dX8_loads_17 ?_
    refine xv_iconst T dX8_loads_18 ?_
    refine xv_icmp_ne T (by omega) (tgt := 35) dX8_loads_19 (by decide) (fun c4 => ?_) (fun c4 => ?_)
    · skip
      refine xv_bipush T dX8_loads_35 (by omega) ?_
      exact rI T (u := N) hr hk hK hP hS dX8_loads_37 (by skip; unfold sLoad; (repeat' split) <;> first | (exfalso; omega) | rfl)
    · skip
      refine lv_aload_n T.1 T.2.1 dX8_loads_22 rfl (lv_at hl 0 rfl) ?_
      refine g8_now T hK hP 0 rfl rfl mw_3_175 dX8_loads_23 ?_
      refine xv_bipush T dX8_loads_26 (by omega) ?_
      refine lv_iload_n T.1 T.2.1 dX8_loads_28 rfl (lv_at hl 1 rfl) ?_
      refine xv_iadd T dX8_loads_29 ?_
      refine xa_iald T hK hP 1 rfl rfl (14 + lk) (by omega) (by omega) (by decide) dX8_loads_30 ?_
      have f5 := hIL lk (by omega) (by omega)
      refine xv_iconst T dX8_loads_31 ?_
      refine xv_icmp_ne T (by omega) (tgt := 38) dX8_loads_32 (by decide) (fun c6 => ?_) (fun c6 => ?_)
      · skip
        refine lv_iload_n T.1 T.2.1 dX8_loads_38 rfl (lv_at hl 3 rfl) ?_
        refine xv_i2l T (by omega) dX8_loads_39 ?_
        refine lv_aload_n T.1 T.2.1 dX8_loads_40 rfl (lv_at hl 0 rfl) ?_
        refine g8_now T hK hP 0 rfl rfl mw_3_175 dX8_loads_41 ?_
        refine xv_bipush T dX8_loads_44 (by omega) ?_
        refine lv_iload_n T.1 T.2.1 dX8_loads_46 rfl (lv_at hl 2 rfl) ?_
        refine xv_iadd T dX8_loads_47 ?_
        refine xa_iald T hK hP 1 rfl rfl (104 + gd) (by omega) (by omega) (by decide) dX8_loads_48 ?_
        have f7 := hID gd (by omega) (by omega)
        refine xv_i2l T (by omega) dX8_loads_49 ?_
        refine xv_lmul T dX8_loads_50 ?_
        refine lv_lstore (lv' := [(4, .long (lI (un * (N (104 + gd))))), (0, .ref o), (1, .int (iI lk)), (2, .int (iI gd)), (3, .int (iI un))]) T.1 T.2.1 dX8_loads_51 hl (by decide) rfl (fun ls hl => ?_)
        have hp : 0 ≤ un * N (104 + gd) ∧ un * N (104 + gd) ≤ 9999 * 1000000 := ⟨Int.mul_nonneg (by omega) (by omega), Int.mul_le_mul (by omega) (by omega) (by omega) (by omega)⟩
        refine lv_aload_n T.1 T.2.1 dX8_loads_53 rfl (lv_at hl 1 rfl) ?_
        refine g8_now T hK hP 0 rfl rfl mw_3_175 dX8_loads_54 ?_
        refine xv_bipush T dX8_loads_57 (by omega) ?_
        refine xa_iald T hK hP 1 rfl rfl 6 (by omega) (by omega) (by decide) dX8_loads_59 ?_
        refine xv_bipush T dX8_loads_60 (by omega) ?_
        refine xv_icmp_eq T (by omega) (tgt := 112) dX8_loads_62 (by decide) (fun c8 => ?_) (fun c8 => ?_)
        · skip
          refine xv_bipush T dX8_loads_112 (by omega) ?_
          exact rI T (u := N) hr hk hK hP hS dX8_loads_114 (by skip; unfold sLoad; (repeat' split) <;> first | (exfalso; omega) | rfl)
        · skip
          refine lv_aload_n T.1 T.2.1 dX8_loads_65 rfl (lv_at hl 1 rfl) ?_
          refine xv_iconst T dX8_loads_66 ?_
          refine cI_V T hK hP hS 0 rfl rfl rfl (c_X8_hasSeals l K o N B SS TT F 1 (by omega) (by omega)) iX8_hasSeals mw_3_231 ⟨Nat.le_of_ble_eq_true rfl, Nat.le_of_ble_eq_true rfl⟩ hP noA rfl hl.1 rfl (Nat.le_of_ble_eq_true rfl) ⟨Nat.zero_le _, Nat.zero_le _⟩ dX8_loads_67 (fun z9 _ H1 locs q10 hP1 hg1 hg2 hS => ?_)
          have hP := xP_kept hP hg2
          generalize H1 = H at hP hS ⊢
          clear hg1 hg2 hP1
          rcases q10 with ⟨rfl, q10⟩ | ⟨rfl, q10⟩
          · skip
            refine xv_if_eq T (by omega) (tgt := 112) dX8_loads_70 (by decide) (fun c11 => absurd c11 (by omega)) (fun _ => ?_)
            refine lv_aload_n T.1 T.2.1 dX8_loads_73 rfl (lv_at hl 1 rfl) ?_
            refine g8_now T hK hP 0 rfl rfl mw_3_175 dX8_loads_74 ?_
            refine xv_bipush T dX8_loads_77 (by omega) ?_
            refine xv_bipush T dX8_loads_79 (by omega) ?_
            refine lv_iload_n T.1 T.2.1 dX8_loads_81 rfl (lv_at hl 2 rfl) ?_
            refine xv_imul T dX8_loads_82 ?_
            refine xv_iadd T dX8_loads_83 ?_
            refine lv_iload_n T.1 T.2.1 dX8_loads_84 rfl (lv_at hl 3 rfl) ?_
            refine xv_iadd T dX8_loads_85 ?_
            refine xa_iald T hK hP 1 rfl rfl (24 + 8 * lk + gd) (by omega) (by omega) (by decide) dX8_loads_86 ?_
            have f12 := hIH lk gd (by omega) (by omega) (by omega) (by omega)
            refine lv_iload_n T.1 T.2.1 dX8_loads_87 rfl (lv_at hl 4 rfl) ?_
            refine xv_iadd T dX8_loads_88 ?_
            refine xv_ldc T mw_4_42 (n := 99999) (by decide +kernel) dX8_loads_89 ?_
            refine xv_icmp_gt T (by omega) (tgt := 112) dX8_loads_91 (by decide) (fun c13 => ?_) (fun c13 => ?_)
            · skip
              refine xv_bipush T dX8_loads_112 (by omega) ?_
              exact rI T (u := N) hr hk hK hP hS dX8_loads_114 (by skip; unfold sLoad; (repeat' split) <;> first | (exfalso; omega) | rfl)
            · skip
              refine lv_aload_n T.1 T.2.1 dX8_loads_94 rfl (lv_at hl 1 rfl) ?_
              refine g8_now T hK hP 0 rfl rfl mw_3_175 dX8_loads_95 ?_
              refine xv_bipush T dX8_loads_98 (by omega) ?_
              refine xa_iald T hK hP 1 rfl rfl 9 (by omega) (by omega) (by decide) dX8_loads_100 ?_
              refine xv_i2l T (by omega) dX8_loads_101 ?_
              refine lv_lload T.1 T.2.1 dX8_loads_102 (lv_at hl 0 rfl) ?_
              refine xv_ladd T dX8_loads_104 ?_
              refine xv_ldc2 T mw_4_43 (n := 2147483647) (by decide +kernel) dX8_loads_105 ?_
              refine xv_lcmp_le T (tgt := 115) dX8_loads_108 dX8_loads_109 (by decide) (fun c14 => ?_) (fun c14 => ?_)
              · skip
                have c14 := (lI_le (by omega)).mp c14
                refine lv_aload_n T.1 T.2.1 dX8_loads_115 rfl (lv_at hl 1 rfl) ?_
                refine g8_now T hK hP 0 rfl rfl mw_3_175 dX8_loads_116 ?_
                refine xv_bipush T dX8_loads_119 (by omega) ?_
                refine xa_iald T hK hP 1 rfl rfl 6 (by omega) (by omega) (by decide) dX8_loads_121 ?_
                refine lv_istore (lv' := [(6, .int (iI (N 6))), (4, .long (lI (un * (N (104 + gd))))), (0, .ref o), (1, .int (iI lk)), (2, .int (iI gd)), (3, .int (iI un))]) T.1 T.2.1 dX8_loads_122 hl (by decide) rfl (fun ls hl => ?_)
                have fl := hIL lk (by omega) (by omega)
                refine lv_aload_n T.1 T.2.1 dX8_loads_124 rfl (lv_at hl 2 rfl) ?_
                refine lv_iload_n T.1 T.2.1 dX8_loads_125 rfl (lv_at hl 3 rfl) ?_
                refine xv_iconst T dX8_loads_126 ?_
                refine cV_V T hK hP hS 0 rfl rfl rfl (c_X8_takesOff l K o N B SS TT F lk 2 (by omega) (by omega) (by omega)) iX8_takesOff mw_4_44 ⟨Nat.le_of_ble_eq_true rfl, Nat.le_of_ble_eq_true rfl⟩ hP (fun _ h => h) rfl hl.1 rfl (Nat.le_of_ble_eq_true rfl) ⟨Nat.zero_le _, Nat.zero_le _⟩ dX8_loads_127 (fun N17 H1 locs q16 hP1 hg1 hg2 hS => ?_)
                have hP : xP K (mW K o N17 B SS TT F) H1 := hP1
                generalize H1 = H at hP hS ⊢
                clear hg1 hg2 hP1
                refine lv_aload_n T.1 T.2.1 dX8_loads_130 rfl (lv_at hl 2 rfl) ?_
                refine g8_now T hK hP 0 rfl rfl mw_3_175 dX8_loads_131 ?_
                refine xv_sipush T dX8_loads_134 (by omega) ?_
                refine lv_iload T.1 T.2.1 dX8_loads_137 (lv_at hl 0 rfl) ?_
                refine xv_iadd T dX8_loads_139 ?_
                refine lv_iload_n T.1 T.2.1 dX8_loads_140 rfl (lv_at hl 4 rfl) ?_
                refine xa_iast T hK hP (m_D K o N17 B SS TT F) hS 1 rfl rfl (by omega) (by decide) dX8_loads_141 (mu_N K o N17 B SS TT F gd (by omega)) (fun H locs hP hS => ?_)
                obtain ⟨N18, hN18⟩ : ∃ Y0 : Int → Int, Y0 = uZ N17 (152 + (N 6)) gd := ⟨_, rfl⟩
                have hP : xP K (mW K o N18 B SS TT F) H := by rw [hN18]; exact hP
                rw [show 152 + (N 6) = 152 + N 6 by omega] at hN18
                refine lv_aload_n T.1 T.2.1 dX8_loads_142 rfl (lv_at hl 2 rfl) ?_
                refine g8_now T hK hP 0 rfl rfl mw_3_175 dX8_loads_143 ?_
                refine xv_sipush T dX8_loads_146 (by omega) ?_
                refine lv_iload T.1 T.2.1 dX8_loads_149 (lv_at hl 0 rfl) ?_
                refine xv_iadd T dX8_loads_151 ?_
                refine lv_iload_n T.1 T.2.1 dX8_loads_152 rfl (lv_at hl 5 rfl) ?_
                refine xa_iast T hK hP (m_D K o N18 B SS TT F) hS 1 rfl rfl (by omega) (by decide) dX8_loads_153 (mu_N K o N18 B SS TT F un (by omega)) (fun H locs hP hS => ?_)
                obtain ⟨N19, hN19⟩ : ∃ Y0 : Int → Int, Y0 = uZ N18 (212 + (N 6)) un := ⟨_, rfl⟩
                have hP : xP K (mW K o N19 B SS TT F) H := by rw [hN19]; exact hP
                rw [show 212 + (N 6) = 212 + N 6 by omega] at hN19
                refine lv_aload_n T.1 T.2.1 dX8_loads_154 rfl (lv_at hl 2 rfl) ?_
                refine g8_now T hK hP 0 rfl rfl mw_3_175 dX8_loads_155 ?_
                refine xv_sipush T dX8_loads_158 (by omega) ?_
                refine lv_iload T.1 T.2.1 dX8_loads_161 (lv_at hl 0 rfl) ?_
                refine xv_iadd T dX8_loads_163 ?_
                refine lv_iload_n T.1 T.2.1 dX8_loads_164 rfl (lv_at hl 5 rfl) ?_
                refine xa_iast T hK hP (m_D K o N19 B SS TT F) hS 1 rfl rfl (by omega) (by decide) dX8_loads_165 (mu_N K o N19 B SS TT F un (by omega)) (fun H locs hP hS => ?_)
                obtain ⟨N20, hN20⟩ : ∃ Y0 : Int → Int, Y0 = uZ N19 (272 + (N 6)) un := ⟨_, rfl⟩
                have hP : xP K (mW K o N20 B SS TT F) H := by rw [hN20]; exact hP
                rw [show 272 + (N 6) = 272 + N 6 by omega] at hN20
                refine lv_aload_n T.1 T.2.1 dX8_loads_166 rfl (lv_at hl 2 rfl) ?_
                refine g8_now T hK hP 0 rfl rfl mw_3_175 dX8_loads_167 ?_
                refine xv_sipush T dX8_loads_170 (by omega) ?_
                refine lv_iload T.1 T.2.1 dX8_loads_173 (lv_at hl 0 rfl) ?_
                refine xv_iadd T dX8_loads_175 ?_
                refine lv_aload_n T.1 T.2.1 dX8_loads_176 rfl (lv_at hl 2 rfl) ?_
                refine g8_now T hK hP 0 rfl rfl mw_3_175 dX8_loads_177 ?_
                refine xv_bipush T dX8_loads_180 (by omega) ?_
                refine lv_iload_n T.1 T.2.1 dX8_loads_182 rfl (lv_at hl 4 rfl) ?_
                refine xv_iadd T dX8_loads_183 ?_
                refine xa_iald T hK hP 1 rfl rfl (104 + gd) (by omega) (by omega) (by decide) dX8_loads_184 ?_
                refine xv_cv (b := N (104 + gd)) (by rw [hN20, uZ_ne (by omega), hN19, uZ_ne (by omega), hN18, uZ_ne (by omega), q16, offF_ne (by omega)]) ?_
                refine xa_iast T hK hP (m_D K o N20 B SS TT F) hS 1 rfl rfl (by omega) (by decide) dX8_loads_185 (mu_N K o N20 B SS TT F (N (104 + gd)) (by omega)) (fun H locs hP hS => ?_)
                obtain ⟨N21, hN21⟩ : ∃ Y0 : Int → Int, Y0 = uZ N20 (332 + (N 6)) (N (104 + gd)) := ⟨_, rfl⟩
                have hP : xP K (mW K o N21 B SS TT F) H := by rw [hN21]; exact hP
                rw [show 332 + (N 6) = 332 + N 6 by omega] at hN21
                refine lv_aload_n T.1 T.2.1 dX8_loads_186 rfl (lv_at hl 2 rfl) ?_
                refine g8_now T hK hP 0 rfl rfl mw_3_175 dX8_loads_187 ?_
                refine xv_sipush T dX8_loads_190 (by omega) ?_
                refine lv_iload T.1 T.2.1 dX8_loads_193 (lv_at hl 0 rfl) ?_
                refine xv_iadd T dX8_loads_195 ?_
                refine lv_aload_n T.1 T.2.1 dX8_loads_196 rfl (lv_at hl 2 rfl) ?_
                refine g8_now T hK hP 0 rfl rfl mw_3_175 dX8_loads_197 ?_
                refine xv_iconst T dX8_loads_200 ?_
                refine xa_iald T hK hP 1 rfl rfl 1 (by omega) (by omega) (by decide) dX8_loads_201 ?_
                refine xv_cv (b := N 1) (by rw [hN21, uZ_ne (by omega), hN20, uZ_ne (by omega), hN19, uZ_ne (by omega), hN18, uZ_ne (by omega), q16, offF_ne (by omega)]) ?_
                refine lv_aload_n T.1 T.2.1 dX8_loads_202 rfl (lv_at hl 2 rfl) ?_
                refine g8_now T hK hP 0 rfl rfl mw_3_175 dX8_loads_203 ?_
                refine xv_iconst T dX8_loads_206 ?_
                refine xa_iald T hK hP 1 rfl rfl 3 (by omega) (by omega) (by decide) dX8_loads_207 ?_
                refine xv_cv (b := N 3) (by rw [hN21, uZ_ne (by omega), hN20, uZ_ne (by omega), hN19, uZ_ne (by omega), hN18, uZ_ne (by omega), q16, offF_ne (by omega)]) ?_
                refine xv_iadd T dX8_loads_208 ?_
                refine xa_iast T hK hP (m_D K o N21 B SS TT F) hS 1 rfl rfl (by omega) (by decide) dX8_loads_209 (mu_N K o N21 B SS TT F (N 1 + (N 3)) (by omega)) (fun H locs hP hS => ?_)
                obtain ⟨N22, hN22⟩ : ∃ Y0 : Int → Int, Y0 = uZ N21 (392 + (N 6)) (N 1 + (N 3)) := ⟨_, rfl⟩
                have hP : xP K (mW K o N22 B SS TT F) H := by rw [hN22]; exact hP
                rw [show 392 + (N 6) = 392 + N 6 by omega] at hN22
                refine lv_aload_n T.1 T.2.1 dX8_loads_210 rfl (lv_at hl 2 rfl) ?_
                refine g8_now T hK hP 0 rfl rfl mw_3_175 dX8_loads_211 ?_
                refine xv_bipush T dX8_loads_214 (by omega) ?_
                refine lv_dup2_11 T.1 T.2.1 dX8_loads_216 rfl rfl ?_
                refine xa_iald T hK hP 1 rfl rfl 6 (by omega) (by omega) (by decide) dX8_loads_217 ?_
                refine xv_cv (b := N 6) (by rw [hN22, uZ_ne (by omega), hN21, uZ_ne (by omega), hN20, uZ_ne (by omega), hN19, uZ_ne (by omega), hN18, uZ_ne (by omega), q16, offF_ne (by omega)]) ?_
                refine xv_iconst T dX8_loads_218 ?_
                refine xv_iadd T dX8_loads_219 ?_
                refine xa_iast T hK hP (m_D K o N22 B SS TT F) hS 1 rfl rfl (by omega) (by decide) dX8_loads_220 (mu_N K o N22 B SS TT F (N 6 + 1) (by omega)) (fun H locs hP hS => ?_)
                obtain ⟨N23, hN23⟩ : ∃ Y0 : Int → Int, Y0 = uZ N22 6 (N 6 + 1) := ⟨_, rfl⟩
                have hP : xP K (mW K o N23 B SS TT F) H := by rw [hN23]; exact hP
                refine lv_aload_n T.1 T.2.1 dX8_loads_221 rfl (lv_at hl 2 rfl) ?_
                refine g8_now T hK hP 0 rfl rfl mw_3_175 dX8_loads_222 ?_
                refine xv_bipush T dX8_loads_225 (by omega) ?_
                refine lv_dup2_11 T.1 T.2.1 dX8_loads_227 rfl rfl ?_
                refine xa_iald T hK hP 1 rfl rfl 9 (by omega) (by omega) (by decide) dX8_loads_228 ?_
                refine xv_cv (b := N 9) (by rw [hN23, uZ_ne (by omega), hN22, uZ_ne (by omega), hN21, uZ_ne (by omega), hN20, uZ_ne (by omega), hN19, uZ_ne (by omega), hN18, uZ_ne (by omega), q16, offF_ne (by omega)]) ?_
                refine lv_lload T.1 T.2.1 dX8_loads_229 (lv_at hl 1 rfl) ?_
                refine xv_l2i T dX8_loads_231 ?_
                refine xv_iadd T dX8_loads_232 ?_
                refine xa_iast T hK hP (m_D K o N23 B SS TT F) hS 1 rfl rfl (by omega) (by decide) dX8_loads_233 (mu_N K o N23 B SS TT F (N 9 + (un * (N (104 + gd)))) (by omega)) (fun H locs hP hS => ?_)
                obtain ⟨N24, hN24⟩ : ∃ Y0 : Int → Int, Y0 = uZ N23 9 (N 9 + (un * (N (104 + gd)))) := ⟨_, rfl⟩
                have hP : xP K (mW K o N24 B SS TT F) H := by rw [hN24]; exact hP
                refine lv_aload_n T.1 T.2.1 dX8_loads_234 rfl (lv_at hl 2 rfl) ?_
                refine g8_now T hK hP 0 rfl rfl mw_3_175 dX8_loads_235 ?_
                refine xv_bipush T dX8_loads_238 (by omega) ?_
                refine lv_iload_n T.1 T.2.1 dX8_loads_240 rfl (lv_at hl 4 rfl) ?_
                refine xv_iadd T dX8_loads_241 ?_
                refine lv_dup2_11 T.1 T.2.1 dX8_loads_242 rfl rfl ?_
                refine xa_iald T hK hP 1 rfl rfl (112 + gd) (by omega) (by omega) (by decide) dX8_loads_243 ?_
                refine xv_cv (b := N (112 + gd)) (by rw [hN24, uZ_ne (by omega), hN23, uZ_ne (by omega), hN22, uZ_ne (by omega), hN21, uZ_ne (by omega), hN20, uZ_ne (by omega), hN19, uZ_ne (by omega), hN18, uZ_ne (by omega), q16, offF_ne (by omega)]) ?_
                refine lv_iload_n T.1 T.2.1 dX8_loads_244 rfl (lv_at hl 5 rfl) ?_
                refine xv_iadd T dX8_loads_245 ?_
                refine xa_iast T hK hP (m_D K o N24 B SS TT F) hS 1 rfl rfl (by omega) (by decide) dX8_loads_246 (mu_N K o N24 B SS TT F (N (112 + gd) + un) (by omega)) (fun H locs hP hS => ?_)
                obtain ⟨N25, hN25⟩ : ∃ Y0 : Int → Int, Y0 = uZ N24 (112 + gd) (N (112 + gd) + un) := ⟨_, rfl⟩
                have hP : xP K (mW K o N25 B SS TT F) H := by rw [hN25]; exact hP
                refine lv_aload_n T.1 T.2.1 dX8_loads_247 rfl (lv_at hl 2 rfl) ?_
                refine g8_now T hK hP 0 rfl rfl mw_3_175 dX8_loads_248 ?_
                refine xv_bipush T dX8_loads_251 (by omega) ?_
                refine xv_bipush T dX8_loads_253 (by omega) ?_
                refine lv_iload_n T.1 T.2.1 dX8_loads_255 rfl (lv_at hl 3 rfl) ?_
                refine xv_imul T dX8_loads_256 ?_
                refine xv_iadd T dX8_loads_257 ?_
                refine lv_iload_n T.1 T.2.1 dX8_loads_258 rfl (lv_at hl 4 rfl) ?_
                refine xv_iadd T dX8_loads_259 ?_
                refine lv_dup2_11 T.1 T.2.1 dX8_loads_260 rfl rfl ?_
                refine xa_iald T hK hP 1 rfl rfl (24 + 8 * lk + gd) (by omega) (by omega) (by decide) dX8_loads_261 ?_
                refine xv_cv (b := N (24 + 8 * lk + gd)) (by rw [hN25, uZ_ne (by omega), hN24, uZ_ne (by omega), hN23, uZ_ne (by omega), hN22, uZ_ne (by omega), hN21, uZ_ne (by omega), hN20, uZ_ne (by omega), hN19, uZ_ne (by omega), hN18, uZ_ne (by omega), q16, offF_ne (by omega)]) ?_
                refine lv_iload_n T.1 T.2.1 dX8_loads_262 rfl (lv_at hl 5 rfl) ?_
                refine xv_iadd T dX8_loads_263 ?_
                refine xa_iast T hK hP (m_D K o N25 B SS TT F) hS 1 rfl rfl (by omega) (by decide) dX8_loads_264 (mu_N K o N25 B SS TT F (N (24 + 8 * lk + gd) + un) (by omega)) (fun H locs hP hS => ?_)
                obtain ⟨N26, hN26⟩ : ∃ Y0 : Int → Int, Y0 = uZ N25 (24 + (8 * lk) + gd) (N (24 + 8 * lk + gd) + un) := ⟨_, rfl⟩
                have hP : xP K (mW K o N26 B SS TT F) H := by rw [hN26]; exact hP
                rw [show 24 + (8 * lk) + gd = 24 + 8 * lk + gd by omega] at hN26
                refine lv_aload_n T.1 T.2.1 dX8_loads_265 rfl (lv_at hl 2 rfl) ?_
                refine lv_iload_n T.1 T.2.1 dX8_loads_266 rfl (lv_at hl 3 rfl) ?_
                refine cV_V T hK hP hS 0 rfl rfl rfl (c_X8_seals l K o N26 B SS TT F lk (by omega) (by rw [hN26, uZ_ne (by omega), hN25, uZ_ne (by omega), hN24, uZ_ne (by omega), hN23, uZ_ne (by omega), hN22, uZ_ne (by omega), hN21, uZ_ne (by omega), hN20, uZ_ne (by omega), hN19, uZ_ne (by omega), hN18, uZ_ne (by omega), q16, offF_ne (by omega)]; omega)) iX8_seals mw_3_235 ⟨Nat.le_of_ble_eq_true rfl, Nat.le_of_ble_eq_true rfl⟩ hP (fun _ h => h) rfl hl.1 rfl (Nat.le_of_ble_eq_true rfl) ⟨Nat.zero_le _, Nat.zero_le _⟩ dX8_loads_267 (fun N29 H1 locs q28 hP1 hg1 hg2 hS => ?_)
                have hP : xP K (mW K o N29 B SS TT F) H1 := hP1
                generalize H1 = H at hP hS ⊢
                clear hg1 hg2 hP1
                refine lv_iload T.1 T.2.1 dX8_loads_270 (lv_at hl 0 rfl) ?_
                exact rI T (u := N29) hr hk hK hP hS dX8_loads_272 (by subst q28 hN26 hN25 hN24 hN23 hN22 hN21 hN20 hN19 hN18 q16; unfold sLoad; (repeat' split) <;> first | (exfalso; omega) | rfl)
              · skip
                have c14 : ¬ (N 9 + (un * (N (104 + gd))) ≤ 2147483647) := fun q => c14 ((lI_le (by omega)).mpr q)
                refine xv_bipush T dX8_loads_112 (by omega) ?_
                exact rI T (u := N) hr hk hK hP hS dX8_loads_114 (by skip; unfold sLoad; (repeat' split) <;> first | (exfalso; omega) | rfl)
          · skip
            refine xv_if_eq T (by omega) (tgt := 112) dX8_loads_70 (by decide) (fun _ => ?_) (fun c30 => absurd c30 (by omega))
            refine xv_bipush T dX8_loads_112 (by omega) ?_
            exact rI T (u := N) hr hk hK hP hS dX8_loads_114 (by skip; unfold sLoad; (repeat' split) <;> first | (exfalso; omega) | rfl)
      · skip
        refine xv_bipush T dX8_loads_35 (by omega) ?_
        exact rI T (u := N) hr hk hK hP hS dX8_loads_37 (by skip; unfold sLoad; (repeat' split) <;> first | (exfalso; omega) | rfl)
  · skip
    refine xv_if_ne T (by omega) (tgt := 12) dX8_loads_7 (by decide) (fun c31 => absurd c31 (by omega)) (fun _ => ?_)
    refine xv_iconst T dX8_loads_10 ?_
    exact rI T (u := N) hr hk hK hP hS dX8_loads_11 (by skip; unfold sLoad; (repeat' split) <;> first | (exfalso; omega) | rfl)
set_option maxHeartbeats 4000000 in
set_option maxRecDepth 100000 in
theorem c_X8_uses (l : Launch) (K : KT) (o : Nat) (N B SS TT F : Int → Int) (lk gd un : Int) (r_lk : -2147483648 ≤ lk ∧ lk ≤ 2147483647) (r_gd : -2147483648 ≤ gd ∧ gd ≤ 2147483647) (r_un : -2147483648 ≤ un ∧ un ≤ 2147483647) (hI : Inv N) : CtI l yX8_uses cX8_uses 5 .int 3 66 K [.ref o, .int (iI lk), .int (iI gd), .int (iI un)] (mW K o N B SS TT F) (Blk o 5) (fun (z : Int) (u : Int → Int) => (z, u) = sUse N lk gd un) (fun u => mW K o u B SS TT F) := by
  refine CtI_of (by decide) (Nat.le_of_ble_eq_true rfl) ?_
  intro p e s m args below meth c T hr hk hP hK ls hl
  have T : CF p m c cX8_uses 5 s args RX8 := T
  have hS : va_S (Blk o 5) s.heap s.heap [] := va_S.rf
  have hl : lv_has ls 5 [(0, .ref o), (1, .int (iI lk)), (2, .int (iI gd)), (3, .int (iI un))] := hl
  obtain ⟨hI0, hIL, hIH, hIB, hID, hIC, hIG, hIZ, hIF⟩ := id hI
  have hR : InR N := ⟨hI0, hIB⟩
  obtain ⟨b0, b1, b2, b3, b4, b5, b6, b7, b8, b9⟩ := id hI0
  refine lv_aload_n T.1 T.2.1 dX8_uses_0 rfl (lv_at hl 0 rfl) ?_
  refine lv_iload_n T.1 T.2.1 dX8_uses_1 rfl (lv_at hl 1 rfl) ?_
  refine lv_iload_n T.1 T.2.1 dX8_uses_2 rfl (lv_at hl 2 rfl) ?_
  refine lv_iload_n T.1 T.2.1 dX8_uses_3 rfl (lv_at hl 3 rfl) ?_
  refine cI_V T hK hP hS 0 rfl rfl rfl (c_X8_isMove l K o N B SS TT F lk gd un (by omega) (by omega) (by omega) hI) iX8_isMove mw_4_34 ⟨Nat.le_of_ble_eq_true rfl, Nat.le_of_ble_eq_true rfl⟩ hP noA rfl hl.1 rfl (Nat.le_of_ble_eq_true rfl) ⟨Nat.zero_le _, Nat.zero_le _⟩ dX8_uses_4 (fun z1 _ H1 locs q2 hP1 hg1 hg2 hS => ?_)
  have hP := xP_kept hP hg2
  generalize H1 = H at hP hS ⊢
  clear hg1 hg2 hP1
  rcases q2 with ⟨rfl, q2⟩ | ⟨rfl, q2⟩
  · skip
    refine xv_if_ne T (by omega) (tgt := 12) dX8_uses_7 (by decide) (fun _ => ?_) (fun c3 => absurd c3 (by omega))
    refine xv_bipush T dX8_uses_12 (by omega) ?_
    refine xv_bipush T dX8_uses_14 (by omega) ?_
    refine lv_iload_n T.1 T.2.1 dX8_uses_16 rfl (lv_at hl 1 rfl) ?_
    refine xv_imul T dX8_uses_17 ?_
    refine xv_iadd T dX8_uses_18 ?_
    refine lv_iload_n T.1 T.2.1 dX8_uses_19 rfl (lv_at hl 2 rfl) ?_
    refine xv_iadd T dX8_uses_20 ?_
    refine lv_istore (lv' := [(4, .int (iI (24 + (8 * lk) + gd))), (0, .ref o), (1, .int (iI lk)), (2, .int (iI gd)), (3, .int (iI un))]) T.1 T.2.1 dX8_uses_21 hl (by decide) rfl (fun ls hl => ?_)
    refine lv_aload_n T.1 T.2.1 dX8_uses_23 rfl (lv_at hl 1 rfl) ?_
    refine g8_now T hK hP 0 rfl rfl mw_3_175 dX8_uses_24 ?_
    refine xv_iconst T dX8_uses_27 ?_
    refine xa_iald T hK hP 1 rfl rfl 0 (by omega) (by omega) (by decide) dX8_uses_28 ?_
    refine xv_if_ne T (by omega) (tgt := 43) dX8_uses_29 (by decide) (fun c4 => ?_) (fun c4 => ?_)
    · skip
      refine xv_bipush T dX8_uses_43 (by omega) ?_
      exact rI T (u := N) hr hk hK hP hS dX8_uses_45 (by skip; unfold sUse; (repeat' split) <;> first | (exfalso; omega) | rfl)
    · skip
      refine lv_aload_n T.1 T.2.1 dX8_uses_32 rfl (lv_at hl 1 rfl) ?_
      refine g8_now T hK hP 0 rfl rfl mw_3_175 dX8_uses_33 ?_
      refine lv_iload T.1 T.2.1 dX8_uses_36 (lv_at hl 0 rfl) ?_
      refine xa_iald T hK hP 1 rfl rfl (24 + 8 * lk + gd) (by omega) (by omega) (by decide) dX8_uses_38 ?_
      have f5 := hIH lk gd (by omega) (by omega) (by omega) (by omega)
      refine lv_iload_n T.1 T.2.1 dX8_uses_39 rfl (lv_at hl 4 rfl) ?_
      refine xv_icmp_ge T (by omega) (tgt := 46) dX8_uses_40 (by decide) (fun c6 => ?_) (fun c6 => ?_)
      · skip
        refine lv_aload_n T.1 T.2.1 dX8_uses_46 rfl (lv_at hl 1 rfl) ?_
        refine g8_now T hK hP 0 rfl rfl mw_3_175 dX8_uses_47 ?_
        refine lv_iload T.1 T.2.1 dX8_uses_50 (lv_at hl 0 rfl) ?_
        refine lv_dup2_11 T.1 T.2.1 dX8_uses_52 rfl rfl ?_
        refine xa_iald T hK hP 1 rfl rfl (24 + 8 * lk + gd) (by omega) (by omega) (by decide) dX8_uses_53 ?_
        refine lv_iload_n T.1 T.2.1 dX8_uses_54 rfl (lv_at hl 4 rfl) ?_
        refine xv_isub T dX8_uses_55 ?_
        refine xa_iast T hK hP (m_D K o N B SS TT F) hS 1 rfl rfl (by omega) (by decide) dX8_uses_56 (mu_N K o N B SS TT F (N (24 + 8 * lk + gd) - un) (by omega)) (fun H locs hP hS => ?_)
        obtain ⟨N7, hN7⟩ : ∃ Y0 : Int → Int, Y0 = uZ N (24 + (8 * lk) + gd) (N (24 + 8 * lk + gd) - un) := ⟨_, rfl⟩
        have hP : xP K (mW K o N7 B SS TT F) H := by rw [hN7]; exact hP
        rw [show 24 + (8 * lk) + gd = 24 + 8 * lk + gd by omega] at hN7
        have hrs := has_rest hI (l := lk) (g := gd) (by omega) (by omega)
        refine lv_aload_n T.1 T.2.1 dX8_uses_57 rfl (lv_at hl 1 rfl) ?_
        refine lv_iload_n T.1 T.2.1 dX8_uses_58 rfl (lv_at hl 3 rfl) ?_
        refine lv_iload_n T.1 T.2.1 dX8_uses_59 rfl (lv_at hl 4 rfl) ?_
        refine xv_iconst T dX8_uses_60 ?_
        refine cI_V T hK hP hS 0 rfl rfl rfl (c_X8_releases l K o N7 B SS TT F gd un 0 (by omega) (by omega) (by omega) (by rw [hN7, rest_has gd (by omega) (by omega)]; omega) (by rw [hN7]; exact inR_has hR (by omega))) iX8_releases mw_4_84 ⟨Nat.le_of_ble_eq_true rfl, Nat.le_of_ble_eq_true rfl⟩ hP (fun _ h => h) rfl hl.1 rfl (Nat.le_of_ble_eq_true rfl) ⟨Nat.zero_le _, Nat.zero_le _⟩ dX8_uses_61 (fun bvz Nz H1 locs qzz hP1 hg1 hg2 hS => ?_)
        have hP : xP K (mW K o Nz B SS TT F) H1 := hP1
        generalize H1 = H at hP hS ⊢
        clear hg1 hg2 hP1
        obtain ⟨hvz, hNz⟩ := qzz
        subst hvz
        exact rI T (u := Nz) hr hk hK hP hS dX8_uses_64 (by subst hNz hN7; unfold sUse; (repeat' split) <;> first | (exfalso; omega) | rfl)
      · skip
        refine xv_bipush T dX8_uses_43 (by omega) ?_
        exact rI T (u := N) hr hk hK hP hS dX8_uses_45 (by skip; unfold sUse; (repeat' split) <;> first | (exfalso; omega) | rfl)
  · skip
    refine xv_if_ne T (by omega) (tgt := 12) dX8_uses_7 (by decide) (fun c8 => absurd c8 (by omega)) (fun _ => ?_)
    refine xv_iconst T dX8_uses_10 ?_
    exact rI T (u := N) hr hk hK hP hS dX8_uses_11 (by skip; unfold sUse; (repeat' split) <;> first | (exfalso; omega) | rfl)
set_option maxHeartbeats 4000000 in
set_option maxRecDepth 100000 in
theorem c_X8_brings (l : Launch) (K : KT) (o : Nat) (N B SS TT F : Int → Int) (lk gd un : Int) (r_lk : -2147483648 ≤ lk ∧ lk ≤ 2147483647) (r_gd : -2147483648 ≤ gd ∧ gd ≤ 2147483647) (r_un : -2147483648 ≤ un ∧ un ≤ 2147483647) (hI : Inv N) : CtI l yX8_brings cX8_brings 5 .int 3 66 K [.ref o, .int (iI lk), .int (iI gd), .int (iI un)] (mW K o N B SS TT F) (Blk o 5) (fun (z : Int) (u : Int → Int) => (z, u) = sBring N lk gd un) (fun u => mW K o u B SS TT F) := by
  refine CtI_of (by decide) (Nat.le_of_ble_eq_true rfl) ?_
  intro p e s m args below meth c T hr hk hP hK ls hl
  have T : CF p m c cX8_brings 5 s args RX8 := T
  have hS : va_S (Blk o 5) s.heap s.heap [] := va_S.rf
  have hl : lv_has ls 5 [(0, .ref o), (1, .int (iI lk)), (2, .int (iI gd)), (3, .int (iI un))] := hl
  obtain ⟨hI0, hIL, hIH, hIB, hID, hIC, hIG, hIZ, hIF⟩ := id hI
  have hR : InR N := ⟨hI0, hIB⟩
  obtain ⟨b0, b1, b2, b3, b4, b5, b6, b7, b8, b9⟩ := id hI0
  refine lv_aload_n T.1 T.2.1 dX8_brings_0 rfl (lv_at hl 0 rfl) ?_
  refine lv_iload_n T.1 T.2.1 dX8_brings_1 rfl (lv_at hl 1 rfl) ?_
  refine lv_iload_n T.1 T.2.1 dX8_brings_2 rfl (lv_at hl 2 rfl) ?_
  refine lv_iload_n T.1 T.2.1 dX8_brings_3 rfl (lv_at hl 3 rfl) ?_
  refine cI_V T hK hP hS 0 rfl rfl rfl (c_X8_isMove l K o N B SS TT F lk gd un (by omega) (by omega) (by omega) hI) iX8_isMove mw_4_34 ⟨Nat.le_of_ble_eq_true rfl, Nat.le_of_ble_eq_true rfl⟩ hP noA rfl hl.1 rfl (Nat.le_of_ble_eq_true rfl) ⟨Nat.zero_le _, Nat.zero_le _⟩ dX8_brings_4 (fun z1 _ H1 locs q2 hP1 hg1 hg2 hS => ?_)
  have hP := xP_kept hP hg2
  generalize H1 = H at hP hS ⊢
  clear hg1 hg2 hP1
  rcases q2 with ⟨rfl, q2⟩ | ⟨rfl, q2⟩
  · skip
    refine xv_if_ne T (by omega) (tgt := 12) dX8_brings_7 (by decide) (fun _ => ?_) (fun c3 => absurd c3 (by omega))
    refine xv_bipush T dX8_brings_12 (by omega) ?_
    refine xv_bipush T dX8_brings_14 (by omega) ?_
    refine lv_iload_n T.1 T.2.1 dX8_brings_16 rfl (lv_at hl 1 rfl) ?_
    refine xv_imul T dX8_brings_17 ?_
    refine xv_iadd T dX8_brings_18 ?_
    refine lv_iload_n T.1 T.2.1 dX8_brings_19 rfl (lv_at hl 2 rfl) ?_
    refine xv_iadd T dX8_brings_20 ?_
    refine lv_istore (lv' := [(4, .int (iI (24 + (8 * lk) + gd))), (0, .ref o), (1, .int (iI lk)), (2, .int (iI gd)), (3, .int (iI un))]) T.1 T.2.1 dX8_brings_21 hl (by decide) rfl (fun ls hl => ?_)
    refine lv_aload_n T.1 T.2.1 dX8_brings_23 rfl (lv_at hl 1 rfl) ?_
    refine g8_now T hK hP 0 rfl rfl mw_3_175 dX8_brings_24 ?_
    refine xv_iconst T dX8_brings_27 ?_
    refine xa_iald T hK hP 1 rfl rfl 0 (by omega) (by omega) (by decide) dX8_brings_28 ?_
    refine xv_iconst T dX8_brings_29 ?_
    refine xv_icmp_ne T (by omega) (tgt := 57) dX8_brings_30 (by decide) (fun c4 => ?_) (fun c4 => ?_)
    · skip
      refine xv_bipush T dX8_brings_57 (by omega) ?_
      exact rI T (u := N) hr hk hK hP hS dX8_brings_59 (by skip; unfold sBring; (repeat' split) <;> first | (exfalso; omega) | rfl)
    · skip
      refine lv_aload_n T.1 T.2.1 dX8_brings_33 rfl (lv_at hl 1 rfl) ?_
      refine g8_now T hK hP 0 rfl rfl mw_3_175 dX8_brings_34 ?_
      refine xv_bipush T dX8_brings_37 (by omega) ?_
      refine lv_iload_n T.1 T.2.1 dX8_brings_39 rfl (lv_at hl 2 rfl) ?_
      refine xv_iadd T dX8_brings_40 ?_
      refine xa_iald T hK hP 1 rfl rfl (14 + lk) (by omega) (by omega) (by decide) dX8_brings_41 ?_
      have f5 := hIL lk (by omega) (by omega)
      refine xv_iconst T dX8_brings_42 ?_
      refine xv_icmp_eq T (by omega) (tgt := 57) dX8_brings_43 (by decide) (fun c6 => ?_) (fun c6 => ?_)
      · skip
        refine xv_bipush T dX8_brings_57 (by omega) ?_
        exact rI T (u := N) hr hk hK hP hS dX8_brings_59 (by skip; unfold sBring; (repeat' split) <;> first | (exfalso; omega) | rfl)
      · skip
        refine lv_aload_n T.1 T.2.1 dX8_brings_46 rfl (lv_at hl 1 rfl) ?_
        refine g8_now T hK hP 0 rfl rfl mw_3_175 dX8_brings_47 ?_
        refine lv_iload T.1 T.2.1 dX8_brings_50 (lv_at hl 0 rfl) ?_
        refine xa_iald T hK hP 1 rfl rfl (24 + 8 * lk + gd) (by omega) (by omega) (by decide) dX8_brings_52 ?_
        have f7 := hIH lk gd (by omega) (by omega) (by omega) (by omega)
        refine lv_iload_n T.1 T.2.1 dX8_brings_53 rfl (lv_at hl 4 rfl) ?_
        refine xv_icmp_ge T (by omega) (tgt := 60) dX8_brings_54 (by decide) (fun c8 => ?_) (fun c8 => ?_)
        · skip
          refine lv_aload_n T.1 T.2.1 dX8_brings_60 rfl (lv_at hl 1 rfl) ?_
          refine xv_iconst T dX8_brings_61 ?_
          refine cI_V T hK hP hS 0 rfl rfl rfl (c_X8_hasSeals l K o N B SS TT F 1 (by omega) (by omega)) iX8_hasSeals mw_3_231 ⟨Nat.le_of_ble_eq_true rfl, Nat.le_of_ble_eq_true rfl⟩ hP noA rfl hl.1 rfl (Nat.le_of_ble_eq_true rfl) ⟨Nat.zero_le _, Nat.zero_le _⟩ dX8_brings_62 (fun z9 _ H1 locs q10 hP1 hg1 hg2 hS => ?_)
          have hP := xP_kept hP hg2
          generalize H1 = H at hP hS ⊢
          clear hg1 hg2 hP1
          rcases q10 with ⟨rfl, q10⟩ | ⟨rfl, q10⟩
          · skip
            refine xv_if_ne T (by omega) (tgt := 71) dX8_brings_65 (by decide) (fun _ => ?_) (fun c11 => absurd c11 (by omega))
            have fl := hIL lk (by omega) (by omega)
            have hrs := has_rest hI (l := lk) (g := gd) (by omega) (by omega)
            refine lv_aload_n T.1 T.2.1 dX8_brings_71 rfl (lv_at hl 1 rfl) ?_
            refine lv_iload_n T.1 T.2.1 dX8_brings_72 rfl (lv_at hl 2 rfl) ?_
            refine xv_iconst T dX8_brings_73 ?_
            refine cV_V T hK hP hS 0 rfl rfl rfl (c_X8_takesOff l K o N B SS TT F lk 2 (by omega) (by omega) (by omega)) iX8_takesOff mw_4_44 ⟨Nat.le_of_ble_eq_true rfl, Nat.le_of_ble_eq_true rfl⟩ hP (fun _ h => h) rfl hl.1 rfl (Nat.le_of_ble_eq_true rfl) ⟨Nat.zero_le _, Nat.zero_le _⟩ dX8_brings_74 (fun Na H1 locs qa hP1 hg1 hg2 hS => ?_)
            have hP : xP K (mW K o Na B SS TT F) H1 := hP1
            generalize H1 = H at hP hS ⊢
            clear hg1 hg2 hP1
            refine lv_aload_n T.1 T.2.1 dX8_brings_77 rfl (lv_at hl 1 rfl) ?_
            refine g8_now T hK hP 0 rfl rfl mw_3_175 dX8_brings_78 ?_
            refine lv_iload T.1 T.2.1 dX8_brings_81 (lv_at hl 0 rfl) ?_
            refine lv_dup2_11 T.1 T.2.1 dX8_brings_83 rfl rfl ?_
            refine xa_iald T hK hP 1 rfl rfl (24 + 8 * lk + gd) (by omega) (by omega) (by decide) dX8_brings_84 ?_
            refine xv_cv (b := N (24 + 8 * lk + gd)) (by rw [qa, offF_ne (by omega)]) ?_
            refine lv_iload_n T.1 T.2.1 dX8_brings_85 rfl (lv_at hl 4 rfl) ?_
            refine xv_isub T dX8_brings_86 ?_
            refine xa_iast T hK hP (m_D K o Na B SS TT F) hS 1 rfl rfl (by omega) (by decide) dX8_brings_87 (mu_N K o Na B SS TT F (N (24 + 8 * lk + gd) - un) (by omega)) (fun H locs hP hS => ?_)
            obtain ⟨Nb, hNb⟩ : ∃ Y0 : Int → Int, Y0 = uZ Na (24 + (8 * lk) + gd) (N (24 + 8 * lk + gd) - un) := ⟨_, rfl⟩
            have hP : xP K (mW K o Nb B SS TT F) H := by rw [hNb]; exact hP
            rw [show 24 + (8 * lk) + gd = 24 + 8 * lk + gd by omega] at hNb
            refine lv_aload_n T.1 T.2.1 dX8_brings_88 rfl (lv_at hl 1 rfl) ?_
            refine lv_iload_n T.1 T.2.1 dX8_brings_89 rfl (lv_at hl 2 rfl) ?_
            refine cV_V T hK hP hS 0 rfl rfl rfl (c_X8_seals l K o Nb B SS TT F lk (by omega) (by rw [hNb, uZ_ne (by omega), qa, offF_ne (by omega)]; omega)) iX8_seals mw_3_235 ⟨Nat.le_of_ble_eq_true rfl, Nat.le_of_ble_eq_true rfl⟩ hP (fun _ h => h) rfl hl.1 rfl (Nat.le_of_ble_eq_true rfl) ⟨Nat.zero_le _, Nat.zero_le _⟩ dX8_brings_90 (fun Nc H1 locs qc hP1 hg1 hg2 hS => ?_)
            have hP : xP K (mW K o Nc B SS TT F) H1 := hP1
            generalize H1 = H at hP hS ⊢
            clear hg1 hg2 hP1
            refine lv_aload_n T.1 T.2.1 dX8_brings_93 rfl (lv_at hl 1 rfl) ?_
            refine lv_iload_n T.1 T.2.1 dX8_brings_94 rfl (lv_at hl 3 rfl) ?_
            refine lv_iload_n T.1 T.2.1 dX8_brings_95 rfl (lv_at hl 4 rfl) ?_
            refine xv_iconst T dX8_brings_96 ?_
            refine cI_V T hK hP hS 0 rfl rfl rfl (c_X8_releases l K o Nc B SS TT F gd un 1 (by omega) (by omega) (by omega) (by rw [qc, hNb, qa, sealsF_rest (inR_has (offF_R hR (by omega) (by omega)) (by omega)) (by omega), rest_has gd (by omega) (by rw [offF_ne (by omega)]; omega), offF_rest hR (by omega) (by omega)]; omega) (by rw [qc, hNb, qa]; exact sealsF_R (inR_has (offF_R hR (by omega) (by omega)) (by omega)) (by omega) (by rw [uZ_ne (by omega), offF_ne (by omega)]; omega))) iX8_releases mw_4_84 ⟨Nat.le_of_ble_eq_true rfl, Nat.le_of_ble_eq_true rfl⟩ hP (fun _ h => h) rfl hl.1 rfl (Nat.le_of_ble_eq_true rfl) ⟨Nat.zero_le _, Nat.zero_le _⟩ dX8_brings_97 (fun bvz Nz H1 locs qzz hP1 hg1 hg2 hS => ?_)
            have hP : xP K (mW K o Nz B SS TT F) H1 := hP1
            generalize H1 = H at hP hS ⊢
            clear hg1 hg2 hP1
            obtain ⟨hvz, hNz⟩ := qzz
            subst hvz
            exact rI T (u := Nz) hr hk hK hP hS dX8_brings_100 (by subst hNz qc hNb qa; unfold sBring; (repeat' split) <;> first | (exfalso; omega) | rfl)
          · skip
            refine xv_if_ne T (by omega) (tgt := 71) dX8_brings_65 (by decide) (fun c14 => absurd c14 (by omega)) (fun _ => ?_)
            refine xv_bipush T dX8_brings_68 (by omega) ?_
            exact rI T (u := N) hr hk hK hP hS dX8_brings_70 (by skip; unfold sBring; (repeat' split) <;> first | (exfalso; omega) | rfl)
        · skip
          refine xv_bipush T dX8_brings_57 (by omega) ?_
          exact rI T (u := N) hr hk hK hP hS dX8_brings_59 (by skip; unfold sBring; (repeat' split) <;> first | (exfalso; omega) | rfl)
  · skip
    refine xv_if_ne T (by omega) (tgt := 12) dX8_brings_7 (by decide) (fun c15 => absurd c15 (by omega)) (fun _ => ?_)
    refine xv_iconst T dX8_brings_10 ?_
    exact rI T (u := N) hr hk hK hP hS dX8_brings_11 (by skip; unfold sBring; (repeat' split) <;> first | (exfalso; omega) | rfl)
set_option maxHeartbeats 4000000 in
set_option maxRecDepth 100000 in
theorem c_X8_smashes (l : Launch) (K : KT) (o : Nat) (N B SS TT F : Int → Int) (lk gd un wt : Int) (r_lk : -2147483648 ≤ lk ∧ lk ≤ 2147483647) (r_gd : -2147483648 ≤ gd ∧ gd ≤ 2147483647) (r_un : -2147483648 ≤ un ∧ un ≤ 2147483647) (r_wt : -2147483648 ≤ wt ∧ wt ≤ 2147483647) (hI : Inv N) : CtI l yX8_smashes cX8_smashes 6 .int 3 66 K [.ref o, .int (iI lk), .int (iI gd), .int (iI un), .int (iI wt)] (mW K o N B SS TT F) (Blk o 5) (fun (z : Int) (u : Int → Int) => (z, u) = sSmash N lk gd un wt) (fun u => mW K o u B SS TT F) := by
  refine CtI_of (by decide) (Nat.le_of_ble_eq_true rfl) ?_
  intro p e s m args below meth c T hr hk hP hK ls hl
  have T : CF p m c cX8_smashes 6 s args RX8 := T
  have hS : va_S (Blk o 5) s.heap s.heap [] := va_S.rf
  have hl : lv_has ls 6 [(0, .ref o), (1, .int (iI lk)), (2, .int (iI gd)), (3, .int (iI un)), (4, .int (iI wt))] := hl
  obtain ⟨hI0, hIL, hIH, hIB, hID, hIC, hIG, hIZ, hIF⟩ := id hI
  have hR : InR N := ⟨hI0, hIB⟩
  obtain ⟨b0, b1, b2, b3, b4, b5, b6, b7, b8, b9⟩ := id hI0
  refine lv_aload_n T.1 T.2.1 dX8_smashes_0 rfl (lv_at hl 0 rfl) ?_
  refine lv_iload_n T.1 T.2.1 dX8_smashes_1 rfl (lv_at hl 1 rfl) ?_
  refine lv_iload_n T.1 T.2.1 dX8_smashes_2 rfl (lv_at hl 2 rfl) ?_
  refine lv_iload_n T.1 T.2.1 dX8_smashes_3 rfl (lv_at hl 3 rfl) ?_
  refine cI_V T hK hP hS 0 rfl rfl rfl (c_X8_isMove l K o N B SS TT F lk gd un (by omega) (by omega) (by omega) hI) iX8_isMove mw_4_34 ⟨Nat.le_of_ble_eq_true rfl, Nat.le_of_ble_eq_true rfl⟩ hP noA rfl hl.1 rfl (Nat.le_of_ble_eq_true rfl) ⟨Nat.zero_le _, Nat.zero_le _⟩ dX8_smashes_4 (fun z1 _ H1 locs q2 hP1 hg1 hg2 hS => ?_)
  have hP := xP_kept hP hg2
  generalize H1 = H at hP hS ⊢
  clear hg1 hg2 hP1
  rcases q2 with ⟨rfl, q2⟩ | ⟨rfl, q2⟩
  · skip
    refine xv_if_eq T (by omega) (tgt := 21) dX8_smashes_7 (by decide) (fun c3 => absurd c3 (by omega)) (fun _ => ?_)
    refine lv_iload T.1 T.2.1 dX8_smashes_10 (lv_at hl 4 rfl) ?_
    refine xv_iconst T dX8_smashes_12 ?_
    refine xv_bipush T dX8_smashes_13 (by omega) ?_
    refine cI_S T hK hP hS (c_X8_in l K wt 0 9 (by omega) (by omega) (by omega)) iX8_in mw_4_15 ⟨Nat.le_of_ble_eq_true rfl, Nat.le_of_ble_eq_true rfl⟩ xP_nil noA rfl hl.1 rfl (Nat.le_of_ble_eq_true rfl) ⟨Nat.zero_le _, Nat.zero_le _⟩ dX8_smashes_15 (fun z4 _ H1 locs q5 hP1 hg1 hg2 hS => ?_)
    have hP := xP_kept hP hg2
    generalize H1 = H at hP hS ⊢
    clear hg1 hg2 hP1
    rcases q5 with ⟨rfl, q5⟩ | ⟨rfl, q5⟩
    · skip
      refine xv_if_ne T (by omega) (tgt := 23) dX8_smashes_18 (by decide) (fun _ => ?_) (fun c6 => absurd c6 (by omega))
      refine xv_bipush T dX8_smashes_23 (by omega) ?_
      refine lv_iload_n T.1 T.2.1 dX8_smashes_25 rfl (lv_at hl 1 rfl) ?_
      refine xv_imul T dX8_smashes_26 ?_
      refine lv_iload_n T.1 T.2.1 dX8_smashes_27 rfl (lv_at hl 2 rfl) ?_
      refine xv_iadd T dX8_smashes_28 ?_
      refine lv_istore (lv' := [(5, .int (iI (8 * lk + gd))), (0, .ref o), (1, .int (iI lk)), (2, .int (iI gd)), (3, .int (iI un)), (4, .int (iI wt))]) T.1 T.2.1 dX8_smashes_29 hl (by decide) rfl (fun ls hl => ?_)
      refine lv_aload_n T.1 T.2.1 dX8_smashes_31 rfl (lv_at hl 1 rfl) ?_
      refine g8_now T hK hP 0 rfl rfl mw_3_175 dX8_smashes_32 ?_
      refine xv_iconst T dX8_smashes_35 ?_
      refine xa_iald T hK hP 1 rfl rfl 0 (by omega) (by omega) (by decide) dX8_smashes_36 ?_
      refine xv_if_ne T (by omega) (tgt := 54) dX8_smashes_37 (by decide) (fun c7 => ?_) (fun c7 => ?_)
      · skip
        refine xv_bipush T dX8_smashes_54 (by omega) ?_
        exact rI T (u := N) hr hk hK hP hS dX8_smashes_56 (by skip; unfold sSmash; (repeat' split) <;> first | (exfalso; omega) | rfl)
      · skip
        refine lv_aload_n T.1 T.2.1 dX8_smashes_40 rfl (lv_at hl 1 rfl) ?_
        refine g8_now T hK hP 0 rfl rfl mw_3_175 dX8_smashes_41 ?_
        refine xv_bipush T dX8_smashes_44 (by omega) ?_
        refine lv_iload T.1 T.2.1 dX8_smashes_46 (lv_at hl 0 rfl) ?_
        refine xv_iadd T dX8_smashes_48 ?_
        refine xa_iald T hK hP 1 rfl rfl (24 + 8 * lk + gd) (by omega) (by omega) (by decide) dX8_smashes_49 ?_
        have f8 := hIH lk gd (by omega) (by omega) (by omega) (by omega)
        refine lv_iload_n T.1 T.2.1 dX8_smashes_50 rfl (lv_at hl 4 rfl) ?_
        refine xv_icmp_ge T (by omega) (tgt := 57) dX8_smashes_51 (by decide) (fun c9 => ?_) (fun c9 => ?_)
        · skip
          refine lv_aload_n T.1 T.2.1 dX8_smashes_57 rfl (lv_at hl 1 rfl) ?_
          refine g8_now T hK hP 0 rfl rfl mw_3_175 dX8_smashes_58 ?_
          refine xv_bipush T dX8_smashes_61 (by omega) ?_
          refine lv_iload T.1 T.2.1 dX8_smashes_63 (lv_at hl 0 rfl) ?_
          refine xv_iadd T dX8_smashes_65 ?_
          refine lv_dup2_11 T.1 T.2.1 dX8_smashes_66 rfl rfl ?_
          refine xa_iald T hK hP 1 rfl rfl (24 + 8 * lk + gd) (by omega) (by omega) (by decide) dX8_smashes_67 ?_
          refine lv_iload_n T.1 T.2.1 dX8_smashes_68 rfl (lv_at hl 4 rfl) ?_
          refine xv_isub T dX8_smashes_69 ?_
          refine xa_iast T hK hP (m_D K o N B SS TT F) hS 1 rfl rfl (by omega) (by decide) dX8_smashes_70 (mu_N K o N B SS TT F (N (24 + 8 * lk + gd) - un) (by omega)) (fun H locs hP hS => ?_)
          obtain ⟨N10, hN10⟩ : ∃ Y0 : Int → Int, Y0 = uZ N (24 + (8 * lk + gd)) (N (24 + 8 * lk + gd) - un) := ⟨_, rfl⟩
          have hP : xP K (mW K o N10 B SS TT F) H := by rw [hN10]; exact hP
          rw [show 24 + (8 * lk + gd) = 24 + 8 * lk + gd by omega] at hN10
          have hrs := has_rest hI (l := lk) (g := gd) (by omega) (by omega)
          refine lv_iload T.1 T.2.1 dX8_smashes_71 (lv_at hl 5 rfl) ?_
          refine xv_if_le T (by omega) (tgt := 84) dX8_smashes_73 (by decide) (fun c11 => ?_) (fun c11 => ?_)
          · skip
            refine lv_aload_n T.1 T.2.1 dX8_smashes_84 rfl (lv_at hl 1 rfl) ?_
            refine g8_now T hK hP 0 rfl rfl mw_3_175 dX8_smashes_85 ?_
            refine xv_bipush T dX8_smashes_88 (by omega) ?_
            refine lv_iload T.1 T.2.1 dX8_smashes_90 (lv_at hl 0 rfl) ?_
            refine xv_iadd T dX8_smashes_92 ?_
            refine lv_dup2_11 T.1 T.2.1 dX8_smashes_93 rfl rfl ?_
            refine xa_iald T hK hP 1 rfl rfl (64 + 8 * lk + gd) (by omega) (by omega) (by decide) dX8_smashes_94 ?_
            refine xv_cv (b := N (64 + 8 * lk + gd)) (by rw [hN10, uZ_ne (by omega)]) ?_
            refine lv_iload_n T.1 T.2.1 dX8_smashes_95 rfl (lv_at hl 4 rfl) ?_
            refine xv_iadd T dX8_smashes_96 ?_
            refine xa_iast T hK hP (m_D K o N10 B SS TT F) hS 1 rfl rfl (by omega) (by decide) dX8_smashes_97 (mu_N K o N10 B SS TT F (N (64 + 8 * lk + gd) + un) (by omega)) (fun H locs hP hS => ?_)
            obtain ⟨N12, hN12⟩ : ∃ Y0 : Int → Int, Y0 = uZ N10 (64 + (8 * lk + gd)) (N (64 + 8 * lk + gd) + un) := ⟨_, rfl⟩
            have hP : xP K (mW K o N12 B SS TT F) H := by rw [hN12]; exact hP
            rw [show 64 + (8 * lk + gd) = 64 + 8 * lk + gd by omega] at hN12
            refine xv_iconst T dX8_smashes_98 ?_
            exact rI T (u := N12) hr hk hK hP hS dX8_smashes_99 (by subst hN12 hN10; unfold sSmash; (repeat' split) <;> first | (exfalso; omega) | rfl)
          · skip
            refine lv_aload_n T.1 T.2.1 dX8_smashes_76 rfl (lv_at hl 1 rfl) ?_
            refine lv_iload_n T.1 T.2.1 dX8_smashes_77 rfl (lv_at hl 3 rfl) ?_
            refine lv_iload_n T.1 T.2.1 dX8_smashes_78 rfl (lv_at hl 4 rfl) ?_
            refine xv_iconst T dX8_smashes_79 ?_
            refine cI_V T hK hP hS 0 rfl rfl rfl (c_X8_releases l K o N10 B SS TT F gd un 2 (by omega) (by omega) (by omega) (by rw [hN10, rest_has gd (by omega) (by omega)]; omega) (by rw [hN10]; exact inR_has hR (by omega))) iX8_releases mw_4_84 ⟨Nat.le_of_ble_eq_true rfl, Nat.le_of_ble_eq_true rfl⟩ hP (fun _ h => h) rfl hl.1 rfl (Nat.le_of_ble_eq_true rfl) ⟨Nat.zero_le _, Nat.zero_le _⟩ dX8_smashes_80 (fun bvz Nz H1 locs qzz hP1 hg1 hg2 hS => ?_)
            have hP : xP K (mW K o Nz B SS TT F) H1 := hP1
            generalize H1 = H at hP hS ⊢
            clear hg1 hg2 hP1
            obtain ⟨hvz, hNz⟩ := qzz
            subst hvz
            exact rI T (u := Nz) hr hk hK hP hS dX8_smashes_83 (by subst hNz hN10; unfold sSmash; (repeat' split) <;> first | (exfalso; omega) | rfl)
        · skip
          refine xv_bipush T dX8_smashes_54 (by omega) ?_
          exact rI T (u := N) hr hk hK hP hS dX8_smashes_56 (by skip; unfold sSmash; (repeat' split) <;> first | (exfalso; omega) | rfl)
    · skip
      refine xv_if_ne T (by omega) (tgt := 23) dX8_smashes_18 (by decide) (fun c13 => absurd c13 (by omega)) (fun _ => ?_)
      refine xv_iconst T dX8_smashes_21 ?_
      exact rI T (u := N) hr hk hK hP hS dX8_smashes_22 (by skip; unfold sSmash; (repeat' split) <;> first | (exfalso; omega) | rfl)
  · skip
    refine xv_if_eq T (by omega) (tgt := 21) dX8_smashes_7 (by decide) (fun _ => ?_) (fun c14 => absurd c14 (by omega))
    refine xv_iconst T dX8_smashes_21 ?_
    exact rI T (u := N) hr hk hK hP hS dX8_smashes_22 (by skip; unfold sSmash; (repeat' split) <;> first | (exfalso; omega) | rfl)
set_option maxHeartbeats 4000000 in
set_option maxRecDepth 100000 in
theorem c_X8_tears (l : Launch) (K : KT) (o : Nat) (N B SS TT F : Int → Int) (lk : Int) (r_lk : -2147483648 ≤ lk ∧ lk ≤ 2147483647) (hI : Inv N) : CtI l yX8_tears cX8_tears 2 .int 2 43 K [.ref o, .int (iI lk)] (mW K o N B SS TT F) (Blk o 5) (fun (z : Int) (u : Int → Int) => (z, u) = sTear N lk) (fun u => mW K o u B SS TT F) := by
  refine CtI_of (by decide) (Nat.le_of_ble_eq_true rfl) ?_
  intro p e s m args below meth c T hr hk hP hK ls hl
  have T : CF p m c cX8_tears 2 s args RX8 := T
  have hS : va_S (Blk o 5) s.heap s.heap [] := va_S.rf
  have hl : lv_has ls 2 [(0, .ref o), (1, .int (iI lk))] := hl
  obtain ⟨hI0, hIL, hIH, hIB, hID, hIC, hIG, hIZ, hIF⟩ := id hI
  have hR : InR N := ⟨hI0, hIB⟩
  obtain ⟨b0, b1, b2, b3, b4, b5, b6, b7, b8, b9⟩ := id hI0
  refine lv_aload_n T.1 T.2.1 dX8_tears_0 rfl (lv_at hl 0 rfl) ?_
  refine lv_iload_n T.1 T.2.1 dX8_tears_1 rfl (lv_at hl 1 rfl) ?_
  refine cI_V T hK hP hS 0 rfl rfl rfl (c_X8_isLocker l K o N B SS TT F lk (by omega) hI) iX8_isLocker mw_4_38 ⟨Nat.le_of_ble_eq_true rfl, Nat.le_of_ble_eq_true rfl⟩ hP noA rfl hl.1 rfl (Nat.le_of_ble_eq_true rfl) ⟨Nat.zero_le _, Nat.zero_le _⟩ dX8_tears_2 (fun z1 _ H1 locs q2 hP1 hg1 hg2 hS => ?_)
  have hP := xP_kept hP hg2
  generalize H1 = H at hP hS ⊢
  clear hg1 hg2 hP1
  rcases q2 with ⟨rfl, q2⟩ | ⟨rfl, q2⟩
  · skip
    refine xv_if_ne T (by omega) (tgt := 10) dX8_tears_5 (by decide) (fun _ => ?_) (fun c3 => absurd c3 (by omega))
    refine lv_aload_n T.1 T.2.1 dX8_tears_10 rfl (lv_at hl 0 rfl) ?_
    refine g8_now T hK hP 0 rfl rfl mw_3_175 dX8_tears_11 ?_
    refine xv_bipush T dX8_tears_14 (by omega) ?_
    refine lv_iload_n T.1 T.2.1 dX8_tears_16 rfl (lv_at hl 1 rfl) ?_
    refine xv_iadd T dX8_tears_17 ?_
    refine xa_iald T hK hP 1 rfl rfl (14 + lk) (by omega) (by omega) (by decide) dX8_tears_18 ?_
    have f4 := hIL lk (by omega) (by omega)
    refine xv_iconst T dX8_tears_19 ?_
    refine xv_icmp_eq T (by omega) (tgt := 26) dX8_tears_20 (by decide) (fun c5 => ?_) (fun c5 => ?_)
    · skip
      refine lv_aload_n T.1 T.2.1 dX8_tears_26 rfl (lv_at hl 0 rfl) ?_
      refine g8_now T hK hP 0 rfl rfl mw_3_175 dX8_tears_27 ?_
      refine xv_bipush T dX8_tears_30 (by omega) ?_
      refine lv_iload_n T.1 T.2.1 dX8_tears_32 rfl (lv_at hl 1 rfl) ?_
      refine xv_iadd T dX8_tears_33 ?_
      refine xv_iconst T dX8_tears_34 ?_
      refine xa_iast T hK hP (m_D K o N B SS TT F) hS 1 rfl rfl (by omega) (by decide) dX8_tears_35 (mu_N K o N B SS TT F 2 (by omega)) (fun H locs hP hS => ?_)
      obtain ⟨N6, hN6⟩ : ∃ Y0 : Int → Int, Y0 = uZ N (14 + lk) 2 := ⟨_, rfl⟩
      have hP : xP K (mW K o N6 B SS TT F) H := by rw [hN6]; exact hP
      refine lv_aload_n T.1 T.2.1 dX8_tears_36 rfl (lv_at hl 0 rfl) ?_
      refine g8_now T hK hP 0 rfl rfl mw_3_175 dX8_tears_37 ?_
      refine xv_sipush T dX8_tears_40 (by omega) ?_
      refine lv_aload_n T.1 T.2.1 dX8_tears_43 rfl (lv_at hl 0 rfl) ?_
      refine g8_now T hK hP 0 rfl rfl mw_3_175 dX8_tears_44 ?_
      refine xv_bipush T dX8_tears_47 (by omega) ?_
      refine lv_iload_n T.1 T.2.1 dX8_tears_49 rfl (lv_at hl 1 rfl) ?_
      refine xv_iadd T dX8_tears_50 ?_
      refine xa_iald T hK hP 1 rfl rfl (19 + lk) (by omega) (by omega) (by decide) dX8_tears_51 ?_
      refine xv_cv (b := N (19 + lk)) (by rw [hN6, uZ_ne (by omega)]) ?_
      refine xv_iadd T dX8_tears_52 ?_
      refine xv_iconst T dX8_tears_53 ?_
      refine xa_iast T hK hP (m_D K o N6 B SS TT F) hS 1 rfl rfl (by omega) (by decide) dX8_tears_54 (mu_N K o N6 B SS TT F 3 (by omega)) (fun H locs hP hS => ?_)
      obtain ⟨N7, hN7⟩ : ∃ Y0 : Int → Int, Y0 = uZ N6 (854 + (N (19 + lk))) 3 := ⟨_, rfl⟩
      have hP : xP K (mW K o N7 B SS TT F) H := by rw [hN7]; exact hP
      rw [show 854 + (N (19 + lk)) = 854 + N (19 + lk) by omega] at hN7
      refine lv_aload_n T.1 T.2.1 dX8_tears_55 rfl (lv_at hl 0 rfl) ?_
      refine g8_now T hK hP 0 rfl rfl mw_3_175 dX8_tears_56 ?_
      refine xv_bipush T dX8_tears_59 (by omega) ?_
      refine lv_iload_n T.1 T.2.1 dX8_tears_61 rfl (lv_at hl 1 rfl) ?_
      refine xv_iadd T dX8_tears_62 ?_
      refine xa_iald T hK hP 1 rfl rfl (19 + lk) (by omega) (by omega) (by decide) dX8_tears_63 ?_
      refine xv_cv (b := N (19 + lk)) (by rw [hN7, uZ_ne (by omega), hN6, uZ_ne (by omega)]) ?_
      exact rI T (u := N7) hr hk hK hP hS dX8_tears_64 (by subst hN7 hN6; unfold sTear; (repeat' split) <;> first | (exfalso; omega) | rfl)
    · skip
      refine xv_bipush T dX8_tears_23 (by omega) ?_
      exact rI T (u := N) hr hk hK hP hS dX8_tears_25 (by skip; unfold sTear; (repeat' split) <;> first | (exfalso; omega) | rfl)
  · skip
    refine xv_if_ne T (by omega) (tgt := 10) dX8_tears_5 (by decide) (fun c8 => absurd c8 (by omega)) (fun _ => ?_)
    refine xv_iconst T dX8_tears_8 ?_
    exact rI T (u := N) hr hk hK hP hS dX8_tears_9 (by skip; unfold sTear; (repeat' split) <;> first | (exfalso; omega) | rfl)
