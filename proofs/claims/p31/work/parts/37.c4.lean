set_option maxHeartbeats 4000000 in
set_option maxRecDepth 100000 in
theorem c_X6_addLocker (l : Launch) (K : KT) (o : Nat) (N : Int → Int) (hI : Inv N) : CtI l yX6_addLocker cX6_addLocker 2 .int 2 43 K [.ref o] (shipW K o N) (Blk o 21) (fun (z : Int) (u : Int → Int) => (z, u) = sLocker N) (fun u => shipW K o u) := by
  refine CtI_of (by decide) (Nat.le_of_ble_eq_true rfl) ?_
  intro p e s m args below meth c T hr hk hP hK ls hl
  have T : CF p m c cX6_addLocker 2 s args RX6 := T
  have hS : va_S (Blk o 21) s.heap s.heap [] := va_S.rf
  have hl : lv_has ls 2 [(0, .ref o)] := hl
  obtain ⟨hI0, hIL, hIH, hIB, hID, hIC, hIG, hIZ, hIF⟩ := id hI
  have hR : InR N := ⟨hI0, hIB⟩
  obtain ⟨b0, b1, b2, b3, b4, b5, b6, b7, b8, b9⟩ := id hI0
  refine lv_aload_n T.1 T.2.1 dX6_addLocker_0 rfl (lv_at hl 0 rfl) ?_
  refine g6_zone T hK hP 0 rfl (v := .int (iI (N 0))) rfl mw_1_142 dX6_addLocker_1 ?_
  refine xv_iconst T dX6_addLocker_4 ?_
  refine xv_icmp_eq T (by omega) (tgt := 11) dX6_addLocker_5 (by decide) (fun c1 => ?_) (fun c1 => ?_)
  · skip
    refine lv_aload_n T.1 T.2.1 dX6_addLocker_11 rfl (lv_at hl 0 rfl) ?_
    refine g6_lockers T hK hP 0 rfl rfl mw_1_151 dX6_addLocker_12 ?_
    refine g2_number T hK hP 3 rfl (v := .int (iI (N 4))) rfl mw_1_32 dX6_addLocker_15 ?_
    refine xv_iconst T dX6_addLocker_18 ?_
    refine xv_icmp_ge T (by omega) (tgt := 33) dX6_addLocker_19 (by decide) (fun c2 => ?_) (fun c2 => ?_)
    · skip
      refine xv_bipush T dX6_addLocker_33 (by omega) ?_
      exact rI T (u := N) hr hk hK hP hS dX6_addLocker_35 (by skip; unfold sLocker; (repeat' split) <;> first | (exfalso; omega) | rfl)
    · skip
      refine lv_aload_n T.1 T.2.1 dX6_addLocker_22 rfl (lv_at hl 0 rfl) ?_
      refine g6_seals T hK hP 0 rfl rfl mw_1_153 dX6_addLocker_23 ?_
      refine cI_V T hK hP hS 8 rfl rfl rfl (c_X5_left l K o N (by omega)) iX5_left mw_2_53 ⟨Nat.le_of_ble_eq_true rfl, Nat.le_of_ble_eq_true rfl⟩ hP noA rfl hl.1 rfl (Nat.le_of_ble_eq_true rfl) ⟨Nat.zero_le _, Nat.zero_le _⟩ dX6_addLocker_26 (fun z3 _ H1 locs q4 hP1 hg1 hg2 hS => ?_)
      have hP := xP_kept hP hg2
      generalize H1 = H at hP hS ⊢
      clear hg1 hg2 hP1
      obtain rfl : z3 = 200 - N 7 := q4
      refine xv_iconst T dX6_addLocker_29 ?_
      refine xv_icmp_ge T (by omega) (tgt := 36) dX6_addLocker_30 (by decide) (fun c5 => ?_) (fun c5 => ?_)
      · skip
        refine lv_aload_n T.1 T.2.1 dX6_addLocker_36 rfl (lv_at hl 0 rfl) ?_
        refine g6_lockers T hK hP 0 rfl rfl mw_1_151 dX6_addLocker_37 ?_
        refine g2_number T hK hP 3 rfl (v := .int (iI (N 4))) rfl mw_1_32 dX6_addLocker_40 ?_
        refine lv_istore_n (lv' := [(1, .int (iI (N 4))), (0, .ref o)]) T.1 T.2.1 dX6_addLocker_43 rfl hl (by decide) rfl (fun ls hl => ?_)
        refine lv_aload_n T.1 T.2.1 dX6_addLocker_44 rfl (lv_at hl 1 rfl) ?_
        refine g6_lockers T hK hP 0 rfl rfl mw_1_151 dX6_addLocker_45 ?_
        refine lv_dup T.1 T.2.1 dX6_addLocker_48 rfl ?_
        refine g2_number T hK hP 3 rfl (v := .int (iI (N 4))) rfl mw_1_32 dX6_addLocker_49 ?_
        refine xv_iconst T dX6_addLocker_52 ?_
        refine xv_iadd T dX6_addLocker_53 ?_
        refine p2_number T hK hP (ship_D K o N) hS 3 rfl (Nat.le_of_ble_eq_true rfl) mw_1_32 dX6_addLocker_54 (su_f4 K o N (N 4 + 1)) (fun H locs hP hS => ?_)
        obtain ⟨Na, hNa⟩ : ∃ Y0 : Int → Int, Y0 = uZ N 4 (N 4 + 1) := ⟨_, rfl⟩
        have hP : xP K (shipW K o Na) H := by rw [hNa]; exact hP
        refine lv_aload_n T.1 T.2.1 dX6_addLocker_57 rfl (lv_at hl 1 rfl) ?_
        refine lv_iload_n T.1 T.2.1 dX6_addLocker_58 rfl (lv_at hl 0 rfl) ?_
        refine cV_V T hK hP hS 0 rfl rfl rfl (c_X6_putSeal l K o Na (N 4) (by omega) (by rw [hNa, uZ_ne (by omega)]; omega)) iX6_putSeal mw_2_57 ⟨Nat.le_of_ble_eq_true rfl, Nat.le_of_ble_eq_true rfl⟩ hP (fun _ h => h) rfl hl.1 rfl (Nat.le_of_ble_eq_true rfl) ⟨Nat.zero_le _, Nat.zero_le _⟩ dX6_addLocker_59 (fun Nb H1 locs qb hP1 hg1 hg2 hS => ?_)
        have hP : xP K (shipW K o Nb) H1 := hP1
        generalize H1 = H at hP hS ⊢
        clear hg1 hg2 hP1
        refine lv_iload_n T.1 T.2.1 dX6_addLocker_62 rfl (lv_at hl 0 rfl) ?_
        exact rI T (u := Nb) hr hk hK hP hS dX6_addLocker_63 (by rw [qb, hNa, ← bring_eq (by omega) (Or.inl (by omega)) (by omega)]; unfold sLocker; rw [if_neg (by omega), if_neg (by omega)])
      · skip
        refine xv_bipush T dX6_addLocker_33 (by omega) ?_
        exact rI T (u := N) hr hk hK hP hS dX6_addLocker_35 (by skip; unfold sLocker; (repeat' split) <;> first | (exfalso; omega) | rfl)
  · skip
    refine xv_bipush T dX6_addLocker_8 (by omega) ?_
    exact rI T (u := N) hr hk hK hP hS dX6_addLocker_10 (by skip; unfold sLocker; (repeat' split) <;> first | (exfalso; omega) | rfl)
set_option maxHeartbeats 4000000 in
set_option maxRecDepth 100000 in
theorem c_X6_addGood (l : Launch) (K : KT) (o : Nat) (N : Int → Int) (dt : Int) (r_dt : -2147483648 ≤ dt ∧ dt ≤ 2147483647) (hI : Inv N) : CtI l yX6_addGood cX6_addGood 2 .int 1 21 K [.ref o, .int (iI dt)] (shipW K o N) (Blk o 21) (fun (z : Int) (u : Int → Int) => (z, u) = sGood N dt) (fun u => shipW K o u) := by
  refine CtI_of (by decide) (Nat.le_of_ble_eq_true rfl) ?_
  intro p e s m args below meth c T hr hk hP hK ls hl
  have T : CF p m c cX6_addGood 2 s args RX6 := T
  have hS : va_S (Blk o 21) s.heap s.heap [] := va_S.rf
  have hl : lv_has ls 2 [(0, .ref o), (1, .int (iI dt))] := hl
  obtain ⟨hI0, hIL, hIH, hIB, hID, hIC, hIG, hIZ, hIF⟩ := id hI
  have hR : InR N := ⟨hI0, hIB⟩
  obtain ⟨b0, b1, b2, b3, b4, b5, b6, b7, b8, b9⟩ := id hI0
  refine lv_aload_n T.1 T.2.1 dX6_addGood_0 rfl (lv_at hl 0 rfl) ?_
  refine lv_iload_n T.1 T.2.1 dX6_addGood_1 rfl (lv_at hl 1 rfl) ?_
  refine cI_V T hK hP hS 0 rfl rfl rfl (c_X6_isDuty l K o N dt (by omega)) iX6_isDuty mw_2_80 ⟨Nat.le_of_ble_eq_true rfl, Nat.le_of_ble_eq_true rfl⟩ hP noA rfl hl.1 rfl (Nat.le_of_ble_eq_true rfl) ⟨Nat.zero_le _, Nat.zero_le _⟩ dX6_addGood_2 (fun z1 _ H1 locs q2 hP1 hg1 hg2 hS => ?_)
  have hP := xP_kept hP hg2
  generalize H1 = H at hP hS ⊢
  clear hg1 hg2 hP1
  rcases q2 with ⟨rfl, q2⟩ | ⟨rfl, q2⟩
  · skip
    refine xv_if_ne T (by omega) (tgt := 10) dX6_addGood_5 (by decide) (fun _ => ?_) (fun c3 => absurd c3 (by omega))
    refine lv_aload_n T.1 T.2.1 dX6_addGood_10 rfl (lv_at hl 0 rfl) ?_
    refine g6_goods T hK hP 0 rfl (v := .int (iI (N 5))) rfl mw_1_146 dX6_addGood_11 ?_
    refine xv_bipush T dX6_addGood_14 (by omega) ?_
    refine xv_icmp_lt T (by omega) (tgt := 22) dX6_addGood_16 (by decide) (fun c4 => ?_) (fun c4 => ?_)
    · skip
      refine lv_aload_n T.1 T.2.1 dX6_addGood_22 rfl (lv_at hl 0 rfl) ?_
      refine g6_duties T hK hP 0 rfl rfl mw_1_148 dX6_addGood_23 ?_
      refine lv_aload_n T.1 T.2.1 dX6_addGood_26 rfl (lv_at hl 0 rfl) ?_
      refine g6_goods T hK hP 0 rfl (v := .int (iI (N 5))) rfl mw_1_146 dX6_addGood_27 ?_
      refine lv_iload_n T.1 T.2.1 dX6_addGood_30 rfl (lv_at hl 1 rfl) ?_
      refine xa_iast T hK hP (ship_D K o N) hS 1 rfl rfl (by omega) (by decide) dX6_addGood_31 (su_a104 K o N (i := 104 + N 5) dt (by omega) (by omega)) (fun H locs hP hS => ?_)
      obtain ⟨N5, hN5⟩ : ∃ Y0 : Int → Int, Y0 = uZ N (104 + N 5) dt := ⟨_, rfl⟩
      have hP : xP K (shipW K o N5) H := by rw [hN5]; exact hP
      refine lv_aload_n T.1 T.2.1 dX6_addGood_32 rfl (lv_at hl 0 rfl) ?_
      refine lv_dup T.1 T.2.1 dX6_addGood_33 rfl ?_
      refine g6_goods T hK hP 0 rfl (v := .int (iI (N5 5))) rfl mw_1_146 dX6_addGood_34 ?_
      refine xv_cv (b := N 5) (by rw [hN5, uZ_ne (by omega)]) ?_
      refine xv_iconst T dX6_addGood_37 ?_
      refine xv_iadd T dX6_addGood_38 ?_
      refine p6_goods T hK hP (ship_D K o N5) hS 0 rfl (Nat.le_of_ble_eq_true rfl) mw_1_146 dX6_addGood_39 (su_f5 K o N5 (N 5 + 1)) (fun H locs hP hS => ?_)
      obtain ⟨N6, hN6⟩ : ∃ Y0 : Int → Int, Y0 = uZ N5 5 (N 5 + 1) := ⟨_, rfl⟩
      have hP : xP K (shipW K o N6) H := by rw [hN6]; exact hP
      refine lv_aload_n T.1 T.2.1 dX6_addGood_42 rfl (lv_at hl 0 rfl) ?_
      refine g6_goods T hK hP 0 rfl (v := .int (iI (N6 5))) rfl mw_1_146 dX6_addGood_43 ?_
      refine xv_cv (b := N 5 + 1) (by rw [hN6, uZ_eq]) ?_
      refine xv_iconst T dX6_addGood_46 ?_
      refine xv_isub T dX6_addGood_47 ?_
      exact rI T (u := N6) hr hk hK hP hS dX6_addGood_48 (by subst hN6 hN5; unfold sGood; (repeat' split) <;> first | (exfalso; omega) | rfl | (rw [Int.add_sub_cancel]))
    · skip
      refine xv_bipush T dX6_addGood_19 (by omega) ?_
      exact rI T (u := N) hr hk hK hP hS dX6_addGood_21 (by skip; unfold sGood; (repeat' split) <;> first | (exfalso; omega) | rfl | (rw [Int.add_sub_cancel]))
  · skip
    refine xv_if_ne T (by omega) (tgt := 10) dX6_addGood_5 (by decide) (fun c7 => absurd c7 (by omega)) (fun _ => ?_)
    refine xv_iconst T dX6_addGood_8 ?_
    exact rI T (u := N) hr hk hK hP hS dX6_addGood_9 (by skip; unfold sGood; (repeat' split) <;> first | (exfalso; omega) | rfl | (rw [Int.add_sub_cancel]))
set_option maxHeartbeats 4000000 in
set_option maxRecDepth 100000 in
theorem c_X6_changeDuty (l : Launch) (K : KT) (o : Nat) (N : Int → Int) (gd dt : Int) (r_gd : -2147483648 ≤ gd ∧ gd ≤ 2147483647) (r_dt : -2147483648 ≤ dt ∧ dt ≤ 2147483647) (hI : Inv N) : CtI l yX6_changeDuty cX6_changeDuty 4 .int 1 21 K [.ref o, .int (iI gd), .int (iI dt)] (shipW K o N) (Blk o 21) (fun (z : Int) (u : Int → Int) => (z, u) = sDuty N gd dt) (fun u => shipW K o u) := by
  refine CtI_of (by decide) (Nat.le_of_ble_eq_true rfl) ?_
  intro p e s m args below meth c T hr hk hP hK ls hl
  have T : CF p m c cX6_changeDuty 4 s args RX6 := T
  have hS : va_S (Blk o 21) s.heap s.heap [] := va_S.rf
  have hl : lv_has ls 4 [(0, .ref o), (1, .int (iI gd)), (2, .int (iI dt))] := hl
  obtain ⟨hI0, hIL, hIH, hIB, hID, hIC, hIG, hIZ, hIF⟩ := id hI
  have hR : InR N := ⟨hI0, hIB⟩
  obtain ⟨b0, b1, b2, b3, b4, b5, b6, b7, b8, b9⟩ := id hI0
  refine lv_aload_n T.1 T.2.1 dX6_changeDuty_0 rfl (lv_at hl 0 rfl) ?_
  refine lv_iload_n T.1 T.2.1 dX6_changeDuty_1 rfl (lv_at hl 1 rfl) ?_
  refine cI_V T hK hP hS 0 rfl rfl rfl (c_X6_hasGood l K o N gd (by omega) (by omega)) iX6_hasGood mw_2_101 ⟨Nat.le_of_ble_eq_true rfl, Nat.le_of_ble_eq_true rfl⟩ hP noA rfl hl.1 rfl (Nat.le_of_ble_eq_true rfl) ⟨Nat.zero_le _, Nat.zero_le _⟩ dX6_changeDuty_2 (fun z1 _ H1 locs q2 hP1 hg1 hg2 hS => ?_)
  have hP := xP_kept hP hg2
  generalize H1 = H at hP hS ⊢
  clear hg1 hg2 hP1
  rcases q2 with ⟨rfl, q2⟩ | ⟨rfl, q2⟩
  · skip
    refine xv_if_eq T (by omega) (tgt := 16) dX6_changeDuty_5 (by decide) (fun c3 => absurd c3 (by omega)) (fun _ => ?_)
    refine lv_aload_n T.1 T.2.1 dX6_changeDuty_8 rfl (lv_at hl 0 rfl) ?_
    refine lv_iload_n T.1 T.2.1 dX6_changeDuty_9 rfl (lv_at hl 2 rfl) ?_
    refine cI_V T hK hP hS 0 rfl rfl rfl (c_X6_isDuty l K o N dt (by omega)) iX6_isDuty mw_2_80 ⟨Nat.le_of_ble_eq_true rfl, Nat.le_of_ble_eq_true rfl⟩ hP noA rfl hl.1 rfl (Nat.le_of_ble_eq_true rfl) ⟨Nat.zero_le _, Nat.zero_le _⟩ dX6_changeDuty_10 (fun z4 _ H1 locs q5 hP1 hg1 hg2 hS => ?_)
    have hP := xP_kept hP hg2
    generalize H1 = H at hP hS ⊢
    clear hg1 hg2 hP1
    rcases q5 with ⟨rfl, q5⟩ | ⟨rfl, q5⟩
    · skip
      refine xv_if_ne T (by omega) (tgt := 18) dX6_changeDuty_13 (by decide) (fun _ => ?_) (fun c6 => absurd c6 (by omega))
      refine lv_aload_n T.1 T.2.1 dX6_changeDuty_18 rfl (lv_at hl 0 rfl) ?_
      refine g6_duties T hK hP 0 rfl rfl mw_1_148 dX6_changeDuty_19 ?_
      refine lv_iload_n T.1 T.2.1 dX6_changeDuty_22 rfl (lv_at hl 1 rfl) ?_
      refine xa_iald T hK hP 1 rfl rfl (104 + gd) (by omega) (by omega) (by decide) dX6_changeDuty_23 ?_
      have f7 := hID gd (by omega) (by omega)
      refine lv_istore_n (lv' := [(3, .int (iI (N (104 + gd)))), (0, .ref o), (1, .int (iI gd)), (2, .int (iI dt))]) T.1 T.2.1 dX6_changeDuty_24 rfl hl (by decide) rfl (fun ls hl => ?_)
      refine lv_aload_n T.1 T.2.1 dX6_changeDuty_25 rfl (lv_at hl 1 rfl) ?_
      refine g6_duties T hK hP 0 rfl rfl mw_1_148 dX6_changeDuty_26 ?_
      refine lv_iload_n T.1 T.2.1 dX6_changeDuty_29 rfl (lv_at hl 2 rfl) ?_
      refine lv_iload_n T.1 T.2.1 dX6_changeDuty_30 rfl (lv_at hl 3 rfl) ?_
      refine xa_iast T hK hP (ship_D K o N) hS 1 rfl rfl (by omega) (by decide) dX6_changeDuty_31 (su_a104 K o N (i := 104 + gd) dt (by omega) (by omega)) (fun H locs hP hS => ?_)
      obtain ⟨N8, hN8⟩ : ∃ Y0 : Int → Int, Y0 = uZ N (104 + gd) dt := ⟨_, rfl⟩
      have hP : xP K (shipW K o N8) H := by rw [hN8]; exact hP
      refine lv_iload_n T.1 T.2.1 dX6_changeDuty_32 rfl (lv_at hl 0 rfl) ?_
      exact rI T (u := N8) hr hk hK hP hS dX6_changeDuty_33 (by subst hN8; unfold sDuty; (repeat' split) <;> first | (exfalso; omega) | rfl)
    · skip
      refine xv_if_ne T (by omega) (tgt := 18) dX6_changeDuty_13 (by decide) (fun c9 => absurd c9 (by omega)) (fun _ => ?_)
      refine xv_iconst T dX6_changeDuty_16 ?_
      exact rI T (u := N) hr hk hK hP hS dX6_changeDuty_17 (by skip; unfold sDuty; (repeat' split) <;> first | (exfalso; omega) | rfl)
  · skip
    refine xv_if_eq T (by omega) (tgt := 16) dX6_changeDuty_5 (by decide) (fun _ => ?_) (fun c10 => absurd c10 (by omega))
    refine xv_iconst T dX6_changeDuty_16 ?_
    exact rI T (u := N) hr hk hK hP hS dX6_changeDuty_17 (by skip; unfold sDuty; (repeat' split) <;> first | (exfalso; omega) | rfl)
set_option maxHeartbeats 4000000 in
set_option maxRecDepth 100000 in
theorem c_X6_tearSeal (l : Launch) (K : KT) (o : Nat) (N : Int → Int) (lk : Int) (r_lk : -2147483648 ≤ lk ∧ lk ≤ 2147483647) (hI : Inv N) : CtI l yX6_tearSeal cX6_tearSeal 2 .int 1 22 K [.ref o, .int (iI lk)] (shipW K o N) (Blk o 21) (fun (z : Int) (u : Int → Int) => (z, u) = sTear N lk) (fun u => shipW K o u) := by
  refine CtI_of (by decide) (Nat.le_of_ble_eq_true rfl) ?_
  intro p e s m args below meth c T hr hk hP hK ls hl
  have T : CF p m c cX6_tearSeal 2 s args RX6 := T
  have hS : va_S (Blk o 21) s.heap s.heap [] := va_S.rf
  have hl : lv_has ls 2 [(0, .ref o), (1, .int (iI lk))] := hl
  obtain ⟨hI0, hIL, hIH, hIB, hID, hIC, hIG, hIZ, hIF⟩ := id hI
  have hR : InR N := ⟨hI0, hIB⟩
  obtain ⟨b0, b1, b2, b3, b4, b5, b6, b7, b8, b9⟩ := id hI0
  refine lv_aload_n T.1 T.2.1 dX6_tearSeal_0 rfl (lv_at hl 0 rfl) ?_
  refine lv_iload_n T.1 T.2.1 dX6_tearSeal_1 rfl (lv_at hl 1 rfl) ?_
  refine cI_V T hK hP hS 0 rfl rfl rfl (c_X6_hasLocker l K o N lk (by omega) (by omega)) iX6_hasLocker mw_2_97 ⟨Nat.le_of_ble_eq_true rfl, Nat.le_of_ble_eq_true rfl⟩ hP noA rfl hl.1 rfl (Nat.le_of_ble_eq_true rfl) ⟨Nat.zero_le _, Nat.zero_le _⟩ dX6_tearSeal_2 (fun z1 _ H1 locs q2 hP1 hg1 hg2 hS => ?_)
  have hP := xP_kept hP hg2
  generalize H1 = H at hP hS ⊢
  clear hg1 hg2 hP1
  rcases q2 with ⟨rfl, q2⟩ | ⟨rfl, q2⟩
  · skip
    refine xv_if_ne T (by omega) (tgt := 10) dX6_tearSeal_5 (by decide) (fun _ => ?_) (fun c3 => absurd c3 (by omega))
    refine lv_aload_n T.1 T.2.1 dX6_tearSeal_10 rfl (lv_at hl 0 rfl) ?_
    refine g6_lockers T hK hP 0 rfl rfl mw_1_151 dX6_tearSeal_11 ?_
    refine g2_state T hK hP 3 rfl rfl mw_1_36 dX6_tearSeal_14 ?_
    refine lv_iload_n T.1 T.2.1 dX6_tearSeal_17 rfl (lv_at hl 1 rfl) ?_
    refine xa_iald T hK hP 4 rfl rfl (14 + lk) (by omega) (by omega) (by decide) dX6_tearSeal_18 ?_
    have f4 := hIL lk (by omega) (by omega)
    refine xv_iconst T dX6_tearSeal_19 ?_
    refine xv_icmp_eq T (by omega) (tgt := 26) dX6_tearSeal_20 (by decide) (fun c5 => ?_) (fun c5 => ?_)
    · skip
      refine lv_aload_n T.1 T.2.1 dX6_tearSeal_26 rfl (lv_at hl 0 rfl) ?_
      refine g6_lockers T hK hP 0 rfl rfl mw_1_151 dX6_tearSeal_27 ?_
      refine g2_state T hK hP 3 rfl rfl mw_1_36 dX6_tearSeal_30 ?_
      refine lv_iload_n T.1 T.2.1 dX6_tearSeal_33 rfl (lv_at hl 1 rfl) ?_
      refine xv_iconst T dX6_tearSeal_34 ?_
      refine xa_iast T hK hP (ship_D K o N) hS 4 rfl rfl (by omega) (by decide) dX6_tearSeal_35 (su_a14 K o N (i := 14 + lk) 2 (by omega) (by omega)) (fun H locs hP hS => ?_)
      obtain ⟨N6, hN6⟩ : ∃ Y0 : Int → Int, Y0 = uZ N (14 + lk) 2 := ⟨_, rfl⟩
      have hP : xP K (shipW K o N6) H := by rw [hN6]; exact hP
      refine lv_aload_n T.1 T.2.1 dX6_tearSeal_36 rfl (lv_at hl 0 rfl) ?_
      refine g6_seals T hK hP 0 rfl rfl mw_1_153 dX6_tearSeal_37 ?_
      refine lv_aload_n T.1 T.2.1 dX6_tearSeal_40 rfl (lv_at hl 0 rfl) ?_
      refine g6_lockers T hK hP 0 rfl rfl mw_1_151 dX6_tearSeal_41 ?_
      refine g2_seal T hK hP 3 rfl rfl mw_1_39 dX6_tearSeal_44 ?_
      refine lv_iload_n T.1 T.2.1 dX6_tearSeal_47 rfl (lv_at hl 1 rfl) ?_
      refine xa_iald T hK hP 5 rfl rfl (19 + lk) (by omega) (by omega) (by decide) dX6_tearSeal_48 ?_
      refine xv_cv (b := N (19 + lk)) (by rw [hN6, uZ_ne (by omega)]) ?_
      refine xv_iconst T dX6_tearSeal_49 ?_
      refine cV_V T hK hP hS 8 rfl rfl rfl (c_X5_end l K o N6 (N (19 + lk)) 3 (by rw [hN6, uZ_ne (by omega)]; omega) (by rw [hN6, uZ_ne (by omega)]; omega)) iX5_end mw_2_115 ⟨Nat.le_of_ble_eq_true rfl, Nat.le_of_ble_eq_true rfl⟩ hP (fun _ h => h) rfl hl.1 rfl (Nat.le_of_ble_eq_true rfl) ⟨Nat.zero_le _, Nat.zero_le _⟩ dX6_tearSeal_50 (fun N9 H1 locs q8 hP1 hg1 hg2 hS => ?_)
      have hP : xP K (shipW K o N9) H1 := hP1
      generalize H1 = H at hP hS ⊢
      clear hg1 hg2 hP1
      refine lv_aload_n T.1 T.2.1 dX6_tearSeal_53 rfl (lv_at hl 0 rfl) ?_
      refine g6_lockers T hK hP 0 rfl rfl mw_1_151 dX6_tearSeal_54 ?_
      refine g2_seal T hK hP 3 rfl rfl mw_1_39 dX6_tearSeal_57 ?_
      refine lv_iload_n T.1 T.2.1 dX6_tearSeal_60 rfl (lv_at hl 1 rfl) ?_
      refine xa_iald T hK hP 5 rfl rfl (19 + lk) (by omega) (by omega) (by decide) dX6_tearSeal_61 ?_
      refine xv_cv (b := N (19 + lk)) (by rw [q8, uZ_ne (by omega), hN6, uZ_ne (by omega)]) ?_
      exact rI T (u := N9) hr hk hK hP hS dX6_tearSeal_62 (by subst q8 hN6; unfold sTear; (repeat' split) <;> first | (exfalso; omega) | rfl)
    · skip
      refine xv_bipush T dX6_tearSeal_23 (by omega) ?_
      exact rI T (u := N) hr hk hK hP hS dX6_tearSeal_25 (by skip; unfold sTear; (repeat' split) <;> first | (exfalso; omega) | rfl)
  · skip
    refine xv_if_ne T (by omega) (tgt := 10) dX6_tearSeal_5 (by decide) (fun c10 => absurd c10 (by omega)) (fun _ => ?_)
    refine xv_iconst T dX6_tearSeal_8 ?_
    exact rI T (u := N) hr hk hK hP hS dX6_tearSeal_9 (by skip; unfold sTear; (repeat' split) <;> first | (exfalso; omega) | rfl)
set_option maxHeartbeats 4000000 in
set_option maxRecDepth 100000 in
theorem c_X6_changeSetting (l : Launch) (K : KT) (o : Nat) (N : Int → Int) (wh vl : Int) (r_wh : -2147483648 ≤ wh ∧ wh ≤ 2147483647) (r_vl : -2147483648 ≤ vl ∧ vl ≤ 2147483647) (hI : Inv N) : CtI l yX6_changeSetting cX6_changeSetting 6 .int 0 0 K [.ref o, .int (iI wh), .int (iI vl)] (shipW K o N) (Blk o 21) (fun (z : Int) (u : Int → Int) => (z, u) = sSet N wh vl) (fun u => shipW K o u) := by
  refine CtI_of (by decide) (Nat.le_of_ble_eq_true rfl) ?_
  intro p e s m args below meth c T hr hk hP hK ls hl
  have T : CF p m c cX6_changeSetting 6 s args RX6 := T
  have hS : va_S (Blk o 21) s.heap s.heap [] := va_S.rf
  have hl : lv_has ls 6 [(0, .ref o), (1, .int (iI wh)), (2, .int (iI vl))] := hl
  obtain ⟨hI0, hIL, hIH, hIB, hID, hIC, hIG, hIZ, hIF⟩ := id hI
  have hR : InR N := ⟨hI0, hIB⟩
  obtain ⟨b0, b1, b2, b3, b4, b5, b6, b7, b8, b9⟩ := id hI0
  refine lv_iload_n T.1 T.2.1 dX6_changeSetting_0 rfl (lv_at hl 1 rfl) ?_
  refine xv_if_lt T (by omega) (tgt := 9) dX6_changeSetting_1 (by decide) (fun c1 => ?_) (fun c1 => ?_)
  · skip
    refine xv_iconst T dX6_changeSetting_9 ?_
    exact rI T (u := N) hr hk hK hP hS dX6_changeSetting_10 (by unfold sSet; rw [if_pos (by first | (exfalso; omega) | omega)])
  · skip
    refine lv_iload_n T.1 T.2.1 dX6_changeSetting_4 rfl (lv_at hl 1 rfl) ?_
    refine xv_iconst T dX6_changeSetting_5 ?_
    refine xv_icmp_lt T (by omega) (tgt := 11) dX6_changeSetting_6 (by decide) (fun c2 => ?_) (fun c2 => ?_)
    · skip
      have jn20 : ∀ (mi : Int) (H : Heap) (locs : List Loc) (ls : Array Slot), (mi = wh) → xP K (shipW K o N) H → va_S (Blk o 21) s.heap H locs → lv_has ls 6 [(0, .ref o), (1, .int (iI wh)), (2, .int (iI vl))] → W p l e (rmF 0 0) s m args below meth c H locs 0 0 (MQ below (qI K (fun (z : Int) (u : Int → Int) => (z, u) = sSet N wh vl) (fun u => shipW K o u) (Blk o 21)) args s 0 0 (Blk o 21)) (F0 m 20 ls [.int (iI mi)]) := by
        intro mi H locs ls hmi hP hS hl
        refine lv_istore_n (lv' := [(3, .int (iI mi)), (0, .ref o), (1, .int (iI wh)), (2, .int (iI vl))]) T.1 T.2.1 dX6_changeSetting_20 rfl hl (by decide) rfl (fun ls hl => ?_)
        have jn32 : ∀ (mx : Int) (H : Heap) (locs : List Loc) (ls : Array Slot), (mx = if wh = 0 then 100000 else 99) → xP K (shipW K o N) H → va_S (Blk o 21) s.heap H locs → lv_has ls 6 [(3, .int (iI mi)), (0, .ref o), (1, .int (iI wh)), (2, .int (iI vl))] → W p l e (rmF 0 0) s m args below meth c H locs 0 0 (MQ below (qI K (fun (z : Int) (u : Int → Int) => (z, u) = sSet N wh vl) (fun u => shipW K o u) (Blk o 21)) args s 0 0 (Blk o 21)) (F0 m 32 ls [.int (iI mx)]) := by
          intro mx H locs ls hmx hP hS hl
          have hmr : 99 ≤ mx ∧ mx ≤ 100000 := by rw [hmx]; split <;> omega
          refine lv_istore (lv' := [(4, .int (iI mx)), (3, .int (iI mi)), (0, .ref o), (1, .int (iI wh)), (2, .int (iI vl))]) T.1 T.2.1 dX6_changeSetting_32 hl (by decide) rfl (fun ls hl => ?_)
          refine lv_iload_n T.1 T.2.1 dX6_changeSetting_34 rfl (lv_at hl 4 rfl) ?_
          refine lv_iload_n T.1 T.2.1 dX6_changeSetting_35 rfl (lv_at hl 1 rfl) ?_
          refine xv_icmp_lt T (by omega) (tgt := 45) dX6_changeSetting_36 (by decide) (fun c3 => ?_) (fun c3 => ?_)
          · skip
            refine xv_iconst T dX6_changeSetting_45 ?_
            exact rI T (u := N) hr hk hK hP hS dX6_changeSetting_46 (by unfold sSet; rw [if_pos (fun h => by have h2 := h.2.2; rw [← hmx] at h2; omega)])
          · skip
            refine lv_iload_n T.1 T.2.1 dX6_changeSetting_39 rfl (lv_at hl 4 rfl) ?_
            refine lv_iload T.1 T.2.1 dX6_changeSetting_40 (lv_at hl 0 rfl) ?_
            refine xv_icmp_le T (by omega) (tgt := 47) dX6_changeSetting_42 (by decide) (fun c4 => ?_) (fun c4 => ?_)
            · skip
              refine lv_aload_n T.1 T.2.1 dX6_changeSetting_47 rfl (lv_at hl 2 rfl) ?_
              refine g6_settings T hK hP 0 rfl rfl mw_1_149 dX6_changeSetting_48 ?_
              refine lv_iload_n T.1 T.2.1 dX6_changeSetting_51 rfl (lv_at hl 3 rfl) ?_
              refine xa_iald T hK hP 2 rfl rfl (2 + wh) (by omega) (by omega) (by decide) dX6_changeSetting_52 ?_
              refine lv_istore (lv' := [(5, .int (iI (N (2 + wh)))), (4, .int (iI mx)), (3, .int (iI mi)), (0, .ref o), (1, .int (iI wh)), (2, .int (iI vl))]) T.1 T.2.1 dX6_changeSetting_53 hl (by decide) rfl (fun ls hl => ?_)
              refine lv_aload_n T.1 T.2.1 dX6_changeSetting_55 rfl (lv_at hl 3 rfl) ?_
              refine g6_settings T hK hP 0 rfl rfl mw_1_149 dX6_changeSetting_56 ?_
              refine lv_iload_n T.1 T.2.1 dX6_changeSetting_59 rfl (lv_at hl 4 rfl) ?_
              refine lv_iload_n T.1 T.2.1 dX6_changeSetting_60 rfl (lv_at hl 5 rfl) ?_
              refine xa_iast T hK hP (ship_D K o N) hS 2 rfl rfl (by omega) (by decide) dX6_changeSetting_61 (su_a2 K o N (i := 2 + wh) vl (by omega) (by omega)) (fun H locs hP hS => ?_)
              obtain ⟨Nm, hNm⟩ : ∃ Y0 : Int → Int, Y0 = uZ N (2 + wh) vl := ⟨_, rfl⟩
              have hP : xP K (shipW K o Nm) H := by rw [hNm]; exact hP
              refine lv_iload T.1 T.2.1 dX6_changeSetting_62 (lv_at hl 0 rfl) ?_
              exact rI T (u := Nm) hr hk hK hP hS dX6_changeSetting_64 (by rw [hNm]; unfold sSet; rw [if_neg (fun h => h ⟨by omega, by omega, by rw [← hmx]; omega⟩)])
            · skip
              refine xv_iconst T dX6_changeSetting_45 ?_
              exact rI T (u := N) hr hk hK hP hS dX6_changeSetting_46 (by unfold sSet; rw [if_pos (fun h => by have h2 := h.2.2; rw [← hmx] at h2; omega)])
        refine lv_iload_n T.1 T.2.1 dX6_changeSetting_21 rfl (lv_at hl 2 rfl) ?_
        refine xv_if_ne T (by omega) (tgt := 30) dX6_changeSetting_22 (by decide) (fun c5 => ?_) (fun c5 => ?_)
        · skip
          refine xv_bipush T dX6_changeSetting_30 (by omega) ?_
          exact jn32 99 _ _ ls (by first | rw [if_pos (by omega)] | rw [if_neg (by omega)]) hP hS (lv_sub hl [0, 1, 2, 3] rfl)
        · skip
          refine xv_ldc T mw_3_23 (n := 100000) (by decide +kernel) dX6_changeSetting_25 ?_
          refine lv_goto T.1 T.2.1 (tgt := 32) dX6_changeSetting_27 (by decide) ?_
          exact jn32 100000 _ _ ls (by first | rw [if_pos (by omega)] | rw [if_neg (by omega)]) hP hS (lv_sub hl [0, 1, 2, 3] rfl)
      refine lv_iload_n T.1 T.2.1 dX6_changeSetting_11 rfl (lv_at hl 1 rfl) ?_
      refine xv_if_ne T (by omega) (tgt := 19) dX6_changeSetting_12 (by decide) (fun c6 => ?_) (fun c6 => ?_)
      · skip
        refine xv_iconst T dX6_changeSetting_19 ?_
        exact jn20 1 _ _ ls (by omega) hP hS (lv_sub hl [0, 1, 2] rfl)
      · skip
        refine xv_iconst T dX6_changeSetting_15 ?_
        refine lv_goto T.1 T.2.1 (tgt := 20) dX6_changeSetting_16 (by decide) ?_
        exact jn20 0 _ _ ls (by omega) hP hS (lv_sub hl [0, 1, 2] rfl)
    · skip
      refine xv_iconst T dX6_changeSetting_9 ?_
      exact rI T (u := N) hr hk hK hP hS dX6_changeSetting_10 (by unfold sSet; rw [if_pos (by first | (exfalso; omega) | omega)])
set_option maxHeartbeats 4000000 in
set_option maxRecDepth 100000 in
theorem c_X6_useUnits (l : Launch) (K : KT) (o : Nat) (N : Int → Int) (lk gd un : Int) (r_lk : -2147483648 ≤ lk ∧ lk ≤ 2147483647) (r_gd : -2147483648 ≤ gd ∧ gd ≤ 2147483647) (r_un : -2147483648 ≤ un ∧ un ≤ 2147483647) (hI : Inv N) : CtI l yX6_useUnits cX6_useUnits 5 .int 3 83 K [.ref o, .int (iI lk), .int (iI gd), .int (iI un)] (shipW K o N) (Blk o 21) (fun (z : Int) (u : Int → Int) => (z, u) = sUse N lk gd un) (fun u => shipW K o u) := by
  refine CtI_of (by decide) (Nat.le_of_ble_eq_true rfl) ?_
  intro p e s m args below meth c T hr hk hP hK ls hl
  have T : CF p m c cX6_useUnits 5 s args RX6 := T
  have hS : va_S (Blk o 21) s.heap s.heap [] := va_S.rf
  have hl : lv_has ls 5 [(0, .ref o), (1, .int (iI lk)), (2, .int (iI gd)), (3, .int (iI un))] := hl
  obtain ⟨hI0, hIL, hIH, hIB, hID, hIC, hIG, hIZ, hIF⟩ := id hI
  have hR : InR N := ⟨hI0, hIB⟩
  obtain ⟨b0, b1, b2, b3, b4, b5, b6, b7, b8, b9⟩ := id hI0
  refine lv_aload_n T.1 T.2.1 dX6_useUnits_0 rfl (lv_at hl 0 rfl) ?_
  refine lv_iload_n T.1 T.2.1 dX6_useUnits_1 rfl (lv_at hl 1 rfl) ?_
  refine lv_iload_n T.1 T.2.1 dX6_useUnits_2 rfl (lv_at hl 2 rfl) ?_
  refine lv_iload_n T.1 T.2.1 dX6_useUnits_3 rfl (lv_at hl 3 rfl) ?_
  refine cI_V T hK hP hS 0 rfl rfl rfl (c_X6_canMove l K o N lk gd un (by omega) (by omega) (by omega) (by omega)) iX6_canMove mw_2_93 ⟨Nat.le_of_ble_eq_true rfl, Nat.le_of_ble_eq_true rfl⟩ hP noA rfl hl.1 rfl (Nat.le_of_ble_eq_true rfl) ⟨Nat.zero_le _, Nat.zero_le _⟩ dX6_useUnits_4 (fun z1 _ H1 locs q2 hP1 hg1 hg2 hS => ?_)
  have hP := xP_kept hP hg2
  generalize H1 = H at hP hS ⊢
  clear hg1 hg2 hP1
  rcases q2 with ⟨rfl, q2⟩ | ⟨rfl, q2⟩
  · skip
    refine xv_if_ne T (by omega) (tgt := 12) dX6_useUnits_7 (by decide) (fun _ => ?_) (fun c3 => absurd c3 (by omega))
    refine lv_aload_n T.1 T.2.1 dX6_useUnits_12 rfl (lv_at hl 0 rfl) ?_
    refine g6_lockers T hK hP 0 rfl rfl mw_1_151 dX6_useUnits_13 ?_
    refine lv_iload_n T.1 T.2.1 dX6_useUnits_16 rfl (lv_at hl 1 rfl) ?_
    refine lv_iload_n T.1 T.2.1 dX6_useUnits_17 rfl (lv_at hl 2 rfl) ?_
    refine cI_V T hK hP hS 3 rfl rfl rfl (c_X2_place l K o N lk gd ) iX2_place mw_2_105 ⟨Nat.le_of_ble_eq_true rfl, Nat.le_of_ble_eq_true rfl⟩ hP noA rfl hl.1 rfl (Nat.le_of_ble_eq_true rfl) ⟨Nat.zero_le _, Nat.zero_le _⟩ dX6_useUnits_18 (fun z4 _ H1 locs q5 hP1 hg1 hg2 hS => ?_)
    have hP := xP_kept hP hg2
    generalize H1 = H at hP hS ⊢
    clear hg1 hg2 hP1
    obtain rfl : z4 = lk * 8 + gd := q5
    refine lv_istore (lv' := [(4, .int (iI (lk * 8 + gd))), (0, .ref o), (1, .int (iI lk)), (2, .int (iI gd)), (3, .int (iI un))]) T.1 T.2.1 dX6_useUnits_21 hl (by decide) rfl (fun ls hl => ?_)
    refine lv_aload_n T.1 T.2.1 dX6_useUnits_23 rfl (lv_at hl 1 rfl) ?_
    refine g6_zone T hK hP 0 rfl (v := .int (iI (N 0))) rfl mw_1_142 dX6_useUnits_24 ?_
    refine xv_if_ne T (by omega) (tgt := 44) dX6_useUnits_27 (by decide) (fun c6 => ?_) (fun c6 => ?_)
    · skip
      refine xv_bipush T dX6_useUnits_44 (by omega) ?_
      exact rI T (u := N) hr hk hK hP hS dX6_useUnits_46 (by skip; unfold sUse; (repeat' split) <;> first | (exfalso; omega) | rfl)
    · skip
      refine lv_aload_n T.1 T.2.1 dX6_useUnits_30 rfl (lv_at hl 1 rfl) ?_
      refine g6_lockers T hK hP 0 rfl rfl mw_1_151 dX6_useUnits_31 ?_
      refine g2_units T hK hP 3 rfl rfl mw_1_42 dX6_useUnits_34 ?_
      refine lv_iload T.1 T.2.1 dX6_useUnits_37 (lv_at hl 0 rfl) ?_
      refine xa_iald T hK hP 6 rfl rfl (24 + 8 * lk + gd) (by omega) (by omega) (by decide) dX6_useUnits_39 ?_
      have f7 := hIH lk gd (by omega) (by omega) (by omega) (by omega)
      refine lv_iload_n T.1 T.2.1 dX6_useUnits_40 rfl (lv_at hl 4 rfl) ?_
      refine xv_icmp_ge T (by omega) (tgt := 47) dX6_useUnits_41 (by decide) (fun c8 => ?_) (fun c8 => ?_)
      · skip
        refine lv_aload_n T.1 T.2.1 dX6_useUnits_47 rfl (lv_at hl 1 rfl) ?_
        refine g6_lockers T hK hP 0 rfl rfl mw_1_151 dX6_useUnits_48 ?_
        refine g2_units T hK hP 3 rfl rfl mw_1_42 dX6_useUnits_51 ?_
        refine lv_iload T.1 T.2.1 dX6_useUnits_54 (lv_at hl 0 rfl) ?_
        refine lv_dup2_11 T.1 T.2.1 dX6_useUnits_56 rfl rfl ?_
        refine xa_iald T hK hP 6 rfl rfl (24 + 8 * lk + gd) (by omega) (by omega) (by decide) dX6_useUnits_57 ?_
        refine lv_iload_n T.1 T.2.1 dX6_useUnits_58 rfl (lv_at hl 4 rfl) ?_
        refine xv_isub T dX6_useUnits_59 ?_
        refine xa_iast T hK hP (ship_D K o N) hS 6 rfl rfl (by omega) (by decide) dX6_useUnits_60 (su_a24 K o N (i := 24 + 8 * lk + gd) (N (24 + 8 * lk + gd) - un) (by omega) (by omega)) (fun H locs hP hS => ?_)
        obtain ⟨N9, hN9⟩ : ∃ Y0 : Int → Int, Y0 = uZ N (24 + 8 * lk + gd) (N (24 + 8 * lk + gd) - un) := ⟨_, rfl⟩
        have hP : xP K (shipW K o N9) H := by rw [hN9]; exact hP
        have hrs := has_rest hI (l := lk) (g := gd) (by omega) (by omega)
        refine lv_aload_n T.1 T.2.1 dX6_useUnits_61 rfl (lv_at hl 1 rfl) ?_
        refine lv_iload_n T.1 T.2.1 dX6_useUnits_62 rfl (lv_at hl 3 rfl) ?_
        refine lv_iload_n T.1 T.2.1 dX6_useUnits_63 rfl (lv_at hl 4 rfl) ?_
        refine xv_iconst T dX6_useUnits_64 ?_
        refine cL_V T hK hP hS 0 rfl rfl rfl (c_X6_release l K o N9 gd un 0 (by omega) (by omega) (by omega) (by rw [hN9, rest_has gd (by omega) (by omega)]; omega) (by rw [hN9]; exact inR_has hR (by omega))) iX6_release mw_2_155 ⟨Nat.le_of_ble_eq_true rfl, Nat.le_of_ble_eq_true rfl⟩ hP (fun _ h => h) rfl hl.1 rfl (Nat.le_of_ble_eq_true rfl) ⟨Nat.zero_le _, Nat.zero_le _⟩ dX6_useUnits_65 (fun bvz Nz H1 locs qzz hP1 hg1 hg2 hS => ?_)
        have hP : xP K (shipW K o Nz) H1 := hP1
        generalize H1 = H at hP hS ⊢
        clear hg1 hg2 hP1
        obtain ⟨hvz, hNz⟩ := qzz
        subst hvz
        refine xv_l2i T dX6_useUnits_68 ?_
        exact rI T (u := Nz) hr hk hK hP hS dX6_useUnits_69 (by subst hNz hN9; unfold sUse; (repeat' split) <;> first | (exfalso; omega) | rfl)
      · skip
        refine xv_bipush T dX6_useUnits_44 (by omega) ?_
        exact rI T (u := N) hr hk hK hP hS dX6_useUnits_46 (by skip; unfold sUse; (repeat' split) <;> first | (exfalso; omega) | rfl)
  · skip
    refine xv_if_ne T (by omega) (tgt := 12) dX6_useUnits_7 (by decide) (fun c10 => absurd c10 (by omega)) (fun _ => ?_)
    refine xv_iconst T dX6_useUnits_10 ?_
    exact rI T (u := N) hr hk hK hP hS dX6_useUnits_11 (by skip; unfold sUse; (repeat' split) <;> first | (exfalso; omega) | rfl)
set_option maxHeartbeats 4000000 in
set_option maxRecDepth 100000 in
theorem c_X6_breakUnits (l : Launch) (K : KT) (o : Nat) (N : Int → Int) (lk gd un wt : Int) (r_lk : -2147483648 ≤ lk ∧ lk ≤ 2147483647) (r_gd : -2147483648 ≤ gd ∧ gd ≤ 2147483647) (r_un : -2147483648 ≤ un ∧ un ≤ 2147483647) (r_wt : -2147483648 ≤ wt ∧ wt ≤ 2147483647) (hI : Inv N) : CtI l yX6_breakUnits cX6_breakUnits 6 .int 3 83 K [.ref o, .int (iI lk), .int (iI gd), .int (iI un), .int (iI wt)] (shipW K o N) (Blk o 21) (fun (z : Int) (u : Int → Int) => (z, u) = sSmash N lk gd un wt) (fun u => shipW K o u) := by
  refine CtI_of (by decide) (Nat.le_of_ble_eq_true rfl) ?_
  intro p e s m args below meth c T hr hk hP hK ls hl
  have T : CF p m c cX6_breakUnits 6 s args RX6 := T
  have hS : va_S (Blk o 21) s.heap s.heap [] := va_S.rf
  have hl : lv_has ls 6 [(0, .ref o), (1, .int (iI lk)), (2, .int (iI gd)), (3, .int (iI un)), (4, .int (iI wt))] := hl
  obtain ⟨hI0, hIL, hIH, hIB, hID, hIC, hIG, hIZ, hIF⟩ := id hI
  have hR : InR N := ⟨hI0, hIB⟩
  obtain ⟨b0, b1, b2, b3, b4, b5, b6, b7, b8, b9⟩ := id hI0
  refine lv_aload_n T.1 T.2.1 dX6_breakUnits_0 rfl (lv_at hl 0 rfl) ?_
  refine lv_iload_n T.1 T.2.1 dX6_breakUnits_1 rfl (lv_at hl 1 rfl) ?_
  refine lv_iload_n T.1 T.2.1 dX6_breakUnits_2 rfl (lv_at hl 2 rfl) ?_
  refine lv_iload_n T.1 T.2.1 dX6_breakUnits_3 rfl (lv_at hl 3 rfl) ?_
  refine cI_V T hK hP hS 0 rfl rfl rfl (c_X6_canMove l K o N lk gd un (by omega) (by omega) (by omega) (by omega)) iX6_canMove mw_2_93 ⟨Nat.le_of_ble_eq_true rfl, Nat.le_of_ble_eq_true rfl⟩ hP noA rfl hl.1 rfl (Nat.le_of_ble_eq_true rfl) ⟨Nat.zero_le _, Nat.zero_le _⟩ dX6_breakUnits_4 (fun z1 _ H1 locs q2 hP1 hg1 hg2 hS => ?_)
  have hP := xP_kept hP hg2
  generalize H1 = H at hP hS ⊢
  clear hg1 hg2 hP1
  rcases q2 with ⟨rfl, q2⟩ | ⟨rfl, q2⟩
  · skip
    refine xv_if_eq T (by omega) (tgt := 22) dX6_breakUnits_7 (by decide) (fun c3 => absurd c3 (by omega)) (fun _ => ?_)
    refine lv_iload T.1 T.2.1 dX6_breakUnits_10 (lv_at hl 4 rfl) ?_
    refine xv_if_lt T (by omega) (tgt := 22) dX6_breakUnits_12 (by decide) (fun c4 => ?_) (fun c4 => ?_)
    · skip
      refine xv_iconst T dX6_breakUnits_22 ?_
      exact rI T (u := N) hr hk hK hP hS dX6_breakUnits_23 (by skip; unfold sSmash; (repeat' split) <;> first | (exfalso; omega) | rfl)
    · skip
      refine lv_iload T.1 T.2.1 dX6_breakUnits_15 (lv_at hl 4 rfl) ?_
      refine xv_bipush T dX6_breakUnits_17 (by omega) ?_
      refine xv_icmp_le T (by omega) (tgt := 24) dX6_breakUnits_19 (by decide) (fun c5 => ?_) (fun c5 => ?_)
      · skip
        refine lv_aload_n T.1 T.2.1 dX6_breakUnits_24 rfl (lv_at hl 0 rfl) ?_
        refine g6_lockers T hK hP 0 rfl rfl mw_1_151 dX6_breakUnits_25 ?_
        refine lv_iload_n T.1 T.2.1 dX6_breakUnits_28 rfl (lv_at hl 1 rfl) ?_
        refine lv_iload_n T.1 T.2.1 dX6_breakUnits_29 rfl (lv_at hl 2 rfl) ?_
        refine cI_V T hK hP hS 3 rfl rfl rfl (c_X2_place l K o N lk gd ) iX2_place mw_2_105 ⟨Nat.le_of_ble_eq_true rfl, Nat.le_of_ble_eq_true rfl⟩ hP noA rfl hl.1 rfl (Nat.le_of_ble_eq_true rfl) ⟨Nat.zero_le _, Nat.zero_le _⟩ dX6_breakUnits_30 (fun z6 _ H1 locs q7 hP1 hg1 hg2 hS => ?_)
        have hP := xP_kept hP hg2
        generalize H1 = H at hP hS ⊢
        clear hg1 hg2 hP1
        obtain rfl : z6 = lk * 8 + gd := q7
        refine lv_istore (lv' := [(5, .int (iI (lk * 8 + gd))), (0, .ref o), (1, .int (iI lk)), (2, .int (iI gd)), (3, .int (iI un)), (4, .int (iI wt))]) T.1 T.2.1 dX6_breakUnits_33 hl (by decide) rfl (fun ls hl => ?_)
        refine lv_aload_n T.1 T.2.1 dX6_breakUnits_35 rfl (lv_at hl 1 rfl) ?_
        refine g6_zone T hK hP 0 rfl (v := .int (iI (N 0))) rfl mw_1_142 dX6_breakUnits_36 ?_
        refine xv_if_ne T (by omega) (tgt := 56) dX6_breakUnits_39 (by decide) (fun c8 => ?_) (fun c8 => ?_)
        · skip
          refine xv_bipush T dX6_breakUnits_56 (by omega) ?_
          exact rI T (u := N) hr hk hK hP hS dX6_breakUnits_58 (by skip; unfold sSmash; (repeat' split) <;> first | (exfalso; omega) | rfl)
        · skip
          refine lv_aload_n T.1 T.2.1 dX6_breakUnits_42 rfl (lv_at hl 1 rfl) ?_
          refine g6_lockers T hK hP 0 rfl rfl mw_1_151 dX6_breakUnits_43 ?_
          refine g2_units T hK hP 3 rfl rfl mw_1_42 dX6_breakUnits_46 ?_
          refine lv_iload T.1 T.2.1 dX6_breakUnits_49 (lv_at hl 0 rfl) ?_
          refine xa_iald T hK hP 6 rfl rfl (24 + 8 * lk + gd) (by omega) (by omega) (by decide) dX6_breakUnits_51 ?_
          have f9 := hIH lk gd (by omega) (by omega) (by omega) (by omega)
          refine lv_iload_n T.1 T.2.1 dX6_breakUnits_52 rfl (lv_at hl 4 rfl) ?_
          refine xv_icmp_ge T (by omega) (tgt := 59) dX6_breakUnits_53 (by decide) (fun c10 => ?_) (fun c10 => ?_)
          · skip
            refine lv_aload_n T.1 T.2.1 dX6_breakUnits_59 rfl (lv_at hl 1 rfl) ?_
            refine g6_lockers T hK hP 0 rfl rfl mw_1_151 dX6_breakUnits_60 ?_
            refine g2_units T hK hP 3 rfl rfl mw_1_42 dX6_breakUnits_63 ?_
            refine lv_iload T.1 T.2.1 dX6_breakUnits_66 (lv_at hl 0 rfl) ?_
            refine lv_dup2_11 T.1 T.2.1 dX6_breakUnits_68 rfl rfl ?_
            refine xa_iald T hK hP 6 rfl rfl (24 + 8 * lk + gd) (by omega) (by omega) (by decide) dX6_breakUnits_69 ?_
            refine lv_iload_n T.1 T.2.1 dX6_breakUnits_70 rfl (lv_at hl 4 rfl) ?_
            refine xv_isub T dX6_breakUnits_71 ?_
            refine xa_iast T hK hP (ship_D K o N) hS 6 rfl rfl (by omega) (by decide) dX6_breakUnits_72 (su_a24 K o N (i := 24 + 8 * lk + gd) (N (24 + 8 * lk + gd) - un) (by omega) (by omega)) (fun H locs hP hS => ?_)
            obtain ⟨N11, hN11⟩ : ∃ Y0 : Int → Int, Y0 = uZ N (24 + 8 * lk + gd) (N (24 + 8 * lk + gd) - un) := ⟨_, rfl⟩
            have hP : xP K (shipW K o N11) H := by rw [hN11]; exact hP
            have hrs := has_rest hI (l := lk) (g := gd) (by omega) (by omega)
            refine lv_iload T.1 T.2.1 dX6_breakUnits_73 (lv_at hl 5 rfl) ?_
            refine xv_if_ne T (by omega) (tgt := 94) dX6_breakUnits_75 (by decide) (fun c12 => ?_) (fun c12 => ?_)
            · skip
              refine lv_aload_n T.1 T.2.1 dX6_breakUnits_94 rfl (lv_at hl 1 rfl) ?_
              refine lv_iload_n T.1 T.2.1 dX6_breakUnits_95 rfl (lv_at hl 3 rfl) ?_
              refine lv_iload_n T.1 T.2.1 dX6_breakUnits_96 rfl (lv_at hl 4 rfl) ?_
              refine xv_iconst T dX6_breakUnits_97 ?_
              refine cL_V T hK hP hS 0 rfl rfl rfl (c_X6_release l K o N11 gd un 2 (by omega) (by omega) (by omega) (by rw [hN11, rest_has gd (by omega) (by omega)]; omega) (by rw [hN11]; exact inR_has hR (by omega))) iX6_release mw_2_155 ⟨Nat.le_of_ble_eq_true rfl, Nat.le_of_ble_eq_true rfl⟩ hP (fun _ h => h) rfl hl.1 rfl (Nat.le_of_ble_eq_true rfl) ⟨Nat.zero_le _, Nat.zero_le _⟩ dX6_breakUnits_98 (fun bvz Nz H1 locs qzz hP1 hg1 hg2 hS => ?_)
              have hP : xP K (shipW K o Nz) H1 := hP1
              generalize H1 = H at hP hS ⊢
              clear hg1 hg2 hP1
              obtain ⟨hvz, hNz⟩ := qzz
              subst hvz
              refine xv_l2i T dX6_breakUnits_101 ?_
              exact rI T (u := Nz) hr hk hK hP hS dX6_breakUnits_102 (by subst hNz hN11; unfold sSmash; (repeat' split) <;> first | (exfalso; omega) | rfl)
            · skip
              refine lv_aload_n T.1 T.2.1 dX6_breakUnits_78 rfl (lv_at hl 1 rfl) ?_
              refine g6_lockers T hK hP 0 rfl rfl mw_1_151 dX6_breakUnits_79 ?_
              refine g2_missing T hK hP 3 rfl rfl mw_1_45 dX6_breakUnits_82 ?_
              refine lv_iload T.1 T.2.1 dX6_breakUnits_85 (lv_at hl 0 rfl) ?_
              refine lv_dup2_11 T.1 T.2.1 dX6_breakUnits_87 rfl rfl ?_
              refine xa_iald T hK hP 7 rfl rfl (64 + 8 * lk + gd) (by omega) (by omega) (by decide) dX6_breakUnits_88 ?_
              refine xv_cv (b := N (64 + 8 * lk + gd)) (by rw [hN11, uZ_ne (by omega)]) ?_
              refine lv_iload_n T.1 T.2.1 dX6_breakUnits_89 rfl (lv_at hl 4 rfl) ?_
              refine xv_iadd T dX6_breakUnits_90 ?_
              refine xa_iast T hK hP (ship_D K o N11) hS 7 rfl rfl (by omega) (by decide) dX6_breakUnits_91 (su_a64 K o N11 (i := 64 + 8 * lk + gd) (N (64 + 8 * lk + gd) + un) (by omega) (by omega)) (fun H locs hP hS => ?_)
              obtain ⟨N13, hN13⟩ : ∃ Y0 : Int → Int, Y0 = uZ N11 (64 + 8 * lk + gd) (N (64 + 8 * lk + gd) + un) := ⟨_, rfl⟩
              have hP : xP K (shipW K o N13) H := by rw [hN13]; exact hP
              refine xv_iconst T dX6_breakUnits_92 ?_
              exact rI T (u := N13) hr hk hK hP hS dX6_breakUnits_93 (by subst hN13 hN11; unfold sSmash; (repeat' split) <;> first | (exfalso; omega) | rfl)
          · skip
            refine xv_bipush T dX6_breakUnits_56 (by omega) ?_
            exact rI T (u := N) hr hk hK hP hS dX6_breakUnits_58 (by skip; unfold sSmash; (repeat' split) <;> first | (exfalso; omega) | rfl)
      · skip
        refine xv_iconst T dX6_breakUnits_22 ?_
        exact rI T (u := N) hr hk hK hP hS dX6_breakUnits_23 (by skip; unfold sSmash; (repeat' split) <;> first | (exfalso; omega) | rfl)
  · skip
    refine xv_if_eq T (by omega) (tgt := 22) dX6_breakUnits_7 (by decide) (fun _ => ?_) (fun c14 => absurd c14 (by omega))
    refine xv_iconst T dX6_breakUnits_22 ?_
    exact rI T (u := N) hr hk hK hP hS dX6_breakUnits_23 (by skip; unfold sSmash; (repeat' split) <;> first | (exfalso; omega) | rfl)
set_option maxHeartbeats 4000000 in
set_option maxRecDepth 100000 in
theorem c_X6_returnUnits (l : Launch) (K : KT) (o : Nat) (N : Int → Int) (lk gd un : Int) (r_lk : -2147483648 ≤ lk ∧ lk ≤ 2147483647) (r_gd : -2147483648 ≤ gd ∧ gd ≤ 2147483647) (r_un : -2147483648 ≤ un ∧ un ≤ 2147483647) (hI : Inv N) : CtI l yX6_returnUnits cX6_returnUnits 5 .int 3 83 K [.ref o, .int (iI lk), .int (iI gd), .int (iI un)] (shipW K o N) (Blk o 21) (fun (z : Int) (u : Int → Int) => (z, u) = sBring N lk gd un) (fun u => shipW K o u) := by
  refine CtI_of (by decide) (Nat.le_of_ble_eq_true rfl) ?_
  intro p e s m args below meth c T hr hk hP hK ls hl
  have T : CF p m c cX6_returnUnits 5 s args RX6 := T
  have hS : va_S (Blk o 21) s.heap s.heap [] := va_S.rf
  have hl : lv_has ls 5 [(0, .ref o), (1, .int (iI lk)), (2, .int (iI gd)), (3, .int (iI un))] := hl
  obtain ⟨hI0, hIL, hIH, hIB, hID, hIC, hIG, hIZ, hIF⟩ := id hI
  have hR : InR N := ⟨hI0, hIB⟩
  obtain ⟨b0, b1, b2, b3, b4, b5, b6, b7, b8, b9⟩ := id hI0
  refine lv_aload_n T.1 T.2.1 dX6_returnUnits_0 rfl (lv_at hl 0 rfl) ?_
  refine lv_iload_n T.1 T.2.1 dX6_returnUnits_1 rfl (lv_at hl 1 rfl) ?_
  refine lv_iload_n T.1 T.2.1 dX6_returnUnits_2 rfl (lv_at hl 2 rfl) ?_
  refine lv_iload_n T.1 T.2.1 dX6_returnUnits_3 rfl (lv_at hl 3 rfl) ?_
  refine cI_V T hK hP hS 0 rfl rfl rfl (c_X6_canMove l K o N lk gd un (by omega) (by omega) (by omega) (by omega)) iX6_canMove mw_2_93 ⟨Nat.le_of_ble_eq_true rfl, Nat.le_of_ble_eq_true rfl⟩ hP noA rfl hl.1 rfl (Nat.le_of_ble_eq_true rfl) ⟨Nat.zero_le _, Nat.zero_le _⟩ dX6_returnUnits_4 (fun z1 _ H1 locs q2 hP1 hg1 hg2 hS => ?_)
  have hP := xP_kept hP hg2
  generalize H1 = H at hP hS ⊢
  clear hg1 hg2 hP1
  rcases q2 with ⟨rfl, q2⟩ | ⟨rfl, q2⟩
  · skip
    refine xv_if_ne T (by omega) (tgt := 12) dX6_returnUnits_7 (by decide) (fun _ => ?_) (fun c3 => absurd c3 (by omega))
    refine lv_aload_n T.1 T.2.1 dX6_returnUnits_12 rfl (lv_at hl 0 rfl) ?_
    refine g6_lockers T hK hP 0 rfl rfl mw_1_151 dX6_returnUnits_13 ?_
    refine lv_iload_n T.1 T.2.1 dX6_returnUnits_16 rfl (lv_at hl 1 rfl) ?_
    refine lv_iload_n T.1 T.2.1 dX6_returnUnits_17 rfl (lv_at hl 2 rfl) ?_
    refine cI_V T hK hP hS 3 rfl rfl rfl (c_X2_place l K o N lk gd ) iX2_place mw_2_105 ⟨Nat.le_of_ble_eq_true rfl, Nat.le_of_ble_eq_true rfl⟩ hP noA rfl hl.1 rfl (Nat.le_of_ble_eq_true rfl) ⟨Nat.zero_le _, Nat.zero_le _⟩ dX6_returnUnits_18 (fun z4 _ H1 locs q5 hP1 hg1 hg2 hS => ?_)
    have hP := xP_kept hP hg2
    generalize H1 = H at hP hS ⊢
    clear hg1 hg2 hP1
    obtain rfl : z4 = lk * 8 + gd := q5
    refine lv_istore (lv' := [(4, .int (iI (lk * 8 + gd))), (0, .ref o), (1, .int (iI lk)), (2, .int (iI gd)), (3, .int (iI un))]) T.1 T.2.1 dX6_returnUnits_21 hl (by decide) rfl (fun ls hl => ?_)
    refine lv_aload_n T.1 T.2.1 dX6_returnUnits_23 rfl (lv_at hl 1 rfl) ?_
    refine g6_zone T hK hP 0 rfl (v := .int (iI (N 0))) rfl mw_1_142 dX6_returnUnits_24 ?_
    refine xv_iconst T dX6_returnUnits_27 ?_
    refine xv_icmp_ne T (by omega) (tgt := 58) dX6_returnUnits_28 (by decide) (fun c6 => ?_) (fun c6 => ?_)
    · skip
      refine xv_bipush T dX6_returnUnits_58 (by omega) ?_
      exact rI T (u := N) hr hk hK hP hS dX6_returnUnits_60 (by skip; unfold sBring; (repeat' split) <;> first | (exfalso; omega) | rfl)
    · skip
      refine lv_aload_n T.1 T.2.1 dX6_returnUnits_31 rfl (lv_at hl 1 rfl) ?_
      refine g6_lockers T hK hP 0 rfl rfl mw_1_151 dX6_returnUnits_32 ?_
      refine g2_state T hK hP 3 rfl rfl mw_1_36 dX6_returnUnits_35 ?_
      refine lv_iload_n T.1 T.2.1 dX6_returnUnits_38 rfl (lv_at hl 2 rfl) ?_
      refine xa_iald T hK hP 4 rfl rfl (14 + lk) (by omega) (by omega) (by decide) dX6_returnUnits_39 ?_
      have f7 := hIL lk (by omega) (by omega)
      refine xv_iconst T dX6_returnUnits_40 ?_
      refine xv_icmp_eq T (by omega) (tgt := 58) dX6_returnUnits_41 (by decide) (fun c8 => ?_) (fun c8 => ?_)
      · skip
        refine xv_bipush T dX6_returnUnits_58 (by omega) ?_
        exact rI T (u := N) hr hk hK hP hS dX6_returnUnits_60 (by skip; unfold sBring; (repeat' split) <;> first | (exfalso; omega) | rfl)
      · skip
        refine lv_aload_n T.1 T.2.1 dX6_returnUnits_44 rfl (lv_at hl 1 rfl) ?_
        refine g6_lockers T hK hP 0 rfl rfl mw_1_151 dX6_returnUnits_45 ?_
        refine g2_units T hK hP 3 rfl rfl mw_1_42 dX6_returnUnits_48 ?_
        refine lv_iload T.1 T.2.1 dX6_returnUnits_51 (lv_at hl 0 rfl) ?_
        refine xa_iald T hK hP 6 rfl rfl (24 + 8 * lk + gd) (by omega) (by omega) (by decide) dX6_returnUnits_53 ?_
        have f9 := hIH lk gd (by omega) (by omega) (by omega) (by omega)
        refine lv_iload_n T.1 T.2.1 dX6_returnUnits_54 rfl (lv_at hl 4 rfl) ?_
        refine xv_icmp_ge T (by omega) (tgt := 61) dX6_returnUnits_55 (by decide) (fun c10 => ?_) (fun c10 => ?_)
        · skip
          refine lv_aload_n T.1 T.2.1 dX6_returnUnits_61 rfl (lv_at hl 1 rfl) ?_
          refine g6_seals T hK hP 0 rfl rfl mw_1_153 dX6_returnUnits_62 ?_
          refine cI_V T hK hP hS 8 rfl rfl rfl (c_X5_left l K o N (by omega)) iX5_left mw_2_53 ⟨Nat.le_of_ble_eq_true rfl, Nat.le_of_ble_eq_true rfl⟩ hP noA rfl hl.1 rfl (Nat.le_of_ble_eq_true rfl) ⟨Nat.zero_le _, Nat.zero_le _⟩ dX6_returnUnits_65 (fun z11 _ H1 locs q12 hP1 hg1 hg2 hS => ?_)
          have hP := xP_kept hP hg2
          generalize H1 = H at hP hS ⊢
          clear hg1 hg2 hP1
          obtain rfl : z11 = 200 - N 7 := q12
          refine xv_iconst T dX6_returnUnits_68 ?_
          refine xv_icmp_ge T (by omega) (tgt := 75) dX6_returnUnits_69 (by decide) (fun c13 => ?_) (fun c13 => ?_)
          · skip
            have fl := hIL lk (by omega) (by omega)
            have hrs := has_rest hI (l := lk) (g := gd) (by omega) (by omega)
            refine lv_aload_n T.1 T.2.1 dX6_returnUnits_75 rfl (lv_at hl 1 rfl) ?_
            refine lv_iload_n T.1 T.2.1 dX6_returnUnits_76 rfl (lv_at hl 2 rfl) ?_
            refine cV_V T hK hP hS 0 rfl rfl rfl (c_X6_sealByOfficer l K o N lk (by omega) (by omega) (by omega)) iX6_sealByOfficer mw_2_111 ⟨Nat.le_of_ble_eq_true rfl, Nat.le_of_ble_eq_true rfl⟩ hP (fun _ h => h) rfl hl.1 rfl (Nat.le_of_ble_eq_true rfl) ⟨Nat.zero_le _, Nat.zero_le _⟩ dX6_returnUnits_77 (fun Na H1 locs qa hP1 hg1 hg2 hS => ?_)
            have hP : xP K (shipW K o Na) H1 := hP1
            generalize H1 = H at hP hS ⊢
            clear hg1 hg2 hP1
            refine lv_aload_n T.1 T.2.1 dX6_returnUnits_80 rfl (lv_at hl 1 rfl) ?_
            refine g6_lockers T hK hP 0 rfl rfl mw_1_151 dX6_returnUnits_81 ?_
            refine g2_units T hK hP 3 rfl rfl mw_1_42 dX6_returnUnits_84 ?_
            refine lv_iload T.1 T.2.1 dX6_returnUnits_87 (lv_at hl 0 rfl) ?_
            refine lv_dup2_11 T.1 T.2.1 dX6_returnUnits_89 rfl rfl ?_
            refine xa_iald T hK hP 6 rfl rfl (24 + 8 * lk + gd) (by omega) (by omega) (by decide) dX6_returnUnits_90 ?_
            refine xv_cv (b := N (24 + 8 * lk + gd)) (by rw [qa, sealsF_ne (by rw [offF_ne (by omega)]; omega), offF_ne (by omega)]) ?_
            refine lv_iload_n T.1 T.2.1 dX6_returnUnits_91 rfl (lv_at hl 4 rfl) ?_
            refine xv_isub T dX6_returnUnits_92 ?_
            refine xa_iast T hK hP (ship_D K o Na) hS 6 rfl rfl (by omega) (by decide) dX6_returnUnits_93 (su_a24 K o Na (i := 24 + 8 * lk + gd) (N (24 + 8 * lk + gd) - un) (by omega) (by omega)) (fun H locs hP hS => ?_)
            obtain ⟨Nb, hNb⟩ : ∃ Y0 : Int → Int, Y0 = uZ Na (24 + 8 * lk + gd) (N (24 + 8 * lk + gd) - un) := ⟨_, rfl⟩
            have hP : xP K (shipW K o Nb) H := by rw [hNb]; exact hP
            refine lv_aload_n T.1 T.2.1 dX6_returnUnits_94 rfl (lv_at hl 1 rfl) ?_
            refine lv_iload_n T.1 T.2.1 dX6_returnUnits_95 rfl (lv_at hl 3 rfl) ?_
            refine lv_iload_n T.1 T.2.1 dX6_returnUnits_96 rfl (lv_at hl 4 rfl) ?_
            refine xv_iconst T dX6_returnUnits_97 ?_
            refine cL_V T hK hP hS 0 rfl rfl rfl (c_X6_release l K o Nb gd un 1 (by omega) (by omega) (by omega) (by rw [hNb, qa, rest_has gd (by omega) (by rw [sealsF_ne (by rw [offF_ne (by omega)]; omega), offF_ne (by omega)]; omega), sealsF_rest (offF_R hR (by omega) (by omega)) (by omega), offF_rest hR (by omega) (by omega)]; omega) (by rw [hNb, qa]; exact inR_has (sealsF_R (offF_R hR (by omega) (by omega)) (by omega) (by rw [offF_ne (by omega)]; omega)) (by omega))) iX6_release mw_2_155 ⟨Nat.le_of_ble_eq_true rfl, Nat.le_of_ble_eq_true rfl⟩ hP (fun _ h => h) rfl hl.1 rfl (Nat.le_of_ble_eq_true rfl) ⟨Nat.zero_le _, Nat.zero_le _⟩ dX6_returnUnits_98 (fun bvz Nz H1 locs qzz hP1 hg1 hg2 hS => ?_)
            have hP : xP K (shipW K o Nz) H1 := hP1
            generalize H1 = H at hP hS ⊢
            clear hg1 hg2 hP1
            obtain ⟨hvz, hNz⟩ := qzz
            subst hvz
            refine xv_l2i T dX6_returnUnits_101 ?_
            exact rI T (u := Nz) hr hk hK hP hS dX6_returnUnits_102 (by rw [hNz, hNb, qa, bring_eq (by omega) (Or.inr (by omega)) (by rw [offF_ne (by omega)]; omega)]; unfold sBring; rw [if_neg (by omega), if_neg (by omega), if_neg (by omega)]; rfl)
          · skip
            refine xv_bipush T dX6_returnUnits_72 (by omega) ?_
            exact rI T (u := N) hr hk hK hP hS dX6_returnUnits_74 (by skip; unfold sBring; (repeat' split) <;> first | (exfalso; omega) | rfl)
        · skip
          refine xv_bipush T dX6_returnUnits_58 (by omega) ?_
          exact rI T (u := N) hr hk hK hP hS dX6_returnUnits_60 (by skip; unfold sBring; (repeat' split) <;> first | (exfalso; omega) | rfl)
  · skip
    refine xv_if_ne T (by omega) (tgt := 12) dX6_returnUnits_7 (by decide) (fun c15 => absurd c15 (by omega)) (fun _ => ?_)
    refine xv_iconst T dX6_returnUnits_10 ?_
    exact rI T (u := N) hr hk hK hP hS dX6_returnUnits_11 (by skip; unfold sBring; (repeat' split) <;> first | (exfalso; omega) | rfl)
set_option maxHeartbeats 4000000 in
set_option maxRecDepth 100000 in
theorem c_X6_loadUnits (l : Launch) (K : KT) (o : Nat) (N : Int → Int) (lk gd un : Int) (r_lk : -2147483648 ≤ lk ∧ lk ≤ 2147483647) (r_gd : -2147483648 ≤ gd ∧ gd ≤ 2147483647) (r_un : -2147483648 ≤ un ∧ un ≤ 2147483647) (hI : Inv N) : CtI l yX6_loadUnits cX6_loadUnits 7 .int 3 64 K [.ref o, .int (iI lk), .int (iI gd), .int (iI un)] (shipW K o N) (Blk o 21) (fun (z : Int) (u : Int → Int) => (z, u) = sLoad N lk gd un) (fun u => shipW K o u) := by
  refine CtI_of (by decide) (Nat.le_of_ble_eq_true rfl) ?_
  intro p e s m args below meth c T hr hk hP hK ls hl
  have T : CF p m c cX6_loadUnits 7 s args RX6 := T
  have hS : va_S (Blk o 21) s.heap s.heap [] := va_S.rf
  have hl : lv_has ls 7 [(0, .ref o), (1, .int (iI lk)), (2, .int (iI gd)), (3, .int (iI un))] := hl
  obtain ⟨hI0, hIL, hIH, hIB, hID, hIC, hIG, hIZ, hIF⟩ := id hI
  have hR : InR N := ⟨hI0, hIB⟩
  obtain ⟨b0, b1, b2, b3, b4, b5, b6, b7, b8, b9⟩ := id hI0
  refine lv_aload_n T.1 T.2.1 dX6_loadUnits_0 rfl (lv_at hl 0 rfl) ?_
  refine lv_iload_n T.1 T.2.1 dX6_loadUnits_1 rfl (lv_at hl 1 rfl) ?_
  refine lv_iload_n T.1 T.2.1 dX6_loadUnits_2 rfl (lv_at hl 2 rfl) ?_
  refine lv_iload_n T.1 T.2.1 dX6_loadUnits_3 rfl (lv_at hl 3 rfl) ?_
  refine cI_V T hK hP hS 0 rfl rfl rfl (c_X6_canMove l K o N lk gd un (by omega) (by omega) (by omega) (by omega)) iX6_canMove mw_2_93 ⟨Nat.le_of_ble_eq_true rfl, Nat.le_of_ble_eq_true rfl⟩ hP noA rfl hl.1 rfl (Nat.le_of_ble_eq_true rfl) ⟨Nat.zero_le _, Nat.zero_le _⟩ dX6_loadUnits_4 (fun z1 _ H1 locs q2 hP1 hg1 hg2 hS => ?_)
  have hP := xP_kept hP hg2
  generalize H1 = H at hP hS ⊢
  clear hg1 hg2 hP1
  rcases q2 with ⟨rfl, q2⟩ | ⟨rfl, q2⟩
  · skip
    refine xv_if_ne T (by omega) (tgt := 12) dX6_loadUnits_7 (by decide) (fun _ => ?_) (fun c3 => absurd c3 (by omega))
    refine lv_aload_n T.1 T.2.1 dX6_loadUnits_12 rfl (lv_at hl 0 rfl) ?_
    refine g6_zone T hK hP 0 rfl (v := .int (iI (N 0))) rfl mw_1_142 dX6_loadUnits_13 ?_
    refine xv_iconst T dX6_loadUnits_16 ?_
    refine xv_icmp_ne T (by omega) (tgt := 33) dX6_loadUnits_17 (by decide) (fun c4 => ?_) (fun c4 => ?_)
    · skip
      refine xv_bipush T dX6_loadUnits_33 (by omega) ?_
      exact rI T (u := N) hr hk hK hP hS dX6_loadUnits_35 (by skip; unfold sLoad; (repeat' split) <;> first | (exfalso; omega) | rfl)
    · skip
      refine lv_aload_n T.1 T.2.1 dX6_loadUnits_20 rfl (lv_at hl 0 rfl) ?_
      refine g6_lockers T hK hP 0 rfl rfl mw_1_151 dX6_loadUnits_21 ?_
      refine g2_state T hK hP 3 rfl rfl mw_1_36 dX6_loadUnits_24 ?_
      refine lv_iload_n T.1 T.2.1 dX6_loadUnits_27 rfl (lv_at hl 1 rfl) ?_
      refine xa_iald T hK hP 4 rfl rfl (14 + lk) (by omega) (by omega) (by decide) dX6_loadUnits_28 ?_
      have f5 := hIL lk (by omega) (by omega)
      refine xv_iconst T dX6_loadUnits_29 ?_
      refine xv_icmp_ne T (by omega) (tgt := 36) dX6_loadUnits_30 (by decide) (fun c6 => ?_) (fun c6 => ?_)
      · skip
        refine lv_aload_n T.1 T.2.1 dX6_loadUnits_36 rfl (lv_at hl 0 rfl) ?_
        refine g6_lockers T hK hP 0 rfl rfl mw_1_151 dX6_loadUnits_37 ?_
        refine lv_iload_n T.1 T.2.1 dX6_loadUnits_40 rfl (lv_at hl 1 rfl) ?_
        refine lv_iload_n T.1 T.2.1 dX6_loadUnits_41 rfl (lv_at hl 2 rfl) ?_
        refine cI_V T hK hP hS 3 rfl rfl rfl (c_X2_place l K o N lk gd ) iX2_place mw_2_105 ⟨Nat.le_of_ble_eq_true rfl, Nat.le_of_ble_eq_true rfl⟩ hP noA rfl hl.1 rfl (Nat.le_of_ble_eq_true rfl) ⟨Nat.zero_le _, Nat.zero_le _⟩ dX6_loadUnits_42 (fun z7 _ H1 locs q8 hP1 hg1 hg2 hS => ?_)
        have hP := xP_kept hP hg2
        generalize H1 = H at hP hS ⊢
        clear hg1 hg2 hP1
        obtain rfl : z7 = lk * 8 + gd := q8
        refine lv_istore (lv' := [(4, .int (iI (lk * 8 + gd))), (0, .ref o), (1, .int (iI lk)), (2, .int (iI gd)), (3, .int (iI un))]) T.1 T.2.1 dX6_loadUnits_45 hl (by decide) rfl (fun ls hl => ?_)
        refine lv_iload_n T.1 T.2.1 dX6_loadUnits_47 rfl (lv_at hl 4 rfl) ?_
        refine xv_i2l T (by omega) dX6_loadUnits_48 ?_
        refine lv_aload_n T.1 T.2.1 dX6_loadUnits_49 rfl (lv_at hl 1 rfl) ?_
        refine g6_duties T hK hP 0 rfl rfl mw_1_148 dX6_loadUnits_50 ?_
        refine lv_iload_n T.1 T.2.1 dX6_loadUnits_53 rfl (lv_at hl 3 rfl) ?_
        refine xa_iald T hK hP 1 rfl rfl (104 + gd) (by omega) (by omega) (by decide) dX6_loadUnits_54 ?_
        have f9 := hID gd (by omega) (by omega)
        refine xv_i2l T (by omega) dX6_loadUnits_55 ?_
        refine xv_lmul T dX6_loadUnits_56 ?_
        refine lv_lstore (lv' := [(5, .long (lI (un * (N (104 + gd))))), (4, .int (iI (lk * 8 + gd))), (0, .ref o), (1, .int (iI lk)), (2, .int (iI gd)), (3, .int (iI un))]) T.1 T.2.1 dX6_loadUnits_57 hl (by decide) rfl (fun ls hl => ?_)
        have hp : 0 ≤ un * N (104 + gd) ∧ un * N (104 + gd) ≤ 9999 * 1000000 := ⟨Int.mul_nonneg (by omega) (by omega), Int.mul_le_mul (by omega) (by omega) (by omega) (by omega)⟩
        refine lv_aload_n T.1 T.2.1 dX6_loadUnits_59 rfl (lv_at hl 2 rfl) ?_
        refine g6_bonds T hK hP 0 rfl rfl mw_1_155 dX6_loadUnits_60 ?_
        refine g0_number T hK hP 12 rfl (v := .int (iI (N 6))) rfl mw_1_89 dX6_loadUnits_63 ?_
        refine xv_bipush T dX6_loadUnits_66 (by omega) ?_
        refine xv_icmp_ge T (by omega) (tgt := 116) dX6_loadUnits_68 (by decide) (fun c10 => ?_) (fun c10 => ?_)
        · skip
          refine xv_bipush T dX6_loadUnits_116 (by omega) ?_
          exact rI T (u := N) hr hk hK hP hS dX6_loadUnits_118 (by skip; unfold sLoad; (repeat' split) <;> first | (exfalso; omega) | rfl)
        · skip
          refine lv_aload_n T.1 T.2.1 dX6_loadUnits_71 rfl (lv_at hl 2 rfl) ?_
          refine g6_seals T hK hP 0 rfl rfl mw_1_153 dX6_loadUnits_72 ?_
          refine cI_V T hK hP hS 8 rfl rfl rfl (c_X5_left l K o N (by omega)) iX5_left mw_2_53 ⟨Nat.le_of_ble_eq_true rfl, Nat.le_of_ble_eq_true rfl⟩ hP noA rfl hl.1 rfl (Nat.le_of_ble_eq_true rfl) ⟨Nat.zero_le _, Nat.zero_le _⟩ dX6_loadUnits_75 (fun z11 _ H1 locs q12 hP1 hg1 hg2 hS => ?_)
          have hP := xP_kept hP hg2
          generalize H1 = H at hP hS ⊢
          clear hg1 hg2 hP1
          obtain rfl : z11 = 200 - N 7 := q12
          refine xv_iconst T dX6_loadUnits_78 ?_
          refine xv_icmp_lt T (by omega) (tgt := 116) dX6_loadUnits_79 (by decide) (fun c13 => ?_) (fun c13 => ?_)
          · skip
            refine xv_bipush T dX6_loadUnits_116 (by omega) ?_
            exact rI T (u := N) hr hk hK hP hS dX6_loadUnits_118 (by skip; unfold sLoad; (repeat' split) <;> first | (exfalso; omega) | rfl)
          · skip
            refine lv_aload_n T.1 T.2.1 dX6_loadUnits_82 rfl (lv_at hl 2 rfl) ?_
            refine g6_lockers T hK hP 0 rfl rfl mw_1_151 dX6_loadUnits_83 ?_
            refine g2_units T hK hP 3 rfl rfl mw_1_42 dX6_loadUnits_86 ?_
            refine lv_iload T.1 T.2.1 dX6_loadUnits_89 (lv_at hl 1 rfl) ?_
            refine xa_iald T hK hP 6 rfl rfl (24 + 8 * lk + gd) (by omega) (by omega) (by decide) dX6_loadUnits_91 ?_
            have f14 := hIH lk gd (by omega) (by omega) (by omega) (by omega)
            refine lv_iload_n T.1 T.2.1 dX6_loadUnits_92 rfl (lv_at hl 5 rfl) ?_
            refine xv_iadd T dX6_loadUnits_93 ?_
            refine xv_ldc T mw_2_109 (n := 99999) (by decide +kernel) dX6_loadUnits_94 ?_
            refine xv_icmp_gt T (by omega) (tgt := 116) dX6_loadUnits_96 (by decide) (fun c15 => ?_) (fun c15 => ?_)
            · skip
              refine xv_bipush T dX6_loadUnits_116 (by omega) ?_
              exact rI T (u := N) hr hk hK hP hS dX6_loadUnits_118 (by skip; unfold sLoad; (repeat' split) <;> first | (exfalso; omega) | rfl)
            · skip
              refine lv_aload_n T.1 T.2.1 dX6_loadUnits_99 rfl (lv_at hl 2 rfl) ?_
              refine g6_bonds T hK hP 0 rfl rfl mw_1_155 dX6_loadUnits_100 ?_
              refine g0_amountMade T hK hP 12 rfl (v := .long (lI (N 9))) rfl mw_1_91 dX6_loadUnits_103 ?_
              refine lv_lload T.1 T.2.1 dX6_loadUnits_106 (lv_at hl 0 rfl) ?_
              refine xv_ladd T dX6_loadUnits_108 ?_
              refine xv_ldc2 T mw_2_110 (n := 2147483647) (by decide +kernel) dX6_loadUnits_109 ?_
              refine xv_lcmp_le T (tgt := 119) dX6_loadUnits_112 dX6_loadUnits_113 (by decide) (fun c16 => ?_) (fun c16 => ?_)
              · skip
                have c16 := (lI_le (by omega)).mp c16
                have fl := hIL lk (by omega) (by omega)
                refine lv_aload_n T.1 T.2.1 dX6_loadUnits_119 rfl (lv_at hl 2 rfl) ?_
                refine lv_iload_n T.1 T.2.1 dX6_loadUnits_120 rfl (lv_at hl 3 rfl) ?_
                refine cV_V T hK hP hS 0 rfl rfl rfl (c_X6_sealByOfficer l K o N lk (by omega) (by omega) (by omega)) iX6_sealByOfficer mw_2_111 ⟨Nat.le_of_ble_eq_true rfl, Nat.le_of_ble_eq_true rfl⟩ hP (fun _ h => h) rfl hl.1 rfl (Nat.le_of_ble_eq_true rfl) ⟨Nat.zero_le _, Nat.zero_le _⟩ dX6_loadUnits_121 (fun Na H1 locs qa hP1 hg1 hg2 hS => ?_)
                have hP : xP K (shipW K o Na) H1 := hP1
                generalize H1 = H at hP hS ⊢
                clear hg1 hg2 hP1
                refine lv_aload_n T.1 T.2.1 dX6_loadUnits_124 rfl (lv_at hl 2 rfl) ?_
                refine g6_lockers T hK hP 0 rfl rfl mw_1_151 dX6_loadUnits_125 ?_
                refine g2_units T hK hP 3 rfl rfl mw_1_42 dX6_loadUnits_128 ?_
                refine lv_iload T.1 T.2.1 dX6_loadUnits_131 (lv_at hl 1 rfl) ?_
                refine lv_dup2_11 T.1 T.2.1 dX6_loadUnits_133 rfl rfl ?_
                refine xa_iald T hK hP 6 rfl rfl (24 + 8 * lk + gd) (by omega) (by omega) (by decide) dX6_loadUnits_134 ?_
                refine xv_cv (b := N (24 + 8 * lk + gd)) (by rw [qa, sealsF_ne (by rw [offF_ne (by omega)]; omega), offF_ne (by omega)]) ?_
                refine lv_iload_n T.1 T.2.1 dX6_loadUnits_135 rfl (lv_at hl 5 rfl) ?_
                refine xv_iadd T dX6_loadUnits_136 ?_
                refine xa_iast T hK hP (ship_D K o Na) hS 6 rfl rfl (by omega) (by decide) dX6_loadUnits_137 (su_a24 K o Na (i := 24 + 8 * lk + gd) (N (24 + 8 * lk + gd) + un) (by omega) (by omega)) (fun H locs hP hS => ?_)
                obtain ⟨Nb, hNb⟩ : ∃ Y0 : Int → Int, Y0 = uZ Na (24 + 8 * lk + gd) (N (24 + 8 * lk + gd) + un) := ⟨_, rfl⟩
                have hP : xP K (shipW K o Nb) H := by rw [hNb]; exact hP
                refine lv_aload_n T.1 T.2.1 dX6_loadUnits_138 rfl (lv_at hl 2 rfl) ?_
                refine g6_bonds T hK hP 0 rfl rfl mw_1_155 dX6_loadUnits_139 ?_
                refine lv_iload_n T.1 T.2.1 dX6_loadUnits_142 rfl (lv_at hl 4 rfl) ?_
                refine lv_iload_n T.1 T.2.1 dX6_loadUnits_143 rfl (lv_at hl 5 rfl) ?_
                refine lv_aload_n T.1 T.2.1 dX6_loadUnits_144 rfl (lv_at hl 2 rfl) ?_
                refine g6_duties T hK hP 0 rfl rfl mw_1_148 dX6_loadUnits_145 ?_
                refine lv_iload_n T.1 T.2.1 dX6_loadUnits_148 rfl (lv_at hl 4 rfl) ?_
                refine xa_iald T hK hP 1 rfl rfl (104 + gd) (by omega) (by omega) (by decide) dX6_loadUnits_149 ?_
                refine xv_cv (b := N (104 + gd)) (by rw [hNb, uZ_ne (by omega), qa, sealsF_ne (by rw [offF_ne (by omega)]; omega), offF_ne (by omega)]) ?_
                refine lv_aload_n T.1 T.2.1 dX6_loadUnits_150 rfl (lv_at hl 2 rfl) ?_
                refine g6_day T hK hP 0 rfl (v := .int (iI (Nb 1))) rfl mw_1_144 dX6_loadUnits_151 ?_
                refine xv_cv (b := N 1) (by rw [hNb, uZ_ne (by omega), qa, sealsF_ne (by rw [offF_ne (by omega)]; omega), offF_ne (by omega)]) ?_
                refine lv_aload_n T.1 T.2.1 dX6_loadUnits_154 rfl (lv_at hl 2 rfl) ?_
                refine g6_settings T hK hP 0 rfl rfl mw_1_149 dX6_loadUnits_155 ?_
                refine xv_iconst T dX6_loadUnits_158 ?_
                refine xa_iald T hK hP 2 rfl rfl 3 (by omega) (by omega) (by decide) dX6_loadUnits_159 ?_
                refine xv_cv (b := N 3) (by rw [hNb, uZ_ne (by omega), qa, sealsF_ne (by rw [offF_ne (by omega)]; omega), offF_ne (by omega)]) ?_
                refine xv_iadd T dX6_loadUnits_160 ?_
                refine cI_V T hK hP hS 12 rfl rfl rfl (c_X0_add l K o Nb gd un (N (104 + gd)) (N 1 + (N 3)) (by omega) (by omega) (by rw [hNb, uZ_ne (by omega), qa, sealsF_ne (by rw [offF_ne (by omega)]; omega), offF_ne (by omega)]; omega)) iX0_add mw_2_119 ⟨Nat.le_of_ble_eq_true rfl, Nat.le_of_ble_eq_true rfl⟩ hP (fun _ h => h) rfl hl.1 rfl (Nat.le_of_ble_eq_true rfl) ⟨Nat.zero_le _, Nat.zero_le _⟩ dX6_loadUnits_161 (fun zb Nc H1 locs qb hP1 hg1 hg2 hS => ?_)
                have hP : xP K (shipW K o Nc) H1 := hP1
                generalize H1 = H at hP hS ⊢
                clear hg1 hg2 hP1
                obtain ⟨hzb, hNc⟩ := qb
                have h6b : Nb 6 = N 6 := by rw [hNb, uZ_ne (by omega), qa, sealsF_ne (by rw [offF_ne (by omega)]; omega), offF_ne (by omega)]
                have hP : xP K (shipW K o (sealsF (bondF N lk gd un) lk)) H := ship_agree (fun k h1 h2 h3 => by rw [hNc, hNb, qa]; exact load_eq (by omega) (by omega) (by omega) (by omega) rfl (by omega) k h3) hP
                exact rI T (u := (sealsF (bondF N lk gd un) lk)) hr hk hK hP hS dX6_loadUnits_164 (by rw [hzb, h6b]; unfold sLoad; rw [if_neg (by omega), if_neg (by omega), if_neg (by omega)])
              · skip
                have c16 : ¬ (N 9 + (un * (N (104 + gd))) ≤ 2147483647) := fun q => c16 ((lI_le (by omega)).mpr q)
                refine xv_bipush T dX6_loadUnits_116 (by omega) ?_
                exact rI T (u := N) hr hk hK hP hS dX6_loadUnits_118 (by skip; unfold sLoad; (repeat' split) <;> first | (exfalso; omega) | rfl)
      · skip
        refine xv_bipush T dX6_loadUnits_33 (by omega) ?_
        exact rI T (u := N) hr hk hK hP hS dX6_loadUnits_35 (by skip; unfold sLoad; (repeat' split) <;> first | (exfalso; omega) | rfl)
  · skip
    refine xv_if_ne T (by omega) (tgt := 12) dX6_loadUnits_7 (by decide) (fun c18 => absurd c18 (by omega)) (fun _ => ?_)
    refine xv_iconst T dX6_loadUnits_10 ?_
    exact rI T (u := N) hr hk hK hP hS dX6_loadUnits_11 (by skip; unfold sLoad; (repeat' split) <;> first | (exfalso; omega) | rfl)
set_option maxHeartbeats 4000000 in
set_option maxRecDepth 100000 in
theorem c_X6_crossTo (l : Launch) (K : KT) (o : Nat) (N : Int → Int) (zn : Int) (r_zn : -2147483648 ≤ zn ∧ zn ≤ 2147483647) (hI : Inv N) : CtI l yX6_crossTo cX6_crossTo 3 .int 3 65 K [.ref o, .int (iI zn)] (shipW K o N) (Blk o 21) (fun (z : Int) (u : Int → Int) => (z, u) = sCross N zn) (fun u => shipW K o u) := by
  refine CtI_of (by decide) (Nat.le_of_ble_eq_true rfl) ?_
  intro p e s m args below meth c T hr hk hP hK ls hl
  have T : CF p m c cX6_crossTo 3 s args RX6 := T
  have hS : va_S (Blk o 21) s.heap s.heap [] := va_S.rf
  have hl : lv_has ls 3 [(0, .ref o), (1, .int (iI zn))] := hl
  obtain ⟨hI0, hIL, hIH, hIB, hID, hIC, hIG, hIZ, hIF⟩ := id hI
  have hR : InR N := ⟨hI0, hIB⟩
  obtain ⟨b0, b1, b2, b3, b4, b5, b6, b7, b8, b9⟩ := id hI0
  have hcn : N 0 = 0 → cntF N 0 = N 4 := fun h => cntF_all (by omega) (fun l a b => hIZ h l a b)
  have hhw : N 0 = 0 → howmF N zn = N 4 := fun h => by unfold howmF; rw [if_pos h]; exact hcn h
  have hh2 : N 0 ≠ 0 → howmF N zn = if zn = 0 then cntF N 1 else 0 := fun h => by unfold howmF; rw [if_neg h]
  have hcr := cntF_in (N := N) 0 (by omega)
  refine lv_iload_n T.1 T.2.1 dX6_crossTo_0 rfl (lv_at hl 1 rfl) ?_
  refine xv_if_lt T (by omega) (tgt := 9) dX6_crossTo_1 (by decide) (fun c1 => ?_) (fun c1 => ?_)
  · skip
    refine xv_iconst T dX6_crossTo_9 ?_
    exact rI T (u := N) hr hk hK hP hS dX6_crossTo_10 (by have := hhw; have := hcn; unfold sCross; first | (exfalso; omega) | rw [if_pos (by omega)] | (rw [if_neg (by omega)]; first | rw [if_pos (by omega)] | (rw [if_neg (by omega)]; rw [if_pos (by omega)])))
  · skip
    refine lv_iload_n T.1 T.2.1 dX6_crossTo_4 rfl (lv_at hl 1 rfl) ?_
    refine xv_iconst T dX6_crossTo_5 ?_
    refine xv_icmp_le T (by omega) (tgt := 11) dX6_crossTo_6 (by decide) (fun c2 => ?_) (fun c2 => ?_)
    · skip
      refine lv_iload_n T.1 T.2.1 dX6_crossTo_11 rfl (lv_at hl 1 rfl) ?_
      refine lv_aload_n T.1 T.2.1 dX6_crossTo_12 rfl (lv_at hl 0 rfl) ?_
      refine g6_zone T hK hP 0 rfl (v := .int (iI (N 0))) rfl mw_1_142 dX6_crossTo_13 ?_
      refine xv_icmp_eq T (by omega) (tgt := 32) dX6_crossTo_16 (by decide) (fun c3 => ?_) (fun c3 => ?_)
      · skip
        refine xv_bipush T dX6_crossTo_32 (by omega) ?_
        exact rI T (u := N) hr hk hK hP hS dX6_crossTo_34 (by have := hhw; have := hcn; unfold sCross; first | (exfalso; omega) | rw [if_pos (by omega)] | (rw [if_neg (by omega)]; first | rw [if_pos (by omega)] | (rw [if_neg (by omega)]; rw [if_pos (by omega)])))
      · skip
        refine lv_iload_n T.1 T.2.1 dX6_crossTo_19 rfl (lv_at hl 1 rfl) ?_
        refine xv_iconst T dX6_crossTo_20 ?_
        refine xv_icmp_eq T (by omega) (tgt := 35) dX6_crossTo_21 (by decide) (fun c4 => ?_) (fun c4 => ?_)
        · skip
          refine lv_aload_n T.1 T.2.1 dX6_crossTo_35 rfl (lv_at hl 0 rfl) ?_
          refine g6_zone T hK hP 0 rfl (v := .int (iI (N 0))) rfl mw_1_142 dX6_crossTo_36 ?_
          refine xv_if_ne T (by omega) (tgt := 63) dX6_crossTo_39 (by decide) (fun c5 => ?_) (fun c5 => ?_)
          · skip
            refine lv_aload_n T.1 T.2.1 dX6_crossTo_63 rfl (lv_at hl 0 rfl) ?_
            refine g6_zone T hK hP 0 rfl (v := .int (iI (N 0))) rfl mw_1_142 dX6_crossTo_64 ?_
            refine lv_istore_n (lv' := [(2, .int (iI (N 0))), (0, .ref o), (1, .int (iI zn))]) T.1 T.2.1 dX6_crossTo_67 rfl hl (by decide) rfl (fun ls hl => ?_)
            refine lv_aload_n T.1 T.2.1 dX6_crossTo_68 rfl (lv_at hl 1 rfl) ?_
            refine lv_iload_n T.1 T.2.1 dX6_crossTo_69 rfl (lv_at hl 2 rfl) ?_
            refine p6_zone T hK hP (ship_D K o N) hS 0 rfl (Nat.le_of_ble_eq_true rfl) mw_1_142 dX6_crossTo_70 (su_f0 K o N zn) (fun H locs hP hS => ?_)
            obtain ⟨Nw, hNw⟩ : ∃ Y0 : Int → Int, Y0 = uZ N 0 zn := ⟨_, rfl⟩
            have hP : xP K (shipW K o Nw) H := by rw [hNw]; exact hP
            have hI0w : In0 Nw := by rw [hNw]; exact in0_zone hI0 (by omega)
            have hILw : InL Nw := by rw [hNw]; intro l a b; rw [uZ_ne (by omega), uZ_ne (by omega), uZ_ne (by omega)]; exact hIL l a b
            have hw4 : Nw 4 = N 4 := by rw [hNw, uZ_ne (by omega)]
            have hw7 : Nw 7 = N 7 := by rw [hNw, uZ_ne (by omega)]
            refine lv_iload_n T.1 T.2.1 dX6_crossTo_73 rfl (lv_at hl 0 rfl) ?_
            refine xv_if_ne T (by omega) (tgt := 82) dX6_crossTo_74 (by decide) (fun c6 => ?_) (fun c6 => ?_)
            · skip
              refine lv_iload_n T.1 T.2.1 dX6_crossTo_82 rfl (lv_at hl 2 rfl) ?_
              refine xv_if_ne T (by omega) (tgt := 93) dX6_crossTo_83 (by decide) (fun c7 => ?_) (fun c7 => ?_)
              · skip
                refine xv_iconst T dX6_crossTo_93 ?_
                exact rI T (u := Nw) hr hk hK hP hS dX6_crossTo_94 (by rw [hNw]; unfold sCross; rw [if_neg (by omega), if_neg (by omega), if_neg (by omega), hh2 (by omega), if_neg (by omega), crF_id (by omega) (by omega)])
              · skip
                refine lv_aload_n T.1 T.2.1 dX6_crossTo_86 rfl (lv_at hl 1 rfl) ?_
                refine cI_V T hK hP hS 0 rfl rfl rfl (c_X6_openLockers l K o Nw hI0w hILw) iX6_openLockers mw_2_228 ⟨Nat.le_of_ble_eq_true rfl, Nat.le_of_ble_eq_true rfl⟩ hP (fun _ h => h) rfl hl.1 rfl (Nat.le_of_ble_eq_true rfl) ⟨Nat.zero_le _, Nat.zero_le _⟩ dX6_crossTo_87 (fun zs Ns H1 locs qs hP1 hg1 hg2 hS => ?_)
                have hP : xP K (shipW K o Ns) H1 := hP1
                generalize H1 = H at hP hS ⊢
                clear hg1 hg2 hP1
                obtain ⟨hzs, hNs⟩ := qs
                have hc1 : cntF Nw 1 = cntF N 1 := by unfold cntF; rw [hw4]; exact sumZ_congr _ fun k a b => by rw [hNw, uZ_ne (by omega)]
                refine lv_goto T.1 T.2.1 (tgt := 94) dX6_crossTo_90 (by decide) ?_
                exact rI T (u := Ns) hr hk hK hP hS dX6_crossTo_94 (by rw [hzs, hNs, hw4, hc1, hNw]; unfold sCross; rw [if_neg (by omega), if_neg (by omega), if_neg (by omega), hh2 (by omega), if_pos (by omega), show zn = 0 by omega, crF_z0 (w := N 0)])
            · skip
              refine lv_aload_n T.1 T.2.1 dX6_crossTo_77 rfl (lv_at hl 1 rfl) ?_
              refine cI_V T hK hP hS 0 rfl rfl rfl (c_X6_sealOpenLockers l K o Nw hI0w (fun l a b => by rw [hNw, uZ_ne (by omega)]; exact hIZ (by omega) l a (by omega)) (by rw [hw4, hw7]; have := hcn (by omega); omega)) iX6_sealOpenLockers mw_2_224 ⟨Nat.le_of_ble_eq_true rfl, Nat.le_of_ble_eq_true rfl⟩ hP (fun _ h => h) rfl hl.1 rfl (Nat.le_of_ble_eq_true rfl) ⟨Nat.zero_le _, Nat.zero_le _⟩ dX6_crossTo_78 (fun zs Ns H1 locs qs hP1 hg1 hg2 hS => ?_)
              have hP : xP K (shipW K o Ns) H1 := hP1
              generalize H1 = H at hP hS ⊢
              clear hg1 hg2 hP1
              obtain ⟨hzs, hNs⟩ := qs
              exact rI T (u := Ns) hr hk hK hP hS dX6_crossTo_81 (by rw [hzs, hNs, hw4, hNw]; unfold sCross; rw [if_neg (by omega), if_neg (by omega), if_neg (by have := hhw (by omega); have := hcn (by omega); omega), crF_so (by omega) (by omega), hhw (by omega)])
          · skip
            refine lv_aload_n T.1 T.2.1 dX6_crossTo_42 rfl (lv_at hl 0 rfl) ?_
            refine g6_seals T hK hP 0 rfl rfl mw_1_153 dX6_crossTo_43 ?_
            refine cI_V T hK hP hS 8 rfl rfl rfl (c_X5_left l K o N (by omega)) iX5_left mw_2_53 ⟨Nat.le_of_ble_eq_true rfl, Nat.le_of_ble_eq_true rfl⟩ hP noA rfl hl.1 rfl (Nat.le_of_ble_eq_true rfl) ⟨Nat.zero_le _, Nat.zero_le _⟩ dX6_crossTo_46 (fun z8 _ H1 locs q9 hP1 hg1 hg2 hS => ?_)
            have hP := xP_kept hP hg2
            generalize H1 = H at hP hS ⊢
            clear hg1 hg2 hP1
            obtain rfl : z8 = 200 - N 7 := q9
            refine lv_aload_n T.1 T.2.1 dX6_crossTo_49 rfl (lv_at hl 0 rfl) ?_
            refine g6_lockers T hK hP 0 rfl rfl mw_1_151 dX6_crossTo_50 ?_
            refine xv_iconst T dX6_crossTo_53 ?_
            refine cI_V T hK hP hS 3 rfl rfl rfl (c_X2_inState l K o N 0 (by omega) (by omega) (by omega)) iX2_inState mw_2_220 ⟨Nat.le_of_ble_eq_true rfl, Nat.le_of_ble_eq_true rfl⟩ hP noA rfl hl.1 rfl (Nat.le_of_ble_eq_true rfl) ⟨Nat.zero_le _, Nat.zero_le _⟩ dX6_crossTo_54 (fun z10 _ H1 locs q11 hP1 hg1 hg2 hS => ?_)
            have hP := xP_kept hP hg2
            generalize H1 = H at hP hS ⊢
            clear hg1 hg2 hP1
            obtain rfl : z10 = cntF N 0 := q11
            refine xv_icmp_ge T (by omega) (tgt := 63) dX6_crossTo_57 (by decide) (fun c12 => ?_) (fun c12 => ?_)
            · skip
              refine lv_aload_n T.1 T.2.1 dX6_crossTo_63 rfl (lv_at hl 0 rfl) ?_
              refine g6_zone T hK hP 0 rfl (v := .int (iI (N 0))) rfl mw_1_142 dX6_crossTo_64 ?_
              refine lv_istore_n (lv' := [(2, .int (iI (N 0))), (0, .ref o), (1, .int (iI zn))]) T.1 T.2.1 dX6_crossTo_67 rfl hl (by decide) rfl (fun ls hl => ?_)
              refine lv_aload_n T.1 T.2.1 dX6_crossTo_68 rfl (lv_at hl 1 rfl) ?_
              refine lv_iload_n T.1 T.2.1 dX6_crossTo_69 rfl (lv_at hl 2 rfl) ?_
              refine p6_zone T hK hP (ship_D K o N) hS 0 rfl (Nat.le_of_ble_eq_true rfl) mw_1_142 dX6_crossTo_70 (su_f0 K o N zn) (fun H locs hP hS => ?_)
              obtain ⟨Nw, hNw⟩ : ∃ Y0 : Int → Int, Y0 = uZ N 0 zn := ⟨_, rfl⟩
              have hP : xP K (shipW K o Nw) H := by rw [hNw]; exact hP
              have hI0w : In0 Nw := by rw [hNw]; exact in0_zone hI0 (by omega)
              have hILw : InL Nw := by rw [hNw]; intro l a b; rw [uZ_ne (by omega), uZ_ne (by omega), uZ_ne (by omega)]; exact hIL l a b
              have hw4 : Nw 4 = N 4 := by rw [hNw, uZ_ne (by omega)]
              have hw7 : Nw 7 = N 7 := by rw [hNw, uZ_ne (by omega)]
              refine lv_iload_n T.1 T.2.1 dX6_crossTo_73 rfl (lv_at hl 0 rfl) ?_
              refine xv_if_ne T (by omega) (tgt := 82) dX6_crossTo_74 (by decide) (fun c13 => ?_) (fun c13 => ?_)
              · skip
                refine lv_iload_n T.1 T.2.1 dX6_crossTo_82 rfl (lv_at hl 2 rfl) ?_
                refine xv_if_ne T (by omega) (tgt := 93) dX6_crossTo_83 (by decide) (fun c14 => ?_) (fun c14 => ?_)
                · skip
                  refine xv_iconst T dX6_crossTo_93 ?_
                  exact rI T (u := Nw) hr hk hK hP hS dX6_crossTo_94 (by rw [hNw]; unfold sCross; rw [if_neg (by omega), if_neg (by omega), if_neg (by omega), hh2 (by omega), if_neg (by omega), crF_id (by omega) (by omega)])
                · skip
                  refine lv_aload_n T.1 T.2.1 dX6_crossTo_86 rfl (lv_at hl 1 rfl) ?_
                  refine cI_V T hK hP hS 0 rfl rfl rfl (c_X6_openLockers l K o Nw hI0w hILw) iX6_openLockers mw_2_228 ⟨Nat.le_of_ble_eq_true rfl, Nat.le_of_ble_eq_true rfl⟩ hP (fun _ h => h) rfl hl.1 rfl (Nat.le_of_ble_eq_true rfl) ⟨Nat.zero_le _, Nat.zero_le _⟩ dX6_crossTo_87 (fun zs Ns H1 locs qs hP1 hg1 hg2 hS => ?_)
                  have hP : xP K (shipW K o Ns) H1 := hP1
                  generalize H1 = H at hP hS ⊢
                  clear hg1 hg2 hP1
                  obtain ⟨hzs, hNs⟩ := qs
                  have hc1 : cntF Nw 1 = cntF N 1 := by unfold cntF; rw [hw4]; exact sumZ_congr _ fun k a b => by rw [hNw, uZ_ne (by omega)]
                  refine lv_goto T.1 T.2.1 (tgt := 94) dX6_crossTo_90 (by decide) ?_
                  exact rI T (u := Ns) hr hk hK hP hS dX6_crossTo_94 (by rw [hzs, hNs, hw4, hc1, hNw]; unfold sCross; rw [if_neg (by omega), if_neg (by omega), if_neg (by omega), hh2 (by omega), if_pos (by omega), show zn = 0 by omega, crF_z0 (w := N 0)])
              · skip
                refine lv_aload_n T.1 T.2.1 dX6_crossTo_77 rfl (lv_at hl 1 rfl) ?_
                refine cI_V T hK hP hS 0 rfl rfl rfl (c_X6_sealOpenLockers l K o Nw hI0w (fun l a b => by rw [hNw, uZ_ne (by omega)]; exact hIZ (by omega) l a (by omega)) (by rw [hw4, hw7]; have := hcn (by omega); omega)) iX6_sealOpenLockers mw_2_224 ⟨Nat.le_of_ble_eq_true rfl, Nat.le_of_ble_eq_true rfl⟩ hP (fun _ h => h) rfl hl.1 rfl (Nat.le_of_ble_eq_true rfl) ⟨Nat.zero_le _, Nat.zero_le _⟩ dX6_crossTo_78 (fun zs Ns H1 locs qs hP1 hg1 hg2 hS => ?_)
                have hP : xP K (shipW K o Ns) H1 := hP1
                generalize H1 = H at hP hS ⊢
                clear hg1 hg2 hP1
                obtain ⟨hzs, hNs⟩ := qs
                exact rI T (u := Ns) hr hk hK hP hS dX6_crossTo_81 (by rw [hzs, hNs, hw4, hNw]; unfold sCross; rw [if_neg (by omega), if_neg (by omega), if_neg (by have := hhw (by omega); have := hcn (by omega); omega), crF_so (by omega) (by omega), hhw (by omega)])
            · skip
              refine xv_bipush T dX6_crossTo_60 (by omega) ?_
              exact rI T (u := N) hr hk hK hP hS dX6_crossTo_62 (by have := hhw; have := hcn; unfold sCross; first | (exfalso; omega) | rw [if_pos (by omega)] | (rw [if_neg (by omega)]; first | rw [if_pos (by omega)] | (rw [if_neg (by omega)]; rw [if_pos (by omega)])))
        · skip
          refine lv_aload_n T.1 T.2.1 dX6_crossTo_24 rfl (lv_at hl 0 rfl) ?_
          refine g6_zone T hK hP 0 rfl (v := .int (iI (N 0))) rfl mw_1_142 dX6_crossTo_25 ?_
          refine xv_iconst T dX6_crossTo_28 ?_
          refine xv_icmp_eq T (by omega) (tgt := 35) dX6_crossTo_29 (by decide) (fun c15 => ?_) (fun c15 => ?_)
          · skip
            refine lv_aload_n T.1 T.2.1 dX6_crossTo_35 rfl (lv_at hl 0 rfl) ?_
            refine g6_zone T hK hP 0 rfl (v := .int (iI (N 0))) rfl mw_1_142 dX6_crossTo_36 ?_
            refine xv_if_ne T (by omega) (tgt := 63) dX6_crossTo_39 (by decide) (fun c16 => ?_) (fun c16 => ?_)
            · skip
              refine lv_aload_n T.1 T.2.1 dX6_crossTo_63 rfl (lv_at hl 0 rfl) ?_
              refine g6_zone T hK hP 0 rfl (v := .int (iI (N 0))) rfl mw_1_142 dX6_crossTo_64 ?_
              refine lv_istore_n (lv' := [(2, .int (iI (N 0))), (0, .ref o), (1, .int (iI zn))]) T.1 T.2.1 dX6_crossTo_67 rfl hl (by decide) rfl (fun ls hl => ?_)
              refine lv_aload_n T.1 T.2.1 dX6_crossTo_68 rfl (lv_at hl 1 rfl) ?_
              refine lv_iload_n T.1 T.2.1 dX6_crossTo_69 rfl (lv_at hl 2 rfl) ?_
              refine p6_zone T hK hP (ship_D K o N) hS 0 rfl (Nat.le_of_ble_eq_true rfl) mw_1_142 dX6_crossTo_70 (su_f0 K o N zn) (fun H locs hP hS => ?_)
              obtain ⟨Nw, hNw⟩ : ∃ Y0 : Int → Int, Y0 = uZ N 0 zn := ⟨_, rfl⟩
              have hP : xP K (shipW K o Nw) H := by rw [hNw]; exact hP
              have hI0w : In0 Nw := by rw [hNw]; exact in0_zone hI0 (by omega)
              have hILw : InL Nw := by rw [hNw]; intro l a b; rw [uZ_ne (by omega), uZ_ne (by omega), uZ_ne (by omega)]; exact hIL l a b
              have hw4 : Nw 4 = N 4 := by rw [hNw, uZ_ne (by omega)]
              have hw7 : Nw 7 = N 7 := by rw [hNw, uZ_ne (by omega)]
              refine lv_iload_n T.1 T.2.1 dX6_crossTo_73 rfl (lv_at hl 0 rfl) ?_
              refine xv_if_ne T (by omega) (tgt := 82) dX6_crossTo_74 (by decide) (fun c17 => ?_) (fun c17 => ?_)
              · skip
                refine lv_iload_n T.1 T.2.1 dX6_crossTo_82 rfl (lv_at hl 2 rfl) ?_
                refine xv_if_ne T (by omega) (tgt := 93) dX6_crossTo_83 (by decide) (fun c18 => ?_) (fun c18 => ?_)
                · skip
                  refine xv_iconst T dX6_crossTo_93 ?_
                  exact rI T (u := Nw) hr hk hK hP hS dX6_crossTo_94 (by rw [hNw]; unfold sCross; rw [if_neg (by omega), if_neg (by omega), if_neg (by omega), hh2 (by omega), if_neg (by omega), crF_id (by omega) (by omega)])
                · skip
                  refine lv_aload_n T.1 T.2.1 dX6_crossTo_86 rfl (lv_at hl 1 rfl) ?_
                  refine cI_V T hK hP hS 0 rfl rfl rfl (c_X6_openLockers l K o Nw hI0w hILw) iX6_openLockers mw_2_228 ⟨Nat.le_of_ble_eq_true rfl, Nat.le_of_ble_eq_true rfl⟩ hP (fun _ h => h) rfl hl.1 rfl (Nat.le_of_ble_eq_true rfl) ⟨Nat.zero_le _, Nat.zero_le _⟩ dX6_crossTo_87 (fun zs Ns H1 locs qs hP1 hg1 hg2 hS => ?_)
                  have hP : xP K (shipW K o Ns) H1 := hP1
                  generalize H1 = H at hP hS ⊢
                  clear hg1 hg2 hP1
                  obtain ⟨hzs, hNs⟩ := qs
                  have hc1 : cntF Nw 1 = cntF N 1 := by unfold cntF; rw [hw4]; exact sumZ_congr _ fun k a b => by rw [hNw, uZ_ne (by omega)]
                  refine lv_goto T.1 T.2.1 (tgt := 94) dX6_crossTo_90 (by decide) ?_
                  exact rI T (u := Ns) hr hk hK hP hS dX6_crossTo_94 (by rw [hzs, hNs, hw4, hc1, hNw]; unfold sCross; rw [if_neg (by omega), if_neg (by omega), if_neg (by omega), hh2 (by omega), if_pos (by omega), show zn = 0 by omega, crF_z0 (w := N 0)])
              · skip
                refine lv_aload_n T.1 T.2.1 dX6_crossTo_77 rfl (lv_at hl 1 rfl) ?_
                refine cI_V T hK hP hS 0 rfl rfl rfl (c_X6_sealOpenLockers l K o Nw hI0w (fun l a b => by rw [hNw, uZ_ne (by omega)]; exact hIZ (by omega) l a (by omega)) (by rw [hw4, hw7]; have := hcn (by omega); omega)) iX6_sealOpenLockers mw_2_224 ⟨Nat.le_of_ble_eq_true rfl, Nat.le_of_ble_eq_true rfl⟩ hP (fun _ h => h) rfl hl.1 rfl (Nat.le_of_ble_eq_true rfl) ⟨Nat.zero_le _, Nat.zero_le _⟩ dX6_crossTo_78 (fun zs Ns H1 locs qs hP1 hg1 hg2 hS => ?_)
                have hP : xP K (shipW K o Ns) H1 := hP1
                generalize H1 = H at hP hS ⊢
                clear hg1 hg2 hP1
                obtain ⟨hzs, hNs⟩ := qs
                exact rI T (u := Ns) hr hk hK hP hS dX6_crossTo_81 (by rw [hzs, hNs, hw4, hNw]; unfold sCross; rw [if_neg (by omega), if_neg (by omega), if_neg (by have := hhw (by omega); have := hcn (by omega); omega), crF_so (by omega) (by omega), hhw (by omega)])
            · skip
              refine lv_aload_n T.1 T.2.1 dX6_crossTo_42 rfl (lv_at hl 0 rfl) ?_
              refine g6_seals T hK hP 0 rfl rfl mw_1_153 dX6_crossTo_43 ?_
              refine cI_V T hK hP hS 8 rfl rfl rfl (c_X5_left l K o N (by omega)) iX5_left mw_2_53 ⟨Nat.le_of_ble_eq_true rfl, Nat.le_of_ble_eq_true rfl⟩ hP noA rfl hl.1 rfl (Nat.le_of_ble_eq_true rfl) ⟨Nat.zero_le _, Nat.zero_le _⟩ dX6_crossTo_46 (fun z19 _ H1 locs q20 hP1 hg1 hg2 hS => ?_)
              have hP := xP_kept hP hg2
              generalize H1 = H at hP hS ⊢
              clear hg1 hg2 hP1
              obtain rfl : z19 = 200 - N 7 := q20
              refine lv_aload_n T.1 T.2.1 dX6_crossTo_49 rfl (lv_at hl 0 rfl) ?_
              refine g6_lockers T hK hP 0 rfl rfl mw_1_151 dX6_crossTo_50 ?_
              refine xv_iconst T dX6_crossTo_53 ?_
              refine cI_V T hK hP hS 3 rfl rfl rfl (c_X2_inState l K o N 0 (by omega) (by omega) (by omega)) iX2_inState mw_2_220 ⟨Nat.le_of_ble_eq_true rfl, Nat.le_of_ble_eq_true rfl⟩ hP noA rfl hl.1 rfl (Nat.le_of_ble_eq_true rfl) ⟨Nat.zero_le _, Nat.zero_le _⟩ dX6_crossTo_54 (fun z21 _ H1 locs q22 hP1 hg1 hg2 hS => ?_)
              have hP := xP_kept hP hg2
              generalize H1 = H at hP hS ⊢
              clear hg1 hg2 hP1
              obtain rfl : z21 = cntF N 0 := q22
              refine xv_icmp_ge T (by omega) (tgt := 63) dX6_crossTo_57 (by decide) (fun c23 => ?_) (fun c23 => ?_)
              · skip
                refine lv_aload_n T.1 T.2.1 dX6_crossTo_63 rfl (lv_at hl 0 rfl) ?_
                refine g6_zone T hK hP 0 rfl (v := .int (iI (N 0))) rfl mw_1_142 dX6_crossTo_64 ?_
                refine lv_istore_n (lv' := [(2, .int (iI (N 0))), (0, .ref o), (1, .int (iI zn))]) T.1 T.2.1 dX6_crossTo_67 rfl hl (by decide) rfl (fun ls hl => ?_)
                refine lv_aload_n T.1 T.2.1 dX6_crossTo_68 rfl (lv_at hl 1 rfl) ?_
                refine lv_iload_n T.1 T.2.1 dX6_crossTo_69 rfl (lv_at hl 2 rfl) ?_
                refine p6_zone T hK hP (ship_D K o N) hS 0 rfl (Nat.le_of_ble_eq_true rfl) mw_1_142 dX6_crossTo_70 (su_f0 K o N zn) (fun H locs hP hS => ?_)
                obtain ⟨Nw, hNw⟩ : ∃ Y0 : Int → Int, Y0 = uZ N 0 zn := ⟨_, rfl⟩
                have hP : xP K (shipW K o Nw) H := by rw [hNw]; exact hP
                have hI0w : In0 Nw := by rw [hNw]; exact in0_zone hI0 (by omega)
                have hILw : InL Nw := by rw [hNw]; intro l a b; rw [uZ_ne (by omega), uZ_ne (by omega), uZ_ne (by omega)]; exact hIL l a b
                have hw4 : Nw 4 = N 4 := by rw [hNw, uZ_ne (by omega)]
                have hw7 : Nw 7 = N 7 := by rw [hNw, uZ_ne (by omega)]
                refine lv_iload_n T.1 T.2.1 dX6_crossTo_73 rfl (lv_at hl 0 rfl) ?_
                refine xv_if_ne T (by omega) (tgt := 82) dX6_crossTo_74 (by decide) (fun c24 => ?_) (fun c24 => ?_)
                · skip
                  refine lv_iload_n T.1 T.2.1 dX6_crossTo_82 rfl (lv_at hl 2 rfl) ?_
                  refine xv_if_ne T (by omega) (tgt := 93) dX6_crossTo_83 (by decide) (fun c25 => ?_) (fun c25 => ?_)
                  · skip
                    refine xv_iconst T dX6_crossTo_93 ?_
                    exact rI T (u := Nw) hr hk hK hP hS dX6_crossTo_94 (by rw [hNw]; unfold sCross; rw [if_neg (by omega), if_neg (by omega), if_neg (by omega), hh2 (by omega), if_neg (by omega), crF_id (by omega) (by omega)])
                  · skip
                    refine lv_aload_n T.1 T.2.1 dX6_crossTo_86 rfl (lv_at hl 1 rfl) ?_
                    refine cI_V T hK hP hS 0 rfl rfl rfl (c_X6_openLockers l K o Nw hI0w hILw) iX6_openLockers mw_2_228 ⟨Nat.le_of_ble_eq_true rfl, Nat.le_of_ble_eq_true rfl⟩ hP (fun _ h => h) rfl hl.1 rfl (Nat.le_of_ble_eq_true rfl) ⟨Nat.zero_le _, Nat.zero_le _⟩ dX6_crossTo_87 (fun zs Ns H1 locs qs hP1 hg1 hg2 hS => ?_)
                    have hP : xP K (shipW K o Ns) H1 := hP1
                    generalize H1 = H at hP hS ⊢
                    clear hg1 hg2 hP1
                    obtain ⟨hzs, hNs⟩ := qs
                    have hc1 : cntF Nw 1 = cntF N 1 := by unfold cntF; rw [hw4]; exact sumZ_congr _ fun k a b => by rw [hNw, uZ_ne (by omega)]
                    refine lv_goto T.1 T.2.1 (tgt := 94) dX6_crossTo_90 (by decide) ?_
                    exact rI T (u := Ns) hr hk hK hP hS dX6_crossTo_94 (by rw [hzs, hNs, hw4, hc1, hNw]; unfold sCross; rw [if_neg (by omega), if_neg (by omega), if_neg (by omega), hh2 (by omega), if_pos (by omega), show zn = 0 by omega, crF_z0 (w := N 0)])
                · skip
                  refine lv_aload_n T.1 T.2.1 dX6_crossTo_77 rfl (lv_at hl 1 rfl) ?_
                  refine cI_V T hK hP hS 0 rfl rfl rfl (c_X6_sealOpenLockers l K o Nw hI0w (fun l a b => by rw [hNw, uZ_ne (by omega)]; exact hIZ (by omega) l a (by omega)) (by rw [hw4, hw7]; have := hcn (by omega); omega)) iX6_sealOpenLockers mw_2_224 ⟨Nat.le_of_ble_eq_true rfl, Nat.le_of_ble_eq_true rfl⟩ hP (fun _ h => h) rfl hl.1 rfl (Nat.le_of_ble_eq_true rfl) ⟨Nat.zero_le _, Nat.zero_le _⟩ dX6_crossTo_78 (fun zs Ns H1 locs qs hP1 hg1 hg2 hS => ?_)
                  have hP : xP K (shipW K o Ns) H1 := hP1
                  generalize H1 = H at hP hS ⊢
                  clear hg1 hg2 hP1
                  obtain ⟨hzs, hNs⟩ := qs
                  exact rI T (u := Ns) hr hk hK hP hS dX6_crossTo_81 (by rw [hzs, hNs, hw4, hNw]; unfold sCross; rw [if_neg (by omega), if_neg (by omega), if_neg (by have := hhw (by omega); have := hcn (by omega); omega), crF_so (by omega) (by omega), hhw (by omega)])
              · skip
                refine xv_bipush T dX6_crossTo_60 (by omega) ?_
                exact rI T (u := N) hr hk hK hP hS dX6_crossTo_62 (by have := hhw; have := hcn; unfold sCross; first | (exfalso; omega) | rw [if_pos (by omega)] | (rw [if_neg (by omega)]; first | rw [if_pos (by omega)] | (rw [if_neg (by omega)]; rw [if_pos (by omega)])))
          · skip
            refine xv_bipush T dX6_crossTo_32 (by omega) ?_
            exact rI T (u := N) hr hk hK hP hS dX6_crossTo_34 (by have := hhw; have := hcn; unfold sCross; first | (exfalso; omega) | rw [if_pos (by omega)] | (rw [if_neg (by omega)]; first | rw [if_pos (by omega)] | (rw [if_neg (by omega)]; rw [if_pos (by omega)])))
    · skip
      refine xv_iconst T dX6_crossTo_9 ?_
      exact rI T (u := N) hr hk hK hP hS dX6_crossTo_10 (by have := hhw; have := hcn; unfold sCross; first | (exfalso; omega) | rw [if_pos (by omega)] | (rw [if_neg (by omega)]; first | rw [if_pos (by omega)] | (rw [if_neg (by omega)]; rw [if_pos (by omega)])))
set_option maxHeartbeats 4000000 in
set_option maxRecDepth 100000 in
theorem c_X6_taxesOf (l : Launch) (K : KT) (o : Nat) (N : Int → Int) (lk : Int) (r_lk : 0 ≤ lk ∧ lk < 5) (hI : Inv N) : CtL l yX6_taxesOf cX6_taxesOf 5 2 58 K [.ref o, .int (iI lk)] (shipW K o N) (NoA) (fun (z : Int) (_ : Unit) => z = sumZ (fun g => worA N g (N (64 + 8 * lk + g))) (N 5).toNat) (fun _ => shipW K o N) := by
  refine CtL_of (by decide) (Nat.le_of_ble_eq_true rfl) ?_
  intro p e s m args below meth c T hr hk hP hK ls hl
  have T : CF p m c cX6_taxesOf 5 s args RX6 := T
  have hS : va_S (NoA) s.heap s.heap [] := va_S.rf
  have hl : lv_has ls 5 [(0, .ref o), (1, .int (iI lk))] := hl
  obtain ⟨hI0, hIL, hIH, hIB, hID, hIC, hIG, hIZ, hIF⟩ := id hI
  have hR : InR N := ⟨hI0, hIB⟩
  obtain ⟨b0, b1, b2, b3, b4, b5, b6, b7, b8, b9⟩ := id hI0
  refine xv_lconst T (z := 0) dX6_taxesOf_0 rfl ?_
  refine lv_lstore_n (lv' := [(2, .long (lI 0)), (0, .ref o), (1, .int (iI lk))]) T.1 T.2.1 dX6_taxesOf_1 rfl hl (by decide) rfl (fun ls hl => ?_)
  refine xv_iconst T dX6_taxesOf_2 ?_
  refine lv_istore (lv' := [(4, .int (iI 0)), (2, .long (lI 0)), (0, .ref o), (1, .int (iI lk))]) T.1 T.2.1 dX6_taxesOf_3 hl (by decide) rfl (fun ls hl => ?_)
  have lp5 : ∀ (fuel : Nat) (acc : Int) (i : Int) (H : Heap) (locs : List Loc) (ls : Array Slot), (0 ≤ i ∧ i ≤ N 5) → (acc = sumZ (fun g => worA N g (N (64 + 8 * lk + g))) i.toNat) → N 5 - i < (fuel : Int) → xP K (shipW K o N) H → va_S (NoA) s.heap H locs → lv_has ls 5 [(0, .ref o), (1, .int (iI lk)), (2, .long (lI acc)), (4, .int (iI i))] → W p l e (rmF 2 58) s m args below meth c H locs 0 0 (MQ below (qL K (fun (z : Int) (_ : Unit) => z = sumZ (fun g => worA N g (N (64 + 8 * lk + g))) (N 5).toNat) (fun _ => shipW K o N) (NoA)) args s 0 0 (NoA)) (F0 m 5 ls []) := by
    intro fuel
    induction fuel with
    | zero =>
      intro acc i H locs ls hi ha hm hP hS hl
      exact absurd hm (by omega)
    | succ fuel ih5 =>
      intro acc i H locs ls hi ha hm hP hS hl
      refine lv_iload T.1 T.2.1 dX6_taxesOf_5 (lv_at hl 3 rfl) ?_
      refine lv_aload_n T.1 T.2.1 dX6_taxesOf_7 rfl (lv_at hl 0 rfl) ?_
      refine g6_goods T hK hP 0 rfl (v := .int (iI (N 5))) rfl mw_1_146 dX6_taxesOf_8 ?_
      refine xv_icmp_ge T (by omega) (tgt := 51) dX6_taxesOf_11 (by decide) (fun c1 => ?_) (fun c1 => ?_)
      · skip
        refine lv_lload_n T.1 T.2.1 dX6_taxesOf_51 rfl (lv_at hl 2 rfl) ?_
        exact rL T (u := ()) hr hk hK hP hS dX6_taxesOf_52 (by rw [ha, show i = N 5 by omega])
      · skip
        refine lv_lload_n T.1 T.2.1 dX6_taxesOf_14 rfl (lv_at hl 2 rfl) ?_
        refine lv_aload_n T.1 T.2.1 dX6_taxesOf_15 rfl (lv_at hl 0 rfl) ?_
        refine g6_bonds T hK hP 0 rfl rfl mw_1_155 dX6_taxesOf_16 ?_
        refine lv_iload T.1 T.2.1 dX6_taxesOf_19 (lv_at hl 3 rfl) ?_
        refine lv_aload_n T.1 T.2.1 dX6_taxesOf_21 rfl (lv_at hl 0 rfl) ?_
        refine g6_lockers T hK hP 0 rfl rfl mw_1_151 dX6_taxesOf_22 ?_
        refine g2_missing T hK hP 3 rfl rfl mw_1_45 dX6_taxesOf_25 ?_
        refine lv_aload_n T.1 T.2.1 dX6_taxesOf_28 rfl (lv_at hl 0 rfl) ?_
        refine g6_lockers T hK hP 0 rfl rfl mw_1_151 dX6_taxesOf_29 ?_
        refine lv_iload_n T.1 T.2.1 dX6_taxesOf_32 rfl (lv_at hl 1 rfl) ?_
        refine lv_iload T.1 T.2.1 dX6_taxesOf_33 (lv_at hl 3 rfl) ?_
        refine cI_V T hK hP hS 3 rfl rfl rfl (c_X2_place l K o N lk i ) iX2_place mw_2_105 ⟨Nat.le_of_ble_eq_true rfl, Nat.le_of_ble_eq_true rfl⟩ hP noA rfl hl.1 rfl (Nat.le_of_ble_eq_true rfl) ⟨Nat.zero_le _, Nat.zero_le _⟩ dX6_taxesOf_35 (fun z2 _ H1 locs q3 hP1 hg1 hg2 hS => ?_)
        have hP := xP_kept hP hg2
        generalize H1 = H at hP hS ⊢
        clear hg1 hg2 hP1
        obtain rfl : z2 = lk * 8 + i := q3
        refine xa_iald T hK hP 7 rfl rfl (64 + 8 * lk + i) (by omega) (by omega) (by decide) dX6_taxesOf_38 ?_
        have f4 := hIH lk i (by omega) (by omega) (by omega) (by omega)
        refine xv_iconst T dX6_taxesOf_39 ?_
        refine cL_V T hK hP hS 12 rfl rfl rfl (c_X0_amountOf_0 l K o N i (N (64 + 8 * lk + i)) (by omega) (by omega) hR) iX0_amountOf mw_2_159 ⟨Nat.le_of_ble_eq_true rfl, Nat.le_of_ble_eq_true rfl⟩ hP noA rfl hl.1 rfl (Nat.le_of_ble_eq_true rfl) ⟨Nat.zero_le _, Nat.zero_le _⟩ dX6_taxesOf_40 (fun z5 _ H1 locs q6 hP1 hg1 hg2 hS => ?_)
        have hP := xP_kept hP hg2
        generalize H1 = H at hP hS ⊢
        clear hg1 hg2 hP1
        obtain rfl : z5 = (worF (N (64 + 8 * lk + i)).toNat N i (-1) (N (64 + 8 * lk + i))).1 := q6
        refine xv_ladd T dX6_taxesOf_43 ?_
        refine lv_lstore_n (lv' := [(2, .long (lI (acc + ((worF (N (64 + 8 * lk + i)).toNat N i (-1) (N (64 + 8 * lk + i))).1)))), (0, .ref o), (1, .int (iI lk)), (4, .int (iI i))]) T.1 T.2.1 dX6_taxesOf_44 rfl hl (by decide) rfl (fun ls hl => ?_)
        refine xv_iinc T (y := i + 1) (lv' := [(4, .int (iI (i + 1))), (2, .long (lI (acc + ((worF (N (64 + 8 * lk + i)).toNat N i (-1) (N (64 + 8 * lk + i))).1)))), (0, .ref o), (1, .int (iI lk))]) dX6_taxesOf_45 hl (q := 3) rfl (by omega) (by decide) rfl (fun ls hl => ?_)
        refine lv_goto T.1 T.2.1 (tgt := 5) dX6_taxesOf_48 (by decide) ?_
        have hrs := has_rest hI (l := lk) (g := i) (by omega) (by omega)
        have hwa := (worA_full (N := N) (g := i) (u := N (64 + 8 * lk + i)) hR (by omega) (by omega)).1 (by omega)
        exact ih5 (acc + ((worF (N (64 + 8 * lk + i)).toNat N i (-1) (N (64 + 8 * lk + i))).1)) (i + 1) _ _ ls (by omega) (by rw [sumZ_step (by omega), ha, hwa]) (by omega) hP hS (lv_sub hl [2, 3, 1, 0] rfl)
  exact lp5 9 0 0 _ _ ls (by omega) rfl (by omega) hP hS (lv_sub hl [2, 3, 1, 0] rfl)
set_option maxHeartbeats 4000000 in
set_option maxRecDepth 100000 in
theorem c_X6_toPayForAll (l : Launch) (K : KT) (o : Nat) (N : Int → Int) (hI : Inv N) : CtL l yX6_toPayForAll cX6_toPayForAll 4 2 58 K [.ref o] (shipW K o N) (NoA) (fun (z : Int) (_ : Unit) => z = payF N) (fun _ => shipW K o N) := by
  refine CtL_of (by decide) (Nat.le_of_ble_eq_true rfl) ?_
  intro p e s m args below meth c T hr hk hP hK ls hl
  have T : CF p m c cX6_toPayForAll 4 s args RX6 := T
  have hS : va_S (NoA) s.heap s.heap [] := va_S.rf
  have hl : lv_has ls 4 [(0, .ref o)] := hl
  obtain ⟨hI0, hIL, hIH, hIB, hID, hIC, hIG, hIZ, hIF⟩ := id hI
  have hR : InR N := ⟨hI0, hIB⟩
  obtain ⟨b0, b1, b2, b3, b4, b5, b6, b7, b8, b9⟩ := id hI0
  have hcn := cntF_in (N := N) 2 (by omega)
  refine lv_aload_n T.1 T.2.1 dX6_toPayForAll_0 rfl (lv_at hl 0 rfl) ?_
  refine g6_lockers T hK hP 0 rfl rfl mw_1_151 dX6_toPayForAll_1 ?_
  refine xv_iconst T dX6_toPayForAll_4 ?_
  refine cI_V T hK hP hS 3 rfl rfl rfl (c_X2_inState l K o N 2 (by omega) (by omega) (by omega)) iX2_inState mw_2_220 ⟨Nat.le_of_ble_eq_true rfl, Nat.le_of_ble_eq_true rfl⟩ hP noA rfl hl.1 rfl (Nat.le_of_ble_eq_true rfl) ⟨Nat.zero_le _, Nat.zero_le _⟩ dX6_toPayForAll_5 (fun z1 _ H1 locs q2 hP1 hg1 hg2 hS => ?_)
  have hP := xP_kept hP hg2
  generalize H1 = H at hP hS ⊢
  clear hg1 hg2 hP1
  obtain rfl : z1 = cntF N 2 := q2
  refine xv_i2l T (by omega) dX6_toPayForAll_8 ?_
  refine lv_aload_n T.1 T.2.1 dX6_toPayForAll_9 rfl (lv_at hl 0 rfl) ?_
  refine g6_settings T hK hP 0 rfl rfl mw_1_149 dX6_toPayForAll_10 ?_
  refine xv_iconst T dX6_toPayForAll_13 ?_
  refine xa_iald T hK hP 2 rfl rfl 2 (by omega) (by omega) (by decide) dX6_toPayForAll_14 ?_
  refine xv_i2l T (by omega) dX6_toPayForAll_15 ?_
  refine xv_lmul T dX6_toPayForAll_16 ?_
  refine lv_lstore_n (lv' := [(1, .long (lI ((cntF N 2) * (N 2)))), (0, .ref o)]) T.1 T.2.1 dX6_toPayForAll_17 rfl hl (by decide) rfl (fun ls hl => ?_)
  refine xv_iconst T dX6_toPayForAll_18 ?_
  refine lv_istore_n (lv' := [(3, .int (iI 0)), (1, .long (lI ((cntF N 2) * (N 2)))), (0, .ref o)]) T.1 T.2.1 dX6_toPayForAll_19 rfl hl (by decide) rfl (fun ls hl => ?_)
  have lp20 : ∀ (fuel : Nat) (acc : Int) (i : Int) (H : Heap) (locs : List Loc) (ls : Array Slot), (0 ≤ i ∧ i ≤ N 5) → (acc = cntF N 2 * N 2 + sumZ (fun g => worA N g (sumZ (fun k => N (64 + 8 * k + g)) 5)) i.toNat) → N 5 - i < (fuel : Int) → xP K (shipW K o N) H → va_S (NoA) s.heap H locs → lv_has ls 4 [(0, .ref o), (1, .long (lI acc)), (3, .int (iI i))] → W p l e (rmF 2 58) s m args below meth c H locs 0 0 (MQ below (qL K (fun (z : Int) (_ : Unit) => z = payF N) (fun _ => shipW K o N) (NoA)) args s 0 0 (NoA)) (F0 m 20 ls []) := by
    intro fuel
    induction fuel with
    | zero =>
      intro acc i H locs ls hi ha hm hP hS hl
      exact absurd hm (by omega)
    | succ fuel ih20 =>
      intro acc i H locs ls hi ha hm hP hS hl
      refine lv_iload_n T.1 T.2.1 dX6_toPayForAll_20 rfl (lv_at hl 2 rfl) ?_
      refine lv_aload_n T.1 T.2.1 dX6_toPayForAll_21 rfl (lv_at hl 0 rfl) ?_
      refine g6_goods T hK hP 0 rfl (v := .int (iI (N 5))) rfl mw_1_146 dX6_toPayForAll_22 ?_
      refine xv_icmp_ge T (by omega) (tgt := 61) dX6_toPayForAll_25 (by decide) (fun c3 => ?_) (fun c3 => ?_)
      · skip
        refine lv_lload_n T.1 T.2.1 dX6_toPayForAll_61 rfl (lv_at hl 1 rfl) ?_
        exact rL T (u := ()) hr hk hK hP hS dX6_toPayForAll_62 (by unfold payF; rw [ha, show i = N 5 by omega])
      · skip
        have hmi := miss_in hI (g := i) (by omega)
        refine lv_lload_n T.1 T.2.1 dX6_toPayForAll_28 rfl (lv_at hl 1 rfl) ?_
        refine lv_aload_n T.1 T.2.1 dX6_toPayForAll_29 rfl (lv_at hl 0 rfl) ?_
        refine g6_bonds T hK hP 0 rfl rfl mw_1_155 dX6_toPayForAll_30 ?_
        refine lv_iload_n T.1 T.2.1 dX6_toPayForAll_33 rfl (lv_at hl 2 rfl) ?_
        refine lv_aload_n T.1 T.2.1 dX6_toPayForAll_34 rfl (lv_at hl 0 rfl) ?_
        refine g6_lockers T hK hP 0 rfl rfl mw_1_151 dX6_toPayForAll_35 ?_
        refine lv_aload_n T.1 T.2.1 dX6_toPayForAll_38 rfl (lv_at hl 0 rfl) ?_
        refine g6_lockers T hK hP 0 rfl rfl mw_1_151 dX6_toPayForAll_39 ?_
        refine g2_missing T hK hP 3 rfl rfl mw_1_45 dX6_toPayForAll_42 ?_
        refine lv_iload_n T.1 T.2.1 dX6_toPayForAll_45 rfl (lv_at hl 2 rfl) ?_
        refine cI_V T hK hP hS 3 rfl rfl rfl (c_X2_sumOfGood_m l K o N i (by omega) (by omega)) iX2_sumOfGood mw_3_85 ⟨Nat.le_of_ble_eq_true rfl, Nat.le_of_ble_eq_true rfl⟩ hP noA rfl hl.1 rfl (Nat.le_of_ble_eq_true rfl) ⟨Nat.zero_le _, Nat.zero_le _⟩ dX6_toPayForAll_46 (fun z4 _ H1 locs q5 hP1 hg1 hg2 hS => ?_)
        have hP := xP_kept hP hg2
        generalize H1 = H at hP hS ⊢
        clear hg1 hg2 hP1
        obtain rfl : z4 = sumZ (fun k => N (64 + 8 * k + i)) (N 4).toNat := q5
        refine xv_cv (b := sumZ (fun k => N (64 + 8 * k + i)) 5) (sumL hI (g := i) (by omega)).1 ?_
        refine xv_iconst T dX6_toPayForAll_49 ?_
        refine cL_V T hK hP hS 12 rfl rfl rfl (c_X0_amountOf_0 l K o N i (sumZ (fun k => N (64 + 8 * k + i)) 5) (by omega) (by omega) hR) iX0_amountOf mw_2_159 ⟨Nat.le_of_ble_eq_true rfl, Nat.le_of_ble_eq_true rfl⟩ hP noA rfl hl.1 rfl (Nat.le_of_ble_eq_true rfl) ⟨Nat.zero_le _, Nat.zero_le _⟩ dX6_toPayForAll_50 (fun z6 _ H1 locs q7 hP1 hg1 hg2 hS => ?_)
        have hP := xP_kept hP hg2
        generalize H1 = H at hP hS ⊢
        clear hg1 hg2 hP1
        obtain rfl : z6 = (worF (sumZ (fun k => N (64 + 8 * k + i)) 5).toNat N i (-1) (sumZ (fun k => N (64 + 8 * k + i)) 5)).1 := q7
        refine xv_ladd T dX6_toPayForAll_53 ?_
        refine lv_lstore_n (lv' := [(1, .long (lI (acc + ((worF (sumZ (fun k => N (64 + 8 * k + i)) 5).toNat N i (-1) (sumZ (fun k => N (64 + 8 * k + i)) 5)).1)))), (0, .ref o), (3, .int (iI i))]) T.1 T.2.1 dX6_toPayForAll_54 rfl hl (by decide) rfl (fun ls hl => ?_)
        refine xv_iinc T (y := i + 1) (lv' := [(3, .int (iI (i + 1))), (1, .long (lI (acc + ((worF (sumZ (fun k => N (64 + 8 * k + i)) 5).toNat N i (-1) (sumZ (fun k => N (64 + 8 * k + i)) 5)).1)))), (0, .ref o)]) dX6_toPayForAll_55 hl (q := 2) rfl (by omega) (by decide) rfl (fun ls hl => ?_)
        refine lv_goto T.1 T.2.1 (tgt := 20) dX6_toPayForAll_58 (by decide) ?_
        have hrs := has_rest hI (l := 0) (g := i) (by omega) (by omega)
        have hmf : missF N i = sumZ (fun k => N (64 + 8 * k + i)) 5 := rfl
        have hwa := (worA_full (N := N) (g := i) (u := sumZ (fun k => N (64 + 8 * k + i)) 5) hR (by omega) (by omega)).1 (by omega)
        exact ih20 (acc + ((worF (sumZ (fun k => N (64 + 8 * k + i)) 5).toNat N i (-1) (sumZ (fun k => N (64 + 8 * k + i)) 5)).1)) (i + 1) _ _ ls (by omega) (by rw [sumZ_step (by omega), ha, hwa, Int.add_assoc]) (by omega) hP hS (lv_sub hl [2, 1, 0] rfl)
  exact lp20 9 ((cntF N 2) * (N 2)) 0 _ _ ls (by omega) (Int.add_zero _).symm (by omega) hP hS (lv_sub hl [2, 1, 0] rfl)
