set_option maxHeartbeats 4000000 in
set_option maxRecDepth 100000 in
theorem c_X7_lockerOf (l : Launch) (K : KT) (o : Nat) (N M : Int → Int) (R : Nat → Int → Int) (G L NU TT : Int → Int) (lk wh : Int) (r_lk : -2147483648 ≤ lk ∧ lk ≤ 2147483647) (r_wh : -2147483648 ≤ wh ∧ wh ≤ 2147483647) (hI : Inv N) : CtI l yX7_lockerOf cX7_lockerOf 4 .int 2 46 K [.ref o, .int (iI lk), .int (iI wh)] (xW K o N M R G L NU TT) (NoA) (fun (z : Int) (_ : Unit) => z = qLockerOf N lk wh) (fun _ => xW K o N M R G L NU TT) := by
  refine CtI_of (by decide) (Nat.le_of_ble_eq_true rfl) ?_
  intro p e s m args below meth c T hr hk hP hK ls hl
  have T : CF p m c cX7_lockerOf 4 s args RX7 := T
  have hS : va_S (NoA) s.heap s.heap [] := va_S.rf
  have hl : lv_has ls 4 [(0, .ref o), (1, .int (iI lk)), (2, .int (iI wh))] := hl
  obtain ⟨hI0, hIL, hIH, hIB, hID, hIC, hIG, hIZ, hIF⟩ := id hI
  have hR : InR N := ⟨hI0, hIB⟩
  obtain ⟨b0, b1, b2, b3, b4, b5, b6, b7, b8, b9⟩ := id hI0
  refine lv_aload_n T.1 T.2.1 dX7_lockerOf_0 rfl (lv_at hl 0 rfl) ?_
  refine g7_ship T hK hP 0 rfl rfl mw_1_237 dX7_lockerOf_1 ?_
  refine lv_iload_n T.1 T.2.1 dX7_lockerOf_4 rfl (lv_at hl 1 rfl) ?_
  refine cI_V T hK hP hS 6 rfl rfl rfl (c_X6_hasLocker l K (o + 1) N lk (by omega) (by omega)) iX6_hasLocker mw_2_127 ⟨Nat.le_of_ble_eq_true rfl, Nat.le_of_ble_eq_true rfl⟩ (xW_3 hP) noA rfl hl.1 rfl (Nat.le_of_ble_eq_true rfl) ⟨Nat.zero_le _, Nat.zero_le _⟩ dX7_lockerOf_5 (fun z1 _ H1 locs q2 hP1 hg1 hg2 hS => ?_)
  have hP := xP_kept hP hg2
  generalize H1 = H at hP hS ⊢
  clear hg1 hg2 hP1
  rcases q2 with ⟨rfl, q2⟩ | ⟨rfl, q2⟩
  · skip
    refine xv_if_eq T (by omega) (tgt := 21) dX7_lockerOf_8 (by decide) (fun c3 => absurd c3 (by omega)) (fun _ => ?_)
    refine lv_iload_n T.1 T.2.1 dX7_lockerOf_11 rfl (lv_at hl 2 rfl) ?_
    refine xv_if_lt T (by omega) (tgt := 21) dX7_lockerOf_12 (by decide) (fun c4 => ?_) (fun c4 => ?_)
    · skip
      refine xv_iconst T dX7_lockerOf_21 ?_
      exact rI T (u := ()) hr hk hK hP hS dX7_lockerOf_22 (by unfold qLockerOf; (repeat' split) <;> first | rfl | (exfalso; omega) | omega)
    · skip
      refine lv_iload_n T.1 T.2.1 dX7_lockerOf_15 rfl (lv_at hl 2 rfl) ?_
      refine xv_bipush T dX7_lockerOf_16 (by omega) ?_
      refine xv_icmp_le T (by omega) (tgt := 23) dX7_lockerOf_18 (by decide) (fun c5 => ?_) (fun c5 => ?_)
      · skip
        refine lv_aload_n T.1 T.2.1 dX7_lockerOf_23 rfl (lv_at hl 0 rfl) ?_
        refine g7_ship T hK hP 0 rfl rfl mw_1_237 dX7_lockerOf_24 ?_
        refine g6_lockers T hK hP 6 rfl rfl mw_1_152 dX7_lockerOf_27 ?_
        refine lv_astore_n (lv' := [(3, .ref (o + 1 + 3)), (0, .ref o), (1, .int (iI lk)), (2, .int (iI wh))]) T.1 T.2.1 dX7_lockerOf_30 rfl hl (by decide) rfl (fun ls hl => ?_)
        refine lv_iload_n T.1 T.2.1 dX7_lockerOf_31 rfl (lv_at hl 3 rfl) ?_
        by_cases c6l : wh < 8
        · skip
          refine xv_tableOut T (tgt := 113) (by omega) dX7_lockerOf_32 (by omega) (by decide) ?_
          refine lv_aload_n T.1 T.2.1 dX7_lockerOf_113 rfl (lv_at hl 1 rfl) ?_
          refine g7_ship T hK hP 0 rfl rfl mw_1_237 dX7_lockerOf_114 ?_
          refine lv_iload_n T.1 T.2.1 dX7_lockerOf_117 rfl (lv_at hl 3 rfl) ?_
          refine cI_V T hK hP hS 6 rfl rfl rfl (c_X6_hasGood l K (o + 1) N wh (by omega) (by omega)) iX6_hasGood mw_2_133 ⟨Nat.le_of_ble_eq_true rfl, Nat.le_of_ble_eq_true rfl⟩ (xW_3 hP) noA rfl hl.1 rfl (Nat.le_of_ble_eq_true rfl) ⟨Nat.zero_le _, Nat.zero_le _⟩ dX7_lockerOf_118 (fun z7 _ H1 locs q8 hP1 hg1 hg2 hS => ?_)
          have hP := xP_kept hP hg2
          generalize H1 = H at hP hS ⊢
          clear hg1 hg2 hP1
          rcases q8 with ⟨rfl, q8⟩ | ⟨rfl, q8⟩
          · skip
            refine xv_if_eq T (by omega) (tgt := 138) dX7_lockerOf_121 (by decide) (fun c9 => absurd c9 (by omega)) (fun _ => ?_)
            refine lv_aload_n T.1 T.2.1 dX7_lockerOf_124 rfl (lv_at hl 0 rfl) ?_
            refine g2_units T hK hP 9 rfl rfl mw_1_41 dX7_lockerOf_125 ?_
            refine lv_aload_n T.1 T.2.1 dX7_lockerOf_128 rfl (lv_at hl 0 rfl) ?_
            refine lv_iload_n T.1 T.2.1 dX7_lockerOf_129 rfl (lv_at hl 2 rfl) ?_
            refine lv_iload_n T.1 T.2.1 dX7_lockerOf_130 rfl (lv_at hl 3 rfl) ?_
            refine cI_V T hK hP hS 9 rfl rfl rfl (c_X2_place l K (o + 1) N lk wh ) iX2_place mw_2_134 ⟨Nat.le_of_ble_eq_true rfl, Nat.le_of_ble_eq_true rfl⟩ (xW_3 hP) noA rfl hl.1 rfl (Nat.le_of_ble_eq_true rfl) ⟨Nat.zero_le _, Nat.zero_le _⟩ dX7_lockerOf_131 (fun z10 _ H1 locs q11 hP1 hg1 hg2 hS => ?_)
            have hP := xP_kept hP hg2
            generalize H1 = H at hP hS ⊢
            clear hg1 hg2 hP1
            obtain rfl : z10 = lk * 8 + wh := q11
            refine xa_iald T hK hP 12 rfl rfl (24 + 8 * lk + wh) (by omega) (by omega) (by decide) dX7_lockerOf_134 ?_
            have f12 := hIH lk wh (by omega) (by omega) (by omega) (by omega)
            refine lv_goto T.1 T.2.1 (tgt := 139) dX7_lockerOf_135 (by decide) ?_
            exact rI T (u := ()) hr hk hK hP hS dX7_lockerOf_139 (by unfold qLockerOf; (repeat' split) <;> first | rfl | (exfalso; omega) | omega)
          · skip
            refine xv_if_eq T (by omega) (tgt := 138) dX7_lockerOf_121 (by decide) (fun _ => ?_) (fun c13 => absurd c13 (by omega))
            refine xv_iconst T dX7_lockerOf_138 ?_
            exact rI T (u := ()) hr hk hK hP hS dX7_lockerOf_139 (by unfold qLockerOf; (repeat' split) <;> first | rfl | (exfalso; omega) | omega)
        by_cases c6h : 11 < wh
        · skip
          refine xv_tableOut T (tgt := 113) (by omega) dX7_lockerOf_32 (by omega) (by decide) ?_
          refine lv_aload_n T.1 T.2.1 dX7_lockerOf_113 rfl (lv_at hl 1 rfl) ?_
          refine g7_ship T hK hP 0 rfl rfl mw_1_237 dX7_lockerOf_114 ?_
          refine lv_iload_n T.1 T.2.1 dX7_lockerOf_117 rfl (lv_at hl 3 rfl) ?_
          refine cI_V T hK hP hS 6 rfl rfl rfl (c_X6_hasGood l K (o + 1) N wh (by omega) (by omega)) iX6_hasGood mw_2_133 ⟨Nat.le_of_ble_eq_true rfl, Nat.le_of_ble_eq_true rfl⟩ (xW_3 hP) noA rfl hl.1 rfl (Nat.le_of_ble_eq_true rfl) ⟨Nat.zero_le _, Nat.zero_le _⟩ dX7_lockerOf_118 (fun z14 _ H1 locs q15 hP1 hg1 hg2 hS => ?_)
          have hP := xP_kept hP hg2
          generalize H1 = H at hP hS ⊢
          clear hg1 hg2 hP1
          rcases q15 with ⟨rfl, q15⟩ | ⟨rfl, q15⟩
          · skip
            refine xv_if_eq T (by omega) (tgt := 138) dX7_lockerOf_121 (by decide) (fun c16 => absurd c16 (by omega)) (fun _ => ?_)
            refine lv_aload_n T.1 T.2.1 dX7_lockerOf_124 rfl (lv_at hl 0 rfl) ?_
            refine g2_units T hK hP 9 rfl rfl mw_1_41 dX7_lockerOf_125 ?_
            refine lv_aload_n T.1 T.2.1 dX7_lockerOf_128 rfl (lv_at hl 0 rfl) ?_
            refine lv_iload_n T.1 T.2.1 dX7_lockerOf_129 rfl (lv_at hl 2 rfl) ?_
            refine lv_iload_n T.1 T.2.1 dX7_lockerOf_130 rfl (lv_at hl 3 rfl) ?_
            refine cI_V T hK hP hS 9 rfl rfl rfl (c_X2_place l K (o + 1) N lk wh ) iX2_place mw_2_134 ⟨Nat.le_of_ble_eq_true rfl, Nat.le_of_ble_eq_true rfl⟩ (xW_3 hP) noA rfl hl.1 rfl (Nat.le_of_ble_eq_true rfl) ⟨Nat.zero_le _, Nat.zero_le _⟩ dX7_lockerOf_131 (fun z17 _ H1 locs q18 hP1 hg1 hg2 hS => ?_)
            have hP := xP_kept hP hg2
            generalize H1 = H at hP hS ⊢
            clear hg1 hg2 hP1
            obtain rfl : z17 = lk * 8 + wh := q18
            refine xa_iald T hK hP 12 rfl rfl (24 + 8 * lk + wh) (by omega) (by omega) (by decide) dX7_lockerOf_134 ?_
            have f19 := hIH lk wh (by omega) (by omega) (by omega) (by omega)
            refine lv_goto T.1 T.2.1 (tgt := 139) dX7_lockerOf_135 (by decide) ?_
            exact rI T (u := ()) hr hk hK hP hS dX7_lockerOf_139 (by unfold qLockerOf; (repeat' split) <;> first | rfl | (exfalso; omega) | omega)
          · skip
            refine xv_if_eq T (by omega) (tgt := 138) dX7_lockerOf_121 (by decide) (fun _ => ?_) (fun c20 => absurd c20 (by omega))
            refine xv_iconst T dX7_lockerOf_138 ?_
            exact rI T (u := ()) hr hk hK hP hS dX7_lockerOf_139 (by unfold qLockerOf; (repeat' split) <;> first | rfl | (exfalso; omega) | omega)
        have c6_8 : 8 ≤ wh := by omega
        by_cases c6 : wh = 8
        · skip
          refine xv_tableIn T (off := 32) (tgt := 64) 8 c6 (by omega) dX7_lockerOf_32 (by omega) (by omega) (by decide) (by decide) ?_
          refine lv_aload_n T.1 T.2.1 dX7_lockerOf_64 rfl (lv_at hl 0 rfl) ?_
          refine g2_state T hK hP 9 rfl rfl mw_1_35 dX7_lockerOf_65 ?_
          refine lv_iload_n T.1 T.2.1 dX7_lockerOf_68 rfl (lv_at hl 2 rfl) ?_
          refine xa_iald T hK hP 10 rfl rfl (14 + lk) (by omega) (by omega) (by decide) dX7_lockerOf_69 ?_
          have f21 := hIL lk (by omega) (by omega)
          exact rI T (u := ()) hr hk hK hP hS dX7_lockerOf_70 (by unfold qLockerOf; (repeat' split) <;> first | rfl | (exfalso; omega) | omega)
        have c6_9 : 9 ≤ wh := by omega
        clear c6 c6_8
        by_cases c6 : wh = 9
        · skip
          refine xv_tableIn T (off := 39) (tgt := 71) 9 c6 (by omega) dX7_lockerOf_32 (by omega) (by omega) (by decide) (by decide) ?_
          refine lv_aload_n T.1 T.2.1 dX7_lockerOf_71 rfl (lv_at hl 0 rfl) ?_
          refine g2_state T hK hP 9 rfl rfl mw_1_35 dX7_lockerOf_72 ?_
          refine lv_iload_n T.1 T.2.1 dX7_lockerOf_75 rfl (lv_at hl 2 rfl) ?_
          refine xa_iald T hK hP 10 rfl rfl (14 + lk) (by omega) (by omega) (by decide) dX7_lockerOf_76 ?_
          have f22 := hIL lk (by omega) (by omega)
          refine xv_iconst T dX7_lockerOf_77 ?_
          refine xv_icmp_ne T (by omega) (tgt := 90) dX7_lockerOf_78 (by decide) (fun c23 => ?_) (fun c23 => ?_)
          · skip
            refine xv_bipush T dX7_lockerOf_90 (by omega) ?_
            exact rI T (u := ()) hr hk hK hP hS dX7_lockerOf_92 (by unfold qLockerOf; (repeat' split) <;> first | rfl | (exfalso; omega) | omega)
          · skip
            refine lv_aload_n T.1 T.2.1 dX7_lockerOf_81 rfl (lv_at hl 0 rfl) ?_
            refine g2_seal T hK hP 9 rfl rfl mw_1_38 dX7_lockerOf_82 ?_
            refine lv_iload_n T.1 T.2.1 dX7_lockerOf_85 rfl (lv_at hl 2 rfl) ?_
            refine xa_iald T hK hP 11 rfl rfl (19 + lk) (by omega) (by omega) (by decide) dX7_lockerOf_86 ?_
            refine lv_goto T.1 T.2.1 (tgt := 92) dX7_lockerOf_87 (by decide) ?_
            exact rI T (u := ()) hr hk hK hP hS dX7_lockerOf_92 (by unfold qLockerOf; (repeat' split) <;> first | rfl | (exfalso; omega) | omega)
        have c6_10 : 10 ≤ wh := by omega
        clear c6 c6_9
        by_cases c6 : wh = 10
        · skip
          refine xv_tableIn T (off := 61) (tgt := 93) 10 c6 (by omega) dX7_lockerOf_32 (by omega) (by omega) (by decide) (by decide) ?_
          refine lv_aload_n T.1 T.2.1 dX7_lockerOf_93 rfl (lv_at hl 0 rfl) ?_
          refine lv_aload_n T.1 T.2.1 dX7_lockerOf_94 rfl (lv_at hl 0 rfl) ?_
          refine g2_units T hK hP 9 rfl rfl mw_1_41 dX7_lockerOf_95 ?_
          refine lv_iload_n T.1 T.2.1 dX7_lockerOf_98 rfl (lv_at hl 2 rfl) ?_
          refine cI_V T hK hP hS 9 rfl rfl rfl (c_X2_sumOfLocker_u l K (o + 1) N lk (by omega)) iX2_sumOfLocker mw_2_128 ⟨Nat.le_of_ble_eq_true rfl, Nat.le_of_ble_eq_true rfl⟩ (xW_3 hP) noA rfl hl.1 rfl (Nat.le_of_ble_eq_true rfl) ⟨Nat.zero_le _, Nat.zero_le _⟩ dX7_lockerOf_99 (fun z24 _ H1 locs q25 hP1 hg1 hg2 hS => ?_)
          have hP := xP_kept hP hg2
          generalize H1 = H at hP hS ⊢
          clear hg1 hg2 hP1
          obtain rfl : z24 = sumZ (fun k => N (24 + 8 * lk + k)) 8 := q25
          exact rI T (u := ()) hr hk hK hP hS dX7_lockerOf_102 (by unfold qLockerOf; (repeat' split) <;> first | rfl | (exfalso; omega) | omega)
        have c6_11 : 11 ≤ wh := by omega
        clear c6 c6_10
        have c6 : wh = 11 := by omega
        refine xv_tableIn T (off := 71) (tgt := 103) 11 c6 (by omega) dX7_lockerOf_32 (by omega) (by omega) (by decide) (by decide) ?_
        refine lv_aload_n T.1 T.2.1 dX7_lockerOf_103 rfl (lv_at hl 0 rfl) ?_
        refine lv_aload_n T.1 T.2.1 dX7_lockerOf_104 rfl (lv_at hl 0 rfl) ?_
        refine g2_missing T hK hP 9 rfl rfl mw_1_44 dX7_lockerOf_105 ?_
        refine lv_iload_n T.1 T.2.1 dX7_lockerOf_108 rfl (lv_at hl 2 rfl) ?_
        refine cI_V T hK hP hS 9 rfl rfl rfl (c_X2_sumOfLocker_m l K (o + 1) N lk (by omega)) iX2_sumOfLocker mw_2_128 ⟨Nat.le_of_ble_eq_true rfl, Nat.le_of_ble_eq_true rfl⟩ (xW_3 hP) noA rfl hl.1 rfl (Nat.le_of_ble_eq_true rfl) ⟨Nat.zero_le _, Nat.zero_le _⟩ dX7_lockerOf_109 (fun z26 _ H1 locs q27 hP1 hg1 hg2 hS => ?_)
        have hP := xP_kept hP hg2
        generalize H1 = H at hP hS ⊢
        clear hg1 hg2 hP1
        obtain rfl : z26 = sumZ (fun k => N (64 + 8 * lk + k)) 8 := q27
        exact rI T (u := ()) hr hk hK hP hS dX7_lockerOf_112 (by unfold qLockerOf; (repeat' split) <;> first | rfl | (exfalso; omega) | omega)
      · skip
        refine xv_iconst T dX7_lockerOf_21 ?_
        exact rI T (u := ()) hr hk hK hP hS dX7_lockerOf_22 (by unfold qLockerOf; (repeat' split) <;> first | rfl | (exfalso; omega) | omega)
  · skip
    refine xv_if_eq T (by omega) (tgt := 21) dX7_lockerOf_8 (by decide) (fun _ => ?_) (fun c28 => absurd c28 (by omega))
    refine xv_iconst T dX7_lockerOf_21 ?_
    exact rI T (u := ()) hr hk hK hP hS dX7_lockerOf_22 (by unfold qLockerOf; (repeat' split) <;> first | rfl | (exfalso; omega) | omega)
set_option maxHeartbeats 4000000 in
set_option maxRecDepth 100000 in
theorem c_X7_missing (l : Launch) (K : KT) (o : Nat) (N M : Int → Int) (R : Nat → Int → Int) (G L NU TT : Int → Int) (lk gd : Int) (r_lk : -2147483648 ≤ lk ∧ lk ≤ 2147483647) (r_gd : -2147483648 ≤ gd ∧ gd ≤ 2147483647) (hI : Inv N) : CtI l yX7_missing cX7_missing 3 .int 1 22 K [.ref o, .int (iI lk), .int (iI gd)] (xW K o N M R G L NU TT) (NoA) (fun (z : Int) (_ : Unit) => z = qMissing N lk gd) (fun _ => xW K o N M R G L NU TT) := by
  refine CtI_of (by decide) (Nat.le_of_ble_eq_true rfl) ?_
  intro p e s m args below meth c T hr hk hP hK ls hl
  have T : CF p m c cX7_missing 3 s args RX7 := T
  have hS : va_S (NoA) s.heap s.heap [] := va_S.rf
  have hl : lv_has ls 3 [(0, .ref o), (1, .int (iI lk)), (2, .int (iI gd))] := hl
  obtain ⟨hI0, hIL, hIH, hIB, hID, hIC, hIG, hIZ, hIF⟩ := id hI
  have hR : InR N := ⟨hI0, hIB⟩
  obtain ⟨b0, b1, b2, b3, b4, b5, b6, b7, b8, b9⟩ := id hI0
  refine lv_aload_n T.1 T.2.1 dX7_missing_0 rfl (lv_at hl 0 rfl) ?_
  refine g7_ship T hK hP 0 rfl rfl mw_1_237 dX7_missing_1 ?_
  refine lv_iload_n T.1 T.2.1 dX7_missing_4 rfl (lv_at hl 1 rfl) ?_
  refine cI_V T hK hP hS 6 rfl rfl rfl (c_X6_hasLocker l K (o + 1) N lk (by omega) (by omega)) iX6_hasLocker mw_2_127 ⟨Nat.le_of_ble_eq_true rfl, Nat.le_of_ble_eq_true rfl⟩ (xW_3 hP) noA rfl hl.1 rfl (Nat.le_of_ble_eq_true rfl) ⟨Nat.zero_le _, Nat.zero_le _⟩ dX7_missing_5 (fun z1 _ H1 locs q2 hP1 hg1 hg2 hS => ?_)
  have hP := xP_kept hP hg2
  generalize H1 = H at hP hS ⊢
  clear hg1 hg2 hP1
  rcases q2 with ⟨rfl, q2⟩ | ⟨rfl, q2⟩
  · skip
    refine xv_if_eq T (by omega) (tgt := 22) dX7_missing_8 (by decide) (fun c3 => absurd c3 (by omega)) (fun _ => ?_)
    refine lv_aload_n T.1 T.2.1 dX7_missing_11 rfl (lv_at hl 0 rfl) ?_
    refine g7_ship T hK hP 0 rfl rfl mw_1_237 dX7_missing_12 ?_
    refine lv_iload_n T.1 T.2.1 dX7_missing_15 rfl (lv_at hl 2 rfl) ?_
    refine cI_V T hK hP hS 6 rfl rfl rfl (c_X6_hasGood l K (o + 1) N gd (by omega) (by omega)) iX6_hasGood mw_2_133 ⟨Nat.le_of_ble_eq_true rfl, Nat.le_of_ble_eq_true rfl⟩ (xW_3 hP) noA rfl hl.1 rfl (Nat.le_of_ble_eq_true rfl) ⟨Nat.zero_le _, Nat.zero_le _⟩ dX7_missing_16 (fun z4 _ H1 locs q5 hP1 hg1 hg2 hS => ?_)
    have hP := xP_kept hP hg2
    generalize H1 = H at hP hS ⊢
    clear hg1 hg2 hP1
    rcases q5 with ⟨rfl, q5⟩ | ⟨rfl, q5⟩
    · skip
      refine xv_if_ne T (by omega) (tgt := 24) dX7_missing_19 (by decide) (fun _ => ?_) (fun c6 => absurd c6 (by omega))
      refine lv_aload_n T.1 T.2.1 dX7_missing_24 rfl (lv_at hl 0 rfl) ?_
      refine g7_ship T hK hP 0 rfl rfl mw_1_237 dX7_missing_25 ?_
      refine g6_lockers T hK hP 6 rfl rfl mw_1_152 dX7_missing_28 ?_
      refine g2_missing T hK hP 9 rfl rfl mw_1_44 dX7_missing_31 ?_
      refine lv_aload_n T.1 T.2.1 dX7_missing_34 rfl (lv_at hl 0 rfl) ?_
      refine g7_ship T hK hP 0 rfl rfl mw_1_237 dX7_missing_35 ?_
      refine g6_lockers T hK hP 6 rfl rfl mw_1_152 dX7_missing_38 ?_
      refine lv_iload_n T.1 T.2.1 dX7_missing_41 rfl (lv_at hl 1 rfl) ?_
      refine lv_iload_n T.1 T.2.1 dX7_missing_42 rfl (lv_at hl 2 rfl) ?_
      refine cI_V T hK hP hS 9 rfl rfl rfl (c_X2_place l K (o + 1) N lk gd ) iX2_place mw_2_134 ⟨Nat.le_of_ble_eq_true rfl, Nat.le_of_ble_eq_true rfl⟩ (xW_3 hP) noA rfl hl.1 rfl (Nat.le_of_ble_eq_true rfl) ⟨Nat.zero_le _, Nat.zero_le _⟩ dX7_missing_43 (fun z7 _ H1 locs q8 hP1 hg1 hg2 hS => ?_)
      have hP := xP_kept hP hg2
      generalize H1 = H at hP hS ⊢
      clear hg1 hg2 hP1
      obtain rfl : z7 = lk * 8 + gd := q8
      refine xa_iald T hK hP 13 rfl rfl (64 + 8 * lk + gd) (by omega) (by omega) (by decide) dX7_missing_46 ?_
      have f9 := hIH lk gd (by omega) (by omega) (by omega) (by omega)
      exact rI T (u := ()) hr hk hK hP hS dX7_missing_47 (by unfold qMissing; (repeat' split) <;> first | rfl | (exfalso; omega) | omega)
    · skip
      refine xv_if_ne T (by omega) (tgt := 24) dX7_missing_19 (by decide) (fun c10 => absurd c10 (by omega)) (fun _ => ?_)
      refine xv_iconst T dX7_missing_22 ?_
      exact rI T (u := ()) hr hk hK hP hS dX7_missing_23 (by unfold qMissing; (repeat' split) <;> first | rfl | (exfalso; omega) | omega)
  · skip
    refine xv_if_eq T (by omega) (tgt := 22) dX7_missing_8 (by decide) (fun _ => ?_) (fun c11 => absurd c11 (by omega))
    refine xv_iconst T dX7_missing_22 ?_
    exact rI T (u := ()) hr hk hK hP hS dX7_missing_23 (by unfold qMissing; (repeat' split) <;> first | rfl | (exfalso; omega) | omega)
set_option maxHeartbeats 4000000 in
set_option maxRecDepth 100000 in
theorem c_X7_seal (l : Launch) (K : KT) (o : Nat) (N M : Int → Int) (R : Nat → Int → Int) (G L NU TT : Int → Int) (sl wh : Int) (r_sl : -2147483648 ≤ sl ∧ sl ≤ 2147483647) (r_wh : -2147483648 ≤ wh ∧ wh ≤ 2147483647) (hI : Inv N) : CtI l yX7_seal cX7_seal 4 .int 0 0 K [.ref o, .int (iI sl), .int (iI wh)] (xW K o N M R G L NU TT) (NoA) (fun (z : Int) (_ : Unit) => z = qSeal N sl wh) (fun _ => xW K o N M R G L NU TT) := by
  refine CtI_of (by decide) (Nat.le_of_ble_eq_true rfl) ?_
  intro p e s m args below meth c T hr hk hP hK ls hl
  have T : CF p m c cX7_seal 4 s args RX7 := T
  have hS : va_S (NoA) s.heap s.heap [] := va_S.rf
  have hl : lv_has ls 4 [(0, .ref o), (1, .int (iI sl)), (2, .int (iI wh))] := hl
  obtain ⟨hI0, hIL, hIH, hIB, hID, hIC, hIG, hIZ, hIF⟩ := id hI
  have hR : InR N := ⟨hI0, hIB⟩
  obtain ⟨b0, b1, b2, b3, b4, b5, b6, b7, b8, b9⟩ := id hI0
  refine lv_aload_n T.1 T.2.1 dX7_seal_0 rfl (lv_at hl 0 rfl) ?_
  refine g7_ship T hK hP 0 rfl rfl mw_1_237 dX7_seal_1 ?_
  refine g6_seals T hK hP 6 rfl rfl mw_1_154 dX7_seal_4 ?_
  refine lv_astore_n (lv' := [(3, .ref (o + 1 + 8)), (0, .ref o), (1, .int (iI sl)), (2, .int (iI wh))]) T.1 T.2.1 dX7_seal_7 rfl hl (by decide) rfl (fun ls hl => ?_)
  refine lv_iload_n T.1 T.2.1 dX7_seal_8 rfl (lv_at hl 2 rfl) ?_
  refine xv_iconst T dX7_seal_9 ?_
  refine xv_icmp_lt T (by omega) (tgt := 21) dX7_seal_10 (by decide) (fun c1 => ?_) (fun c1 => ?_)
  · skip
    refine xv_iconst T dX7_seal_21 ?_
    exact rI T (u := ()) hr hk hK hP hS dX7_seal_22 (by unfold qSeal; (repeat' split) <;> first | rfl | (exfalso; omega) | omega)
  · skip
    refine lv_iload_n T.1 T.2.1 dX7_seal_13 rfl (lv_at hl 2 rfl) ?_
    refine lv_aload_n T.1 T.2.1 dX7_seal_14 rfl (lv_at hl 0 rfl) ?_
    refine g5_used T hK hP 14 rfl (v := .int (iI (N 7))) rfl mw_1_65 dX7_seal_15 ?_
    refine xv_icmp_le T (by omega) (tgt := 23) dX7_seal_18 (by decide) (fun c2 => ?_) (fun c2 => ?_)
    · skip
      refine lv_iload_n T.1 T.2.1 dX7_seal_23 rfl (lv_at hl 3 rfl) ?_
      by_cases c3l : wh < 0
      · skip
        refine xv_tableOut T (tgt := 73) (by omega) dX7_seal_24 (by omega) (by decide) ?_
        refine xv_iconst T dX7_seal_73 ?_
        exact rI T (u := ()) hr hk hK hP hS dX7_seal_74 (by unfold qSeal; (repeat' split) <;> first | rfl | (exfalso; omega) | omega)
      by_cases c3h : 2 < wh
      · skip
        refine xv_tableOut T (tgt := 73) (by omega) dX7_seal_24 (by omega) (by decide) ?_
        refine xv_iconst T dX7_seal_73 ?_
        exact rI T (u := ()) hr hk hK hP hS dX7_seal_74 (by unfold qSeal; (repeat' split) <;> first | rfl | (exfalso; omega) | omega)
      have c3_0 : 0 ≤ wh := by omega
      by_cases c3 : wh = 0
      · skip
        refine xv_tableIn T (off := 28) (tgt := 52) 0 c3 (by omega) dX7_seal_24 (by omega) (by omega) (by decide) (by decide) ?_
        refine lv_aload_n T.1 T.2.1 dX7_seal_52 rfl (lv_at hl 0 rfl) ?_
        refine g5_locker T hK hP 14 rfl rfl mw_1_67 dX7_seal_53 ?_
        refine lv_iload_n T.1 T.2.1 dX7_seal_56 rfl (lv_at hl 2 rfl) ?_
        refine xa_iald T hK hP 15 rfl rfl (452 + sl) (by omega) (by omega) (by decide) dX7_seal_57 ?_
        exact rI T (u := ()) hr hk hK hP hS dX7_seal_58 (by unfold qSeal; (repeat' split) <;> first | rfl | (exfalso; omega) | omega)
      have c3_1 : 1 ≤ wh := by omega
      clear c3 c3_0
      by_cases c3 : wh = 1
      · skip
        refine xv_tableIn T (off := 35) (tgt := 59) 1 c3 (by omega) dX7_seal_24 (by omega) (by omega) (by decide) (by decide) ?_
        refine lv_aload_n T.1 T.2.1 dX7_seal_59 rfl (lv_at hl 0 rfl) ?_
        refine g5_day T hK hP 14 rfl rfl mw_1_69 dX7_seal_60 ?_
        refine lv_iload_n T.1 T.2.1 dX7_seal_63 rfl (lv_at hl 2 rfl) ?_
        refine xa_iald T hK hP 16 rfl rfl (653 + sl) (by omega) (by omega) (by decide) dX7_seal_64 ?_
        exact rI T (u := ()) hr hk hK hP hS dX7_seal_65 (by unfold qSeal; (repeat' split) <;> first | rfl | (exfalso; omega) | omega)
      have c3_2 : 2 ≤ wh := by omega
      clear c3 c3_1
      have c3 : wh = 2 := by omega
      refine xv_tableIn T (off := 42) (tgt := 66) 2 c3 (by omega) dX7_seal_24 (by omega) (by omega) (by decide) (by decide) ?_
      refine lv_aload_n T.1 T.2.1 dX7_seal_66 rfl (lv_at hl 0 rfl) ?_
      refine g5_fate T hK hP 14 rfl rfl mw_1_71 dX7_seal_67 ?_
      refine lv_iload_n T.1 T.2.1 dX7_seal_70 rfl (lv_at hl 2 rfl) ?_
      refine xa_iald T hK hP 17 rfl rfl (854 + sl) (by omega) (by omega) (by decide) dX7_seal_71 ?_
      exact rI T (u := ()) hr hk hK hP hS dX7_seal_72 (by unfold qSeal; (repeat' split) <;> first | rfl | (exfalso; omega) | omega)
    · skip
      refine xv_iconst T dX7_seal_21 ?_
      exact rI T (u := ()) hr hk hK hP hS dX7_seal_22 (by unfold qSeal; (repeat' split) <;> first | rfl | (exfalso; omega) | omega)
set_option maxHeartbeats 4000000 in
set_option maxRecDepth 100000 in
theorem c_X7_bond (l : Launch) (K : KT) (o : Nat) (N M : Int → Int) (R : Nat → Int → Int) (G L NU TT : Int → Int) (bd wh : Int) (r_bd : -2147483648 ≤ bd ∧ bd ≤ 2147483647) (r_wh : -2147483648 ≤ wh ∧ wh ≤ 2147483647) (hI : Inv N) : CtI l yX7_bond cX7_bond 4 .int 1 21 K [.ref o, .int (iI bd), .int (iI wh)] (xW K o N M R G L NU TT) (NoA) (fun (z : Int) (_ : Unit) => z = qBond N bd wh) (fun _ => xW K o N M R G L NU TT) := by
  refine CtI_of (by decide) (Nat.le_of_ble_eq_true rfl) ?_
  intro p e s m args below meth c T hr hk hP hK ls hl
  have T : CF p m c cX7_bond 4 s args RX7 := T
  have hS : va_S (NoA) s.heap s.heap [] := va_S.rf
  have hl : lv_has ls 4 [(0, .ref o), (1, .int (iI bd)), (2, .int (iI wh))] := hl
  obtain ⟨hI0, hIL, hIH, hIB, hID, hIC, hIG, hIZ, hIF⟩ := id hI
  have hR : InR N := ⟨hI0, hIB⟩
  obtain ⟨b0, b1, b2, b3, b4, b5, b6, b7, b8, b9⟩ := id hI0
  refine lv_aload_n T.1 T.2.1 dX7_bond_0 rfl (lv_at hl 0 rfl) ?_
  refine g7_ship T hK hP 0 rfl rfl mw_1_237 dX7_bond_1 ?_
  refine g6_bonds T hK hP 6 rfl rfl mw_1_156 dX7_bond_4 ?_
  refine lv_astore_n (lv' := [(3, .ref (o + 1 + 12)), (0, .ref o), (1, .int (iI bd)), (2, .int (iI wh))]) T.1 T.2.1 dX7_bond_7 rfl hl (by decide) rfl (fun ls hl => ?_)
  refine lv_iload_n T.1 T.2.1 dX7_bond_8 rfl (lv_at hl 2 rfl) ?_
  refine xv_if_lt T (by omega) (tgt := 20) dX7_bond_9 (by decide) (fun c1 => ?_) (fun c1 => ?_)
  · skip
    refine xv_iconst T dX7_bond_20 ?_
    exact rI T (u := ()) hr hk hK hP hS dX7_bond_21 (by unfold qBond; (repeat' split) <;> first | rfl | (exfalso; omega) | omega)
  · skip
    refine lv_iload_n T.1 T.2.1 dX7_bond_12 rfl (lv_at hl 2 rfl) ?_
    refine lv_aload_n T.1 T.2.1 dX7_bond_13 rfl (lv_at hl 0 rfl) ?_
    refine g0_number T hK hP 18 rfl (v := .int (iI (N 6))) rfl mw_1_88 dX7_bond_14 ?_
    refine xv_icmp_lt T (by omega) (tgt := 22) dX7_bond_17 (by decide) (fun c2 => ?_) (fun c2 => ?_)
    · skip
      refine lv_iload_n T.1 T.2.1 dX7_bond_22 rfl (lv_at hl 3 rfl) ?_
      by_cases c3l : wh < 0
      · skip
        refine xv_tableOut T (tgt := 102) (by omega) dX7_bond_23 (by omega) (by decide) ?_
        refine xv_iconst T dX7_bond_102 ?_
        exact rI T (u := ()) hr hk hK hP hS dX7_bond_103 (by unfold qBond; (repeat' split) <;> first | rfl | (exfalso; omega) | omega)
      by_cases c3h : 5 < wh
      · skip
        refine xv_tableOut T (tgt := 102) (by omega) dX7_bond_23 (by omega) (by decide) ?_
        refine xv_iconst T dX7_bond_102 ?_
        exact rI T (u := ()) hr hk hK hP hS dX7_bond_103 (by unfold qBond; (repeat' split) <;> first | rfl | (exfalso; omega) | omega)
      have c3_0 : 0 ≤ wh := by omega
      by_cases c3 : wh = 0
      · skip
        refine xv_tableIn T (off := 37) (tgt := 60) 0 c3 (by omega) dX7_bond_23 (by omega) (by omega) (by decide) (by decide) ?_
        refine lv_aload_n T.1 T.2.1 dX7_bond_60 rfl (lv_at hl 0 rfl) ?_
        refine g0_good T hK hP 18 rfl rfl mw_1_94 dX7_bond_61 ?_
        refine lv_iload_n T.1 T.2.1 dX7_bond_64 rfl (lv_at hl 2 rfl) ?_
        refine xa_iald T hK hP 19 rfl rfl (152 + bd) (by omega) (by omega) (by decide) dX7_bond_65 ?_
        have f4 := hIB bd (by omega) (by omega)
        exact rI T (u := ()) hr hk hK hP hS dX7_bond_66 (by unfold qBond; (repeat' split) <;> first | rfl | (exfalso; omega) | omega)
      have c3_1 : 1 ≤ wh := by omega
      clear c3 c3_0
      by_cases c3 : wh = 1
      · skip
        refine xv_tableIn T (off := 44) (tgt := 67) 1 c3 (by omega) dX7_bond_23 (by omega) (by omega) (by decide) (by decide) ?_
        refine lv_aload_n T.1 T.2.1 dX7_bond_67 rfl (lv_at hl 0 rfl) ?_
        refine g0_made T hK hP 18 rfl rfl mw_1_97 dX7_bond_68 ?_
        refine lv_iload_n T.1 T.2.1 dX7_bond_71 rfl (lv_at hl 2 rfl) ?_
        refine xa_iald T hK hP 20 rfl rfl (212 + bd) (by omega) (by omega) (by decide) dX7_bond_72 ?_
        have f5 := hIB bd (by omega) (by omega)
        exact rI T (u := ()) hr hk hK hP hS dX7_bond_73 (by unfold qBond; (repeat' split) <;> first | rfl | (exfalso; omega) | omega)
      have c3_2 : 2 ≤ wh := by omega
      clear c3 c3_1
      by_cases c3 : wh = 2
      · skip
        refine xv_tableIn T (off := 51) (tgt := 74) 2 c3 (by omega) dX7_bond_23 (by omega) (by omega) (by decide) (by decide) ?_
        refine lv_aload_n T.1 T.2.1 dX7_bond_74 rfl (lv_at hl 0 rfl) ?_
        refine g0_left T hK hP 18 rfl rfl mw_1_99 dX7_bond_75 ?_
        refine lv_iload_n T.1 T.2.1 dX7_bond_78 rfl (lv_at hl 2 rfl) ?_
        refine xa_iald T hK hP 21 rfl rfl (272 + bd) (by omega) (by omega) (by decide) dX7_bond_79 ?_
        have f6 := hIB bd (by omega) (by omega)
        exact rI T (u := ()) hr hk hK hP hS dX7_bond_80 (by unfold qBond; (repeat' split) <;> first | rfl | (exfalso; omega) | omega)
      have c3_3 : 3 ≤ wh := by omega
      clear c3 c3_2
      by_cases c3 : wh = 3
      · skip
        refine xv_tableIn T (off := 58) (tgt := 81) 3 c3 (by omega) dX7_bond_23 (by omega) (by omega) (by decide) (by decide) ?_
        refine lv_aload_n T.1 T.2.1 dX7_bond_81 rfl (lv_at hl 0 rfl) ?_
        refine g0_duty T hK hP 18 rfl rfl mw_1_102 dX7_bond_82 ?_
        refine lv_iload_n T.1 T.2.1 dX7_bond_85 rfl (lv_at hl 2 rfl) ?_
        refine xa_iald T hK hP 22 rfl rfl (332 + bd) (by omega) (by omega) (by decide) dX7_bond_86 ?_
        have f7 := hIB bd (by omega) (by omega)
        exact rI T (u := ()) hr hk hK hP hS dX7_bond_87 (by unfold qBond; (repeat' split) <;> first | rfl | (exfalso; omega) | omega)
      have c3_4 : 4 ≤ wh := by omega
      clear c3 c3_3
      by_cases c3 : wh = 4
      · skip
        refine xv_tableIn T (off := 65) (tgt := 88) 4 c3 (by omega) dX7_bond_23 (by omega) (by omega) (by decide) (by decide) ?_
        refine lv_aload_n T.1 T.2.1 dX7_bond_88 rfl (lv_at hl 0 rfl) ?_
        refine lv_iload_n T.1 T.2.1 dX7_bond_89 rfl (lv_at hl 2 rfl) ?_
        refine cL_V T hK hP hS 18 rfl rfl rfl (c_X0_held l K (o + 1) N bd (by omega) hR) iX0_held mw_2_143 ⟨Nat.le_of_ble_eq_true rfl, Nat.le_of_ble_eq_true rfl⟩ (xW_3 hP) noA rfl hl.1 rfl (Nat.le_of_ble_eq_true rfl) ⟨Nat.zero_le _, Nat.zero_le _⟩ dX7_bond_90 (fun z8 _ H1 locs q9 hP1 hg1 hg2 hS => ?_)
        have hP := xP_kept hP hg2
        generalize H1 = H at hP hS ⊢
        clear hg1 hg2 hP1
        obtain rfl : z8 = N (272 + bd) * N (332 + bd) := q9
        refine xv_l2i T dX7_bond_93 ?_
        exact rI T (u := ()) hr hk hK hP hS dX7_bond_94 (by unfold qBond; (repeat' split) <;> first | rfl | (exfalso; omega) | omega)
      have c3_5 : 5 ≤ wh := by omega
      clear c3 c3_4
      have c3 : wh = 5 := by omega
      refine xv_tableIn T (off := 72) (tgt := 95) 5 c3 (by omega) dX7_bond_23 (by omega) (by omega) (by decide) (by decide) ?_
      refine lv_aload_n T.1 T.2.1 dX7_bond_95 rfl (lv_at hl 0 rfl) ?_
      refine g0_due T hK hP 18 rfl rfl mw_1_104 dX7_bond_96 ?_
      refine lv_iload_n T.1 T.2.1 dX7_bond_99 rfl (lv_at hl 2 rfl) ?_
      refine xa_iald T hK hP 23 rfl rfl (392 + bd) (by omega) (by omega) (by decide) dX7_bond_100 ?_
      have f10 := hIB bd (by omega) (by omega)
      exact rI T (u := ()) hr hk hK hP hS dX7_bond_101 (by unfold qBond; (repeat' split) <;> first | rfl | (exfalso; omega) | omega)
    · skip
      refine xv_iconst T dX7_bond_20 ?_
      exact rI T (u := ()) hr hk hK hP hS dX7_bond_21 (by unfold qBond; (repeat' split) <;> first | rfl | (exfalso; omega) | omega)
set_option maxHeartbeats 4000000 in
set_option maxRecDepth 100000 in
theorem c_X7_nextBond (l : Launch) (K : KT) (o : Nat) (N M : Int → Int) (R : Nat → Int → Int) (G L NU TT : Int → Int) (gd : Int) (r_gd : -2147483648 ≤ gd ∧ gd ≤ 2147483647) (hI : Inv N) : CtI l yX7_nextBond cX7_nextBond 3 .int 1 29 K [.ref o, .int (iI gd)] (xW K o N M R G L NU TT) (NoA) (fun (z : Int) (_ : Unit) => z = qNextBond N gd) (fun _ => xW K o N M R G L NU TT) := by
  refine CtI_of (by decide) (Nat.le_of_ble_eq_true rfl) ?_
  intro p e s m args below meth c T hr hk hP hK ls hl
  have T : CF p m c cX7_nextBond 3 s args RX7 := T
  have hS : va_S (NoA) s.heap s.heap [] := va_S.rf
  have hl : lv_has ls 3 [(0, .ref o), (1, .int (iI gd))] := hl
  obtain ⟨hI0, hIL, hIH, hIB, hID, hIC, hIG, hIZ, hIF⟩ := id hI
  have hR : InR N := ⟨hI0, hIB⟩
  obtain ⟨b0, b1, b2, b3, b4, b5, b6, b7, b8, b9⟩ := id hI0
  refine lv_aload_n T.1 T.2.1 dX7_nextBond_0 rfl (lv_at hl 0 rfl) ?_
  refine g7_ship T hK hP 0 rfl rfl mw_1_237 dX7_nextBond_1 ?_
  refine lv_iload_n T.1 T.2.1 dX7_nextBond_4 rfl (lv_at hl 1 rfl) ?_
  refine cI_V T hK hP hS 6 rfl rfl rfl (c_X6_hasGood l K (o + 1) N gd (by omega) (by omega)) iX6_hasGood mw_2_133 ⟨Nat.le_of_ble_eq_true rfl, Nat.le_of_ble_eq_true rfl⟩ (xW_3 hP) noA rfl hl.1 rfl (Nat.le_of_ble_eq_true rfl) ⟨Nat.zero_le _, Nat.zero_le _⟩ dX7_nextBond_5 (fun z1 _ H1 locs q2 hP1 hg1 hg2 hS => ?_)
  have hP := xP_kept hP hg2
  generalize H1 = H at hP hS ⊢
  clear hg1 hg2 hP1
  rcases q2 with ⟨rfl, q2⟩ | ⟨rfl, q2⟩
  · skip
    refine xv_if_ne T (by omega) (tgt := 13) dX7_nextBond_8 (by decide) (fun _ => ?_) (fun c3 => absurd c3 (by omega))
    refine lv_aload_n T.1 T.2.1 dX7_nextBond_13 rfl (lv_at hl 0 rfl) ?_
    refine g7_ship T hK hP 0 rfl rfl mw_1_237 dX7_nextBond_14 ?_
    refine g6_bonds T hK hP 6 rfl rfl mw_1_156 dX7_nextBond_17 ?_
    refine lv_iload_n T.1 T.2.1 dX7_nextBond_20 rfl (lv_at hl 1 rfl) ?_
    refine xv_iconst T dX7_nextBond_21 ?_
    refine cI_V T hK hP hS 18 rfl rfl rfl (c_X0_nextAfter l K (o + 1) N gd (-1) (by omega) (by omega) hR) iX0_nextAfter mw_3_90 ⟨Nat.le_of_ble_eq_true rfl, Nat.le_of_ble_eq_true rfl⟩ (xW_3 hP) noA rfl hl.1 rfl (Nat.le_of_ble_eq_true rfl) ⟨Nat.zero_le _, Nat.zero_le _⟩ dX7_nextBond_22 (fun z4 _ H1 locs q5 hP1 hg1 hg2 hS => ?_)
    have hP := xP_kept hP hg2
    generalize H1 = H at hP hS ⊢
    clear hg1 hg2 hP1
    have hno := nxC_or N gd (-1)
    obtain rfl : z4 = nxC N gd (-1) := q5
    refine lv_istore_n (lv' := [(2, .int (iI (nxC N gd (-1)))), (0, .ref o), (1, .int (iI gd))]) T.1 T.2.1 dX7_nextBond_25 rfl hl (by decide) rfl (fun ls hl => ?_)
    refine lv_iload_n T.1 T.2.1 dX7_nextBond_26 rfl (lv_at hl 0 rfl) ?_
    refine xv_iconst T dX7_nextBond_27 ?_
    refine xv_icmp_ne T (by omega) (tgt := 36) dX7_nextBond_28 (by decide) (fun c6 => ?_) (fun c6 => ?_)
    · skip
      refine lv_iload_n T.1 T.2.1 dX7_nextBond_36 rfl (lv_at hl 0 rfl) ?_
      exact rI T (u := ()) hr hk hK hP hS dX7_nextBond_37 (by unfold qNextBond; first | (rw [if_neg (by omega)]; done) | (rw [if_pos (by omega)]; omega))
    · skip
      refine xv_bipush T dX7_nextBond_31 (by omega) ?_
      refine lv_goto T.1 T.2.1 (tgt := 37) dX7_nextBond_33 (by decide) ?_
      exact rI T (u := ()) hr hk hK hP hS dX7_nextBond_37 (by unfold qNextBond; first | (rw [if_neg (by omega)]; done) | (rw [if_pos (by omega)]; omega))
  · skip
    refine xv_if_ne T (by omega) (tgt := 13) dX7_nextBond_8 (by decide) (fun c7 => absurd c7 (by omega)) (fun _ => ?_)
    refine xv_iconst T dX7_nextBond_11 ?_
    exact rI T (u := ()) hr hk hK hP hS dX7_nextBond_12 (by unfold qNextBond; first | (rw [if_neg (by omega)]; done) | (rw [if_pos (by omega)]; omega))
set_option maxHeartbeats 4000000 in
set_option maxRecDepth 100000 in
theorem c_X7_runsOut (l : Launch) (K : KT) (o : Nat) (N M : Int → Int) (R : Nat → Int → Int) (G L NU TT : Int → Int) (hI : Inv N) : CtI l yX7_runsOut cX7_runsOut 2 .int 1 29 K [.ref o] (xW K o N M R G L NU TT) (NoA) (fun (z : Int) (_ : Unit) => z = qRunsOut N) (fun _ => xW K o N M R G L NU TT) := by
  refine CtI_of (by decide) (Nat.le_of_ble_eq_true rfl) ?_
  intro p e s m args below meth c T hr hk hP hK ls hl
  have T : CF p m c cX7_runsOut 2 s args RX7 := T
  have hS : va_S (NoA) s.heap s.heap [] := va_S.rf
  have hl : lv_has ls 2 [(0, .ref o)] := hl
  obtain ⟨hI0, hIL, hIH, hIB, hID, hIC, hIG, hIZ, hIF⟩ := id hI
  have hR : InR N := ⟨hI0, hIB⟩
  obtain ⟨b0, b1, b2, b3, b4, b5, b6, b7, b8, b9⟩ := id hI0
  refine lv_aload_n T.1 T.2.1 dX7_runsOut_0 rfl (lv_at hl 0 rfl) ?_
  refine g7_ship T hK hP 0 rfl rfl mw_1_237 dX7_runsOut_1 ?_
  refine g6_bonds T hK hP 6 rfl rfl mw_1_156 dX7_runsOut_4 ?_
  refine xv_iconst T dX7_runsOut_7 ?_
  refine xv_iconst T dX7_runsOut_8 ?_
  refine cI_V T hK hP hS 18 rfl rfl rfl (c_X0_nextAfter l K (o + 1) N (-1) (-1) (by omega) (by omega) hR) iX0_nextAfter mw_3_90 ⟨Nat.le_of_ble_eq_true rfl, Nat.le_of_ble_eq_true rfl⟩ (xW_3 hP) noA rfl hl.1 rfl (Nat.le_of_ble_eq_true rfl) ⟨Nat.zero_le _, Nat.zero_le _⟩ dX7_runsOut_9 (fun z1 _ H1 locs q2 hP1 hg1 hg2 hS => ?_)
  have hP := xP_kept hP hg2
  generalize H1 = H at hP hS ⊢
  clear hg1 hg2 hP1
  have hno := nxC_or N (-1) (-1)
  obtain rfl : z1 = nxC N (-1) (-1) := q2
  refine lv_istore_n (lv' := [(1, .int (iI (nxC N (-1) (-1)))), (0, .ref o)]) T.1 T.2.1 dX7_runsOut_12 rfl hl (by decide) rfl (fun ls hl => ?_)
  refine lv_iload_n T.1 T.2.1 dX7_runsOut_13 rfl (lv_at hl 0 rfl) ?_
  refine xv_iconst T dX7_runsOut_14 ?_
  refine xv_icmp_ne T (by omega) (tgt := 23) dX7_runsOut_15 (by decide) (fun c3 => ?_) (fun c3 => ?_)
  · skip
    refine lv_aload_n T.1 T.2.1 dX7_runsOut_23 rfl (lv_at hl 1 rfl) ?_
    refine g7_ship T hK hP 0 rfl rfl mw_1_237 dX7_runsOut_24 ?_
    refine g6_bonds T hK hP 6 rfl rfl mw_1_156 dX7_runsOut_27 ?_
    refine g0_due T hK hP 18 rfl rfl mw_1_104 dX7_runsOut_30 ?_
    refine lv_iload_n T.1 T.2.1 dX7_runsOut_33 rfl (lv_at hl 0 rfl) ?_
    refine xa_iald T hK hP 23 rfl rfl (392 + nxC N (-1) (-1)) (by omega) (by omega) (by decide) dX7_runsOut_34 ?_
    have f4 := hIB (nxC N (-1) (-1)) (by omega) (by omega)
    refine xv_iconst T dX7_runsOut_35 ?_
    refine xv_iadd T dX7_runsOut_36 ?_
    refine lv_aload_n T.1 T.2.1 dX7_runsOut_37 rfl (lv_at hl 1 rfl) ?_
    refine g7_ship T hK hP 0 rfl rfl mw_1_237 dX7_runsOut_38 ?_
    refine g6_day T hK hP 6 rfl (v := .int (iI (N 1))) rfl mw_1_145 dX7_runsOut_41 ?_
    refine xv_isub T dX7_runsOut_44 ?_
    exact rI T (u := ()) hr hk hK hP hS dX7_runsOut_45 (by unfold qRunsOut; first | (rw [if_pos (by omega)]; done) | (rw [if_neg (by omega), show nxC N (-1) (-1) = nxt N (-1) (-1) by omega]))
  · skip
    refine xv_bipush T dX7_runsOut_18 (by omega) ?_
    refine lv_goto T.1 T.2.1 (tgt := 45) dX7_runsOut_20 (by decide) ?_
    exact rI T (u := ()) hr hk hK hP hS dX7_runsOut_45 (by unfold qRunsOut; first | (rw [if_pos (by omega)]; done) | (rw [if_neg (by omega), show nxC N (-1) (-1) = nxt N (-1) (-1) by omega]))
set_option maxHeartbeats 4000000 in
set_option maxRecDepth 100000 in
theorem c_X7_centsOrLimit (l : Launch) (K : KT) (ct : Int) : CtI l yX7_centsOrLimit cX7_centsOrLimit 2 .int 0 0 K [.long (lI ct)] ([]) (NoA) (fun (z : Int) (_ : Unit) => z = if lI ct ≤ lI 2147483647 then ct else -3) (fun _ => []) := by
  refine CtI_of (by decide) (Nat.le_of_ble_eq_true rfl) ?_
  intro p e s m args below meth c T hr hk hP hK ls hl
  have T : CF p m c cX7_centsOrLimit 2 s args RX7 := T
  have hS : va_S (NoA) s.heap s.heap [] := va_S.rf
  have hl : lv_has ls 2 [(0, .long (lI ct))] := hl
  refine lv_lload_n T.1 T.2.1 dX7_centsOrLimit_0 rfl (lv_at hl 0 rfl) ?_
  refine xv_ldc2 T mw_3_49 (n := 2147483647) (by decide +kernel) dX7_centsOrLimit_1 ?_
  refine xv_lcmp_le T (tgt := 13) dX7_centsOrLimit_4 dX7_centsOrLimit_5 (by decide) (fun c1 => ?_) (fun c1 => ?_)
  · skip
    refine lv_lload_n T.1 T.2.1 dX7_centsOrLimit_13 rfl (lv_at hl 0 rfl) ?_
    refine xv_l2i T dX7_centsOrLimit_14 ?_
    exact rI T (u := ()) hr hk hK hP hS dX7_centsOrLimit_15 (by first | rw [if_pos (by assumption)] | rw [if_neg (by assumption)])
  · skip
    refine xv_bipush T dX7_centsOrLimit_8 (by omega) ?_
    refine lv_goto T.1 T.2.1 (tgt := 15) dX7_centsOrLimit_10 (by decide) ?_
    exact rI T (u := ()) hr hk hK hP hS dX7_centsOrLimit_15 (by first | rw [if_pos (by assumption)] | rw [if_neg (by assumption)])
set_option maxHeartbeats 4000000 in
set_option maxRecDepth 100000 in
theorem c_X7_toPay (l : Launch) (K : KT) (o : Nat) (N M : Int → Int) (R : Nat → Int → Int) (G L NU TT : Int → Int) (hI : Inv N) : CtI l yX7_toPay cX7_toPay 1 .int 3 81 K [.ref o] (xW K o N M R G L NU TT) (NoA) (fun (z : Int) (_ : Unit) => z = qToPay N) (fun _ => xW K o N M R G L NU TT) := by
  refine CtI_of (by decide) (Nat.le_of_ble_eq_true rfl) ?_
  intro p e s m args below meth c T hr hk hP hK ls hl
  have T : CF p m c cX7_toPay 1 s args RX7 := T
  have hS : va_S (NoA) s.heap s.heap [] := va_S.rf
  have hl : lv_has ls 1 [(0, .ref o)] := hl
  obtain ⟨hI0, hIL, hIH, hIB, hID, hIC, hIG, hIZ, hIF⟩ := id hI
  have hR : InR N := ⟨hI0, hIB⟩
  obtain ⟨b0, b1, b2, b3, b4, b5, b6, b7, b8, b9⟩ := id hI0
  refine lv_aload_n T.1 T.2.1 dX7_toPay_0 rfl (lv_at hl 0 rfl) ?_
  refine g7_ship T hK hP 0 rfl rfl mw_1_237 dX7_toPay_1 ?_
  refine cL_V T hK hP hS 6 rfl rfl rfl (c_X6_toPayForAll l K (o + 1) N hI) iX6_toPayForAll mw_3_81 ⟨Nat.le_of_ble_eq_true rfl, Nat.le_of_ble_eq_true rfl⟩ (xW_3 hP) noA rfl hl.1 rfl (Nat.le_of_ble_eq_true rfl) ⟨Nat.zero_le _, Nat.zero_le _⟩ dX7_toPay_4 (fun z1 _ H1 locs q2 hP1 hg1 hg2 hS => ?_)
  have hP := xP_kept hP hg2
  generalize H1 = H at hP hS ⊢
  clear hg1 hg2 hP1
  obtain rfl : z1 = payF N := q2
  refine cI_S T hK hP hS (c_X7_centsOrLimit l K (payF N) ) iX7_centsOrLimit mw_3_46 ⟨Nat.le_of_ble_eq_true rfl, Nat.le_of_ble_eq_true rfl⟩ xP_nil noA rfl hl.1 rfl (Nat.le_of_ble_eq_true rfl) ⟨Nat.zero_le _, Nat.zero_le _⟩ dX7_toPay_7 (fun zc _ H1 locs qc hP1 hg1 hg2 hS => ?_)
  have hP := xP_kept hP hg2
  generalize H1 = H at hP hS ⊢
  clear hg1 hg2 hP1
  exact rI T (u := ()) hr hk hK hP hS dX7_toPay_10 (qc)
set_option maxHeartbeats 4000000 in
set_option maxRecDepth 100000 in
theorem c_X7_cents (l : Launch) (K : KT) (o : Nat) (N M : Int → Int) (R : Nat → Int → Int) (G L NU TT : Int → Int) (wh : Int) (r_wh : -2147483648 ≤ wh ∧ wh ≤ 2147483647) (hI : Inv N) : CtI l yX7_cents cX7_cents 2 .int 2 44 K [.ref o, .int (iI wh)] (xW K o N M R G L NU TT) (NoA) (fun (z : Int) (_ : Unit) => z = qCents N wh) (fun _ => xW K o N M R G L NU TT) := by
  refine CtI_of (by decide) (Nat.le_of_ble_eq_true rfl) ?_
  intro p e s m args below meth c T hr hk hP hK ls hl
  have T : CF p m c cX7_cents 2 s args RX7 := T
  have hS : va_S (NoA) s.heap s.heap [] := va_S.rf
  have hl : lv_has ls 2 [(0, .ref o), (1, .int (iI wh))] := hl
  obtain ⟨hI0, hIL, hIH, hIB, hID, hIC, hIG, hIZ, hIF⟩ := id hI
  have hR : InR N := ⟨hI0, hIB⟩
  obtain ⟨b0, b1, b2, b3, b4, b5, b6, b7, b8, b9⟩ := id hI0
  refine lv_iload_n T.1 T.2.1 dX7_cents_0 rfl (lv_at hl 1 rfl) ?_
  refine xv_if_lt T (by omega) (tgt := 10) dX7_cents_1 (by decide) (fun c1 => ?_) (fun c1 => ?_)
  · skip
    refine xv_iconst T dX7_cents_10 ?_
    exact rI T (u := ()) hr hk hK hP hS dX7_cents_11 (by unfold qCents; (repeat' split) <;> first | rfl | (exfalso; omega))
  · skip
    refine lv_iload_n T.1 T.2.1 dX7_cents_4 rfl (lv_at hl 1 rfl) ?_
    refine xv_bipush T dX7_cents_5 (by omega) ?_
    refine xv_icmp_le T (by omega) (tgt := 12) dX7_cents_7 (by decide) (fun c2 => ?_) (fun c2 => ?_)
    · skip
      refine lv_iload_n T.1 T.2.1 dX7_cents_12 rfl (lv_at hl 1 rfl) ?_
      by_cases c3_0 : wh = 0
      · skip
        refine xv_lookup T (off := 35) (tgt := 48) (by omega) dX7_cents_13 (by decide) (by rw [Op.lookupswitch.offset_cons, if_pos (by omega)]) (by decide) ?_
        refine lv_aload_n T.1 T.2.1 dX7_cents_48 rfl (lv_at hl 0 rfl) ?_
        refine g7_ship T hK hP 0 rfl rfl mw_1_237 dX7_cents_49 ?_
        refine g6_bonds T hK hP 6 rfl rfl mw_1_156 dX7_cents_52 ?_
        refine g0_amountMade T hK hP 18 rfl (v := .long (lI (N 9))) rfl mw_1_92 dX7_cents_55 ?_
        refine xv_l2i T dX7_cents_58 ?_
        exact rI T (u := ()) hr hk hK hP hS dX7_cents_59 (by unfold qCents; (repeat' split) <;> first | rfl | (exfalso; omega))
      by_cases c3_1 : wh = 1
      · skip
        refine xv_lookup T (off := 47) (tgt := 60) (by omega) dX7_cents_13 (by decide) ((xv_osw (by omega)).trans (by rw [Op.lookupswitch.offset_cons, if_pos (by omega)])) (by decide) ?_
        refine lv_aload_n T.1 T.2.1 dX7_cents_60 rfl (lv_at hl 0 rfl) ?_
        refine g7_ship T hK hP 0 rfl rfl mw_1_237 dX7_cents_61 ?_
        refine g6_bonds T hK hP 6 rfl rfl mw_1_156 dX7_cents_64 ?_
        refine cL_V T hK hP hS 18 rfl rfl rfl (c_X0_heldByAll l K (o + 1) N hR) iX0_heldByAll mw_3_41 ⟨Nat.le_of_ble_eq_true rfl, Nat.le_of_ble_eq_true rfl⟩ (xW_3 hP) noA rfl hl.1 rfl (Nat.le_of_ble_eq_true rfl) ⟨Nat.zero_le _, Nat.zero_le _⟩ dX7_cents_67 (fun z4 _ H1 locs q5 hP1 hg1 hg2 hS => ?_)
        have hP := xP_kept hP hg2
        generalize H1 = H at hP hS ⊢
        clear hg1 hg2 hP1
        obtain rfl : z4 = heldF N := q5
        refine xv_l2i T dX7_cents_70 ?_
        exact rI T (u := ()) hr hk hK hP hS dX7_cents_71 (by unfold qCents; (repeat' split) <;> first | rfl | (exfalso; omega))
      by_cases c3_2 : wh = 6
      · skip
        refine xv_lookup T (off := 59) (tgt := 72) (by omega) dX7_cents_13 (by decide) ((xv_osw (by omega)).trans ((xv_osw (by omega)).trans (by rw [Op.lookupswitch.offset_cons, if_pos (by omega)]))) (by decide) ?_
        refine lv_aload_n T.1 T.2.1 dX7_cents_72 rfl (lv_at hl 0 rfl) ?_
        refine g7_ship T hK hP 0 rfl rfl mw_1_237 dX7_cents_73 ?_
        refine g6_releases T hK hP 6 rfl rfl mw_1_158 dX7_cents_76 ?_
        refine g4_fines T hK hP 24 rfl (v := .long (lI (N 8))) rfl mw_1_129 dX7_cents_79 ?_
        refine cI_S T hK hP hS (c_X7_centsOrLimit l K (N 8) ) iX7_centsOrLimit mw_3_46 ⟨Nat.le_of_ble_eq_true rfl, Nat.le_of_ble_eq_true rfl⟩ xP_nil noA rfl hl.1 rfl (Nat.le_of_ble_eq_true rfl) ⟨Nat.zero_le _, Nat.zero_le _⟩ dX7_cents_82 (fun zc _ H1 locs qc hP1 hg1 hg2 hS => ?_)
        have hP := xP_kept hP hg2
        generalize H1 = H at hP hS ⊢
        clear hg1 hg2 hP1
        exact rI T (u := ()) hr hk hK hP hS dX7_cents_85 (by unfold qCents; rw [if_neg (by omega), if_neg (by omega), if_neg (by omega), if_pos (by omega), qc, if_pos ((lI_le (by omega)).mpr (by omega))])
      refine xv_lookup T (off := 73) (tgt := 86) (by omega) dX7_cents_13 (by decide) ((xv_osw (by omega)).trans ((xv_osw (by omega)).trans ((xv_osw (by omega)).trans (rfl)))) (by decide) ?_
      refine lv_aload_n T.1 T.2.1 dX7_cents_86 rfl (lv_at hl 0 rfl) ?_
      refine g7_ship T hK hP 0 rfl rfl mw_1_237 dX7_cents_87 ?_
      refine g6_releases T hK hP 6 rfl rfl mw_1_158 dX7_cents_90 ?_
      refine g4_cents T hK hP 24 rfl rfl mw_1_133 dX7_cents_93 ?_
      refine lv_iload_n T.1 T.2.1 dX7_cents_96 rfl (lv_at hl 1 rfl) ?_
      refine xv_iconst T dX7_cents_97 ?_
      refine xv_isub T dX7_cents_98 ?_
      refine xa_lald T hK hP 26 rfl rfl (8 + wh) (by omega) (by omega) (by decide) dX7_cents_99 ?_
      refine xv_l2i T dX7_cents_100 ?_
      exact rI T (u := ()) hr hk hK hP hS dX7_cents_101 (by unfold qCents; rw [if_neg (by omega), if_neg (by omega), if_neg (by omega), if_neg (by omega)])
    · skip
      refine xv_iconst T dX7_cents_10 ?_
      exact rI T (u := ()) hr hk hK hP hS dX7_cents_11 (by unfold qCents; (repeat' split) <;> first | rfl | (exfalso; omega))
set_option maxHeartbeats 4000000 in
set_option maxRecDepth 100000 in
theorem c_X7_count (l : Launch) (K : KT) (o : Nat) (N M : Int → Int) (R : Nat → Int → Int) (G L NU TT : Int → Int) (wh : Int) (r_wh : -2147483648 ≤ wh ∧ wh ≤ 2147483647) (hI : Inv N) : CtI l yX7_count cX7_count 2 .int 1 23 K [.ref o, .int (iI wh)] (xW K o N M R G L NU TT) (NoA) (fun (z : Int) (_ : Unit) => z = qCount N (G 0) (L 0) wh) (fun _ => xW K o N M R G L NU TT) := by
  refine CtI_of (by decide) (Nat.le_of_ble_eq_true rfl) ?_
  intro p e s m args below meth c T hr hk hP hK ls hl
  have T : CF p m c cX7_count 2 s args RX7 := T
  have hS : va_S (NoA) s.heap s.heap [] := va_S.rf
  have hl : lv_has ls 2 [(0, .ref o), (1, .int (iI wh))] := hl
  obtain ⟨hI0, hIL, hIH, hIB, hID, hIC, hIG, hIZ, hIF⟩ := id hI
  have hR : InR N := ⟨hI0, hIB⟩
  obtain ⟨b0, b1, b2, b3, b4, b5, b6, b7, b8, b9⟩ := id hI0
  refine lv_iload_n T.1 T.2.1 dX7_count_0 rfl (lv_at hl 1 rfl) ?_
  by_cases c1l : wh < 0
  · skip
    refine xv_tableOut T (tgt := 232) (by omega) dX7_count_1 (by omega) (by decide) ?_
    refine xv_iconst T dX7_count_232 ?_
    exact rI T (u := ()) hr hk hK hP hS dX7_count_233 (by unfold qCount; rw [if_neg (by omega), if_neg (by omega), if_neg (by omega), if_neg (by omega), if_neg (by omega), if_neg (by omega), if_neg (by omega), if_neg (by omega), if_neg (by omega), if_neg (by omega), if_neg (by omega), if_neg (by omega), if_neg (by omega)])
  by_cases c1h : 21 < wh
  · skip
    refine xv_tableOut T (tgt := 232) (by omega) dX7_count_1 (by omega) (by decide) ?_
    refine xv_iconst T dX7_count_232 ?_
    exact rI T (u := ()) hr hk hK hP hS dX7_count_233 (by unfold qCount; rw [if_neg (by omega), if_neg (by omega), if_neg (by omega), if_neg (by omega), if_neg (by omega), if_neg (by omega), if_neg (by omega), if_neg (by omega), if_neg (by omega), if_neg (by omega), if_neg (by omega), if_neg (by omega), if_neg (by omega)])
  have c1_0 : 0 ≤ wh := by omega
  by_cases c1 : wh = 0
  · skip
    refine xv_tableIn T (off := 103) (tgt := 104) 0 c1 (by omega) dX7_count_1 (by omega) (by omega) (by decide) (by decide) ?_
    refine lv_aload_n T.1 T.2.1 dX7_count_104 rfl (lv_at hl 0 rfl) ?_
    refine g7_ship T hK hP 0 rfl rfl mw_1_237 dX7_count_105 ?_
    refine g6_lockers T hK hP 6 rfl rfl mw_1_152 dX7_count_108 ?_
    refine g2_number T hK hP 9 rfl (v := .int (iI (N 4))) rfl mw_1_33 dX7_count_111 ?_
    exact rI T (u := ()) hr hk hK hP hS dX7_count_114 (by unfold qCount; rw [if_pos (by omega)])
  have c1_1 : 1 ≤ wh := by omega
  clear c1 c1_0
  by_cases c1 : wh = 1
  · skip
    refine xv_tableIn T (off := 114) (tgt := 115) 1 c1 (by omega) dX7_count_1 (by omega) (by omega) (by decide) (by decide) ?_
    refine lv_aload_n T.1 T.2.1 dX7_count_115 rfl (lv_at hl 0 rfl) ?_
    refine g7_ship T hK hP 0 rfl rfl mw_1_237 dX7_count_116 ?_
    refine g6_goods T hK hP 6 rfl (v := .int (iI (N 5))) rfl mw_1_147 dX7_count_119 ?_
    exact rI T (u := ()) hr hk hK hP hS dX7_count_122 (by unfold qCount; rw [if_neg (by omega), if_pos (by omega)])
  have c1_2 : 2 ≤ wh := by omega
  clear c1 c1_1
  by_cases c1 : wh = 2
  · skip
    refine xv_tableIn T (off := 122) (tgt := 123) 2 c1 (by omega) dX7_count_1 (by omega) (by omega) (by decide) (by decide) ?_
    refine lv_aload_n T.1 T.2.1 dX7_count_123 rfl (lv_at hl 0 rfl) ?_
    refine g7_ship T hK hP 0 rfl rfl mw_1_237 dX7_count_124 ?_
    refine g6_bonds T hK hP 6 rfl rfl mw_1_156 dX7_count_127 ?_
    refine g0_number T hK hP 18 rfl (v := .int (iI (N 6))) rfl mw_1_88 dX7_count_130 ?_
    exact rI T (u := ()) hr hk hK hP hS dX7_count_133 (by unfold qCount; rw [if_neg (by omega), if_neg (by omega), if_pos (by omega)])
  have c1_3 : 3 ≤ wh := by omega
  clear c1 c1_2
  by_cases c1 : wh = 3
  · skip
    refine xv_tableIn T (off := 133) (tgt := 134) 3 c1 (by omega) dX7_count_1 (by omega) (by omega) (by decide) (by decide) ?_
    refine lv_aload_n T.1 T.2.1 dX7_count_134 rfl (lv_at hl 0 rfl) ?_
    refine g7_ship T hK hP 0 rfl rfl mw_1_237 dX7_count_135 ?_
    refine g6_bonds T hK hP 6 rfl rfl mw_1_156 dX7_count_138 ?_
    refine cI_V T hK hP hS 18 rfl rfl rfl (c_X0_withUnits l K (o + 1) N hR) iX0_withUnits mw_3_54 ⟨Nat.le_of_ble_eq_true rfl, Nat.le_of_ble_eq_true rfl⟩ (xW_3 hP) noA rfl hl.1 rfl (Nat.le_of_ble_eq_true rfl) ⟨Nat.zero_le _, Nat.zero_le _⟩ dX7_count_141 (fun z2 _ H1 locs q3 hP1 hg1 hg2 hS => ?_)
    have hP := xP_kept hP hg2
    generalize H1 = H at hP hS ⊢
    clear hg1 hg2 hP1
    obtain rfl : z2 = livF N := q3
    exact rI T (u := ()) hr hk hK hP hS dX7_count_144 (by unfold qCount; rw [if_neg (by omega), if_neg (by omega), if_neg (by omega), if_pos (by omega)])
  have c1_4 : 4 ≤ wh := by omega
  clear c1 c1_3
  by_cases c1 : wh = 4
  · skip
    refine xv_tableIn T (off := 144) (tgt := 145) 4 c1 (by omega) dX7_count_1 (by omega) (by omega) (by decide) (by decide) ?_
    refine lv_aload_n T.1 T.2.1 dX7_count_145 rfl (lv_at hl 0 rfl) ?_
    refine g7_ship T hK hP 0 rfl rfl mw_1_237 dX7_count_146 ?_
    refine g6_seals T hK hP 6 rfl rfl mw_1_154 dX7_count_149 ?_
    refine g5_used T hK hP 14 rfl (v := .int (iI (N 7))) rfl mw_1_65 dX7_count_152 ?_
    exact rI T (u := ()) hr hk hK hP hS dX7_count_155 (by unfold qCount; rw [if_neg (by omega), if_neg (by omega), if_neg (by omega), if_neg (by omega), if_pos (by omega)])
  have c1_5 : 5 ≤ wh := by omega
  clear c1 c1_4
  by_cases c1 : wh = 5
  · skip
    refine xv_tableIn T (off := 155) (tgt := 156) 5 c1 (by omega) dX7_count_1 (by omega) (by omega) (by decide) (by decide) ?_
    refine lv_aload_n T.1 T.2.1 dX7_count_156 rfl (lv_at hl 0 rfl) ?_
    refine g7_ship T hK hP 0 rfl rfl mw_1_237 dX7_count_157 ?_
    refine g6_zone T hK hP 6 rfl (v := .int (iI (N 0))) rfl mw_1_143 dX7_count_160 ?_
    exact rI T (u := ()) hr hk hK hP hS dX7_count_163 (by unfold qCount; rw [if_neg (by omega), if_neg (by omega), if_neg (by omega), if_neg (by omega), if_neg (by omega), if_pos (by omega)])
  have c1_6 : 6 ≤ wh := by omega
  clear c1 c1_5
  by_cases c1 : wh = 6
  · skip
    refine xv_tableIn T (off := 163) (tgt := 164) 6 c1 (by omega) dX7_count_1 (by omega) (by omega) (by decide) (by decide) ?_
    refine lv_aload_n T.1 T.2.1 dX7_count_164 rfl (lv_at hl 0 rfl) ?_
    refine g7_ship T hK hP 0 rfl rfl mw_1_237 dX7_count_165 ?_
    refine g6_day T hK hP 6 rfl (v := .int (iI (N 1))) rfl mw_1_145 dX7_count_168 ?_
    exact rI T (u := ()) hr hk hK hP hS dX7_count_171 (by unfold qCount; rw [if_neg (by omega), if_neg (by omega), if_neg (by omega), if_neg (by omega), if_neg (by omega), if_neg (by omega), if_pos (by omega)])
  have c1_7 : 7 ≤ wh := by omega
  clear c1 c1_6
  by_cases c1 : wh = 7
  · skip
    refine xv_tableIn T (off := 171) (tgt := 172) 7 c1 (by omega) dX7_count_1 (by omega) (by omega) (by decide) (by decide) ?_
    refine lv_aload_n T.1 T.2.1 dX7_count_172 rfl (lv_at hl 0 rfl) ?_
    refine g7_ship T hK hP 0 rfl rfl mw_1_237 dX7_count_173 ?_
    refine g6_lockers T hK hP 6 rfl rfl mw_1_152 dX7_count_176 ?_
    refine xv_iconst T dX7_count_179 ?_
    refine cI_V T hK hP hS 9 rfl rfl rfl (c_X2_inState l K (o + 1) N 1 (by omega) (by omega) (by omega)) iX2_inState mw_3_58 ⟨Nat.le_of_ble_eq_true rfl, Nat.le_of_ble_eq_true rfl⟩ (xW_3 hP) noA rfl hl.1 rfl (Nat.le_of_ble_eq_true rfl) ⟨Nat.zero_le _, Nat.zero_le _⟩ dX7_count_180 (fun z4 _ H1 locs q5 hP1 hg1 hg2 hS => ?_)
    have hP := xP_kept hP hg2
    generalize H1 = H at hP hS ⊢
    clear hg1 hg2 hP1
    obtain rfl : z4 = cntF N 1 := q5
    exact rI T (u := ()) hr hk hK hP hS dX7_count_183 (by unfold qCount; rw [if_neg (by omega), if_neg (by omega), if_neg (by omega), if_neg (by omega), if_neg (by omega), if_neg (by omega), if_neg (by omega), if_pos (by omega)])
  have c1_8 : 8 ≤ wh := by omega
  clear c1 c1_7
  by_cases c1 : wh = 8
  · skip
    refine xv_tableIn T (off := 183) (tgt := 184) 8 c1 (by omega) dX7_count_1 (by omega) (by omega) (by decide) (by decide) ?_
    refine lv_aload_n T.1 T.2.1 dX7_count_184 rfl (lv_at hl 0 rfl) ?_
    refine g7_ship T hK hP 0 rfl rfl mw_1_237 dX7_count_185 ?_
    refine g6_lockers T hK hP 6 rfl rfl mw_1_152 dX7_count_188 ?_
    refine xv_iconst T dX7_count_191 ?_
    refine cI_V T hK hP hS 9 rfl rfl rfl (c_X2_inState l K (o + 1) N 2 (by omega) (by omega) (by omega)) iX2_inState mw_3_58 ⟨Nat.le_of_ble_eq_true rfl, Nat.le_of_ble_eq_true rfl⟩ (xW_3 hP) noA rfl hl.1 rfl (Nat.le_of_ble_eq_true rfl) ⟨Nat.zero_le _, Nat.zero_le _⟩ dX7_count_192 (fun z6 _ H1 locs q7 hP1 hg1 hg2 hS => ?_)
    have hP := xP_kept hP hg2
    generalize H1 = H at hP hS ⊢
    clear hg1 hg2 hP1
    obtain rfl : z6 = cntF N 2 := q7
    exact rI T (u := ()) hr hk hK hP hS dX7_count_195 (by unfold qCount; rw [if_neg (by omega), if_neg (by omega), if_neg (by omega), if_neg (by omega), if_neg (by omega), if_neg (by omega), if_neg (by omega), if_neg (by omega), if_pos (by omega)])
  have c1_9 : 9 ≤ wh := by omega
  clear c1 c1_8
  by_cases c1 : wh = 9
  · skip
    refine xv_tableIn T (off := 195) (tgt := 196) 9 c1 (by omega) dX7_count_1 (by omega) (by omega) (by decide) (by decide) ?_
    refine lv_aload_n T.1 T.2.1 dX7_count_196 rfl (lv_at hl 0 rfl) ?_
    refine g7_history T hK hP 0 rfl rfl mw_1_239 dX7_count_197 ?_
    refine g1_number T hK hP 1 rfl (v := .int (iI (G 0))) rfl mw_1_188 dX7_count_200 ?_
    exact rI T (u := ()) hr hk hK hP hS dX7_count_203 (by unfold qCount; rw [if_neg (by omega), if_neg (by omega), if_neg (by omega), if_neg (by omega), if_neg (by omega), if_neg (by omega), if_neg (by omega), if_neg (by omega), if_neg (by omega), if_pos (by omega)])
  have c1_10 : 10 ≤ wh := by omega
  clear c1 c1_9
  by_cases c1 : wh = 10
  · skip
    refine xv_tableIn T (off := 203) (tgt := 204) 10 c1 (by omega) dX7_count_1 (by omega) (by omega) (by decide) (by decide) ?_
    refine lv_aload_n T.1 T.2.1 dX7_count_204 rfl (lv_at hl 0 rfl) ?_
    refine g7_log T hK hP 0 rfl rfl mw_2_0 dX7_count_205 ?_
    refine g3_length T hK hP 3 rfl (v := .int (iI (L 0))) rfl mw_1_205 dX7_count_208 ?_
    exact rI T (u := ()) hr hk hK hP hS dX7_count_211 (by unfold qCount; rw [if_neg (by omega), if_neg (by omega), if_neg (by omega), if_neg (by omega), if_neg (by omega), if_neg (by omega), if_neg (by omega), if_neg (by omega), if_neg (by omega), if_neg (by omega), if_pos (by omega)])
  have c1_11 : 11 ≤ wh := by omega
  clear c1 c1_10
  by_cases c1 : wh = 11
  · skip
    refine xv_tableIn T (off := 231) (tgt := 232) 11 c1 (by omega) dX7_count_1 (by omega) (by omega) (by decide) (by decide) ?_
    refine xv_iconst T dX7_count_232 ?_
    exact rI T (u := ()) hr hk hK hP hS dX7_count_233 (by unfold qCount; rw [if_neg (by omega), if_neg (by omega), if_neg (by omega), if_neg (by omega), if_neg (by omega), if_neg (by omega), if_neg (by omega), if_neg (by omega), if_neg (by omega), if_neg (by omega), if_neg (by omega), if_neg (by omega), if_neg (by omega)])
  have c1_12 : 12 ≤ wh := by omega
  clear c1 c1_11
  by_cases c1 : wh = 12
  · skip
    refine xv_tableIn T (off := 231) (tgt := 232) 12 c1 (by omega) dX7_count_1 (by omega) (by omega) (by decide) (by decide) ?_
    refine xv_iconst T dX7_count_232 ?_
    exact rI T (u := ()) hr hk hK hP hS dX7_count_233 (by unfold qCount; rw [if_neg (by omega), if_neg (by omega), if_neg (by omega), if_neg (by omega), if_neg (by omega), if_neg (by omega), if_neg (by omega), if_neg (by omega), if_neg (by omega), if_neg (by omega), if_neg (by omega), if_neg (by omega), if_neg (by omega)])
  have c1_13 : 13 ≤ wh := by omega
  clear c1 c1_12
  by_cases c1 : wh = 13
  · skip
    refine xv_tableIn T (off := 231) (tgt := 232) 13 c1 (by omega) dX7_count_1 (by omega) (by omega) (by decide) (by decide) ?_
    refine xv_iconst T dX7_count_232 ?_
    exact rI T (u := ()) hr hk hK hP hS dX7_count_233 (by unfold qCount; rw [if_neg (by omega), if_neg (by omega), if_neg (by omega), if_neg (by omega), if_neg (by omega), if_neg (by omega), if_neg (by omega), if_neg (by omega), if_neg (by omega), if_neg (by omega), if_neg (by omega), if_neg (by omega), if_neg (by omega)])
  have c1_14 : 14 ≤ wh := by omega
  clear c1 c1_13
  by_cases c1 : wh = 14
  · skip
    refine xv_tableIn T (off := 231) (tgt := 232) 14 c1 (by omega) dX7_count_1 (by omega) (by omega) (by decide) (by decide) ?_
    refine xv_iconst T dX7_count_232 ?_
    exact rI T (u := ()) hr hk hK hP hS dX7_count_233 (by unfold qCount; rw [if_neg (by omega), if_neg (by omega), if_neg (by omega), if_neg (by omega), if_neg (by omega), if_neg (by omega), if_neg (by omega), if_neg (by omega), if_neg (by omega), if_neg (by omega), if_neg (by omega), if_neg (by omega), if_neg (by omega)])
  have c1_15 : 15 ≤ wh := by omega
  clear c1 c1_14
  by_cases c1 : wh = 15
  · skip
    refine xv_tableIn T (off := 231) (tgt := 232) 15 c1 (by omega) dX7_count_1 (by omega) (by omega) (by decide) (by decide) ?_
    refine xv_iconst T dX7_count_232 ?_
    exact rI T (u := ()) hr hk hK hP hS dX7_count_233 (by unfold qCount; rw [if_neg (by omega), if_neg (by omega), if_neg (by omega), if_neg (by omega), if_neg (by omega), if_neg (by omega), if_neg (by omega), if_neg (by omega), if_neg (by omega), if_neg (by omega), if_neg (by omega), if_neg (by omega), if_neg (by omega)])
  have c1_16 : 16 ≤ wh := by omega
  clear c1 c1_15
  by_cases c1 : wh = 16
  · skip
    refine xv_tableIn T (off := 231) (tgt := 232) 16 c1 (by omega) dX7_count_1 (by omega) (by omega) (by decide) (by decide) ?_
    refine xv_iconst T dX7_count_232 ?_
    exact rI T (u := ()) hr hk hK hP hS dX7_count_233 (by unfold qCount; rw [if_neg (by omega), if_neg (by omega), if_neg (by omega), if_neg (by omega), if_neg (by omega), if_neg (by omega), if_neg (by omega), if_neg (by omega), if_neg (by omega), if_neg (by omega), if_neg (by omega), if_neg (by omega), if_neg (by omega)])
  have c1_17 : 17 ≤ wh := by omega
  clear c1 c1_16
  by_cases c1 : wh = 17
  · skip
    refine xv_tableIn T (off := 231) (tgt := 232) 17 c1 (by omega) dX7_count_1 (by omega) (by omega) (by decide) (by decide) ?_
    refine xv_iconst T dX7_count_232 ?_
    exact rI T (u := ()) hr hk hK hP hS dX7_count_233 (by unfold qCount; rw [if_neg (by omega), if_neg (by omega), if_neg (by omega), if_neg (by omega), if_neg (by omega), if_neg (by omega), if_neg (by omega), if_neg (by omega), if_neg (by omega), if_neg (by omega), if_neg (by omega), if_neg (by omega), if_neg (by omega)])
  have c1_18 : 18 ≤ wh := by omega
  clear c1 c1_17
  by_cases c1 : wh = 18
  · skip
    refine xv_tableIn T (off := 231) (tgt := 232) 18 c1 (by omega) dX7_count_1 (by omega) (by omega) (by decide) (by decide) ?_
    refine xv_iconst T dX7_count_232 ?_
    exact rI T (u := ()) hr hk hK hP hS dX7_count_233 (by unfold qCount; rw [if_neg (by omega), if_neg (by omega), if_neg (by omega), if_neg (by omega), if_neg (by omega), if_neg (by omega), if_neg (by omega), if_neg (by omega), if_neg (by omega), if_neg (by omega), if_neg (by omega), if_neg (by omega), if_neg (by omega)])
  have c1_19 : 19 ≤ wh := by omega
  clear c1 c1_18
  by_cases c1 : wh = 19
  · skip
    refine xv_tableIn T (off := 231) (tgt := 232) 19 c1 (by omega) dX7_count_1 (by omega) (by omega) (by decide) (by decide) ?_
    refine xv_iconst T dX7_count_232 ?_
    exact rI T (u := ()) hr hk hK hP hS dX7_count_233 (by unfold qCount; rw [if_neg (by omega), if_neg (by omega), if_neg (by omega), if_neg (by omega), if_neg (by omega), if_neg (by omega), if_neg (by omega), if_neg (by omega), if_neg (by omega), if_neg (by omega), if_neg (by omega), if_neg (by omega), if_neg (by omega)])
  have c1_20 : 20 ≤ wh := by omega
  clear c1 c1_19
  by_cases c1 : wh = 20
  · skip
    refine xv_tableIn T (off := 211) (tgt := 212) 20 c1 (by omega) dX7_count_1 (by omega) (by omega) (by decide) (by decide) ?_
    refine lv_aload_n T.1 T.2.1 dX7_count_212 rfl (lv_at hl 0 rfl) ?_
    refine g7_ship T hK hP 0 rfl rfl mw_1_237 dX7_count_213 ?_
    refine g6_settings T hK hP 6 rfl rfl mw_1_150 dX7_count_216 ?_
    refine xv_iconst T dX7_count_219 ?_
    refine xa_iald T hK hP 8 rfl rfl 2 (by omega) (by omega) (by decide) dX7_count_220 ?_
    exact rI T (u := ()) hr hk hK hP hS dX7_count_221 (by unfold qCount; rw [if_neg (by omega), if_neg (by omega), if_neg (by omega), if_neg (by omega), if_neg (by omega), if_neg (by omega), if_neg (by omega), if_neg (by omega), if_neg (by omega), if_neg (by omega), if_neg (by omega), if_pos (by omega)])
  have c1_21 : 21 ≤ wh := by omega
  clear c1 c1_20
  have c1 : wh = 21 := by omega
  refine xv_tableIn T (off := 221) (tgt := 222) 21 c1 (by omega) dX7_count_1 (by omega) (by omega) (by decide) (by decide) ?_
  refine lv_aload_n T.1 T.2.1 dX7_count_222 rfl (lv_at hl 0 rfl) ?_
  refine g7_ship T hK hP 0 rfl rfl mw_1_237 dX7_count_223 ?_
  refine g6_settings T hK hP 6 rfl rfl mw_1_150 dX7_count_226 ?_
  refine xv_iconst T dX7_count_229 ?_
  refine xa_iald T hK hP 8 rfl rfl 3 (by omega) (by omega) (by decide) dX7_count_230 ?_
  exact rI T (u := ()) hr hk hK hP hS dX7_count_231 (by unfold qCount; rw [if_neg (by omega), if_neg (by omega), if_neg (by omega), if_neg (by omega), if_neg (by omega), if_neg (by omega), if_neg (by omega), if_neg (by omega), if_neg (by omega), if_neg (by omega), if_neg (by omega), if_neg (by omega), if_pos (by omega)])
set_option maxHeartbeats 4000000 in
set_option maxRecDepth 100000 in
theorem c_X7_account (l : Launch) (K : KT) (o : Nat) (N M : Int → Int) (R : Nat → Int → Int) (G L NU TT : Int → Int) (gd wh : Int) (r_gd : -2147483648 ≤ gd ∧ gd ≤ 2147483647) (r_wh : -2147483648 ≤ wh ∧ wh ≤ 2147483647) (hI : Inv N) : CtI l yX7_account cX7_account 4 .int 2 46 K [.ref o, .int (iI gd), .int (iI wh)] (xW K o N M R G L NU TT) (NoA) (fun (z : Int) (_ : Unit) => z = qAccount N gd wh) (fun _ => xW K o N M R G L NU TT) := by
  refine CtI_of (by decide) (Nat.le_of_ble_eq_true rfl) ?_
  intro p e s m args below meth c T hr hk hP hK ls hl
  have T : CF p m c cX7_account 4 s args RX7 := T
  have hS : va_S (NoA) s.heap s.heap [] := va_S.rf
  have hl : lv_has ls 4 [(0, .ref o), (1, .int (iI gd)), (2, .int (iI wh))] := hl
  obtain ⟨hI0, hIL, hIH, hIB, hID, hIC, hIG, hIZ, hIF⟩ := id hI
  have hR : InR N := ⟨hI0, hIB⟩
  obtain ⟨b0, b1, b2, b3, b4, b5, b6, b7, b8, b9⟩ := id hI0
  refine lv_aload_n T.1 T.2.1 dX7_account_0 rfl (lv_at hl 0 rfl) ?_
  refine g7_ship T hK hP 0 rfl rfl mw_1_237 dX7_account_1 ?_
  refine lv_iload_n T.1 T.2.1 dX7_account_4 rfl (lv_at hl 1 rfl) ?_
  refine cI_V T hK hP hS 6 rfl rfl rfl (c_X6_hasGood l K (o + 1) N gd (by omega) (by omega)) iX6_hasGood mw_2_133 ⟨Nat.le_of_ble_eq_true rfl, Nat.le_of_ble_eq_true rfl⟩ (xW_3 hP) noA rfl hl.1 rfl (Nat.le_of_ble_eq_true rfl) ⟨Nat.zero_le _, Nat.zero_le _⟩ dX7_account_5 (fun z1 _ H1 locs q2 hP1 hg1 hg2 hS => ?_)
  have hP := xP_kept hP hg2
  generalize H1 = H at hP hS ⊢
  clear hg1 hg2 hP1
  rcases q2 with ⟨rfl, q2⟩ | ⟨rfl, q2⟩
  · skip
    refine xv_if_eq T (by omega) (tgt := 21) dX7_account_8 (by decide) (fun c3 => absurd c3 (by omega)) (fun _ => ?_)
    refine lv_iload_n T.1 T.2.1 dX7_account_11 rfl (lv_at hl 2 rfl) ?_
    refine xv_if_lt T (by omega) (tgt := 21) dX7_account_12 (by decide) (fun c4 => ?_) (fun c4 => ?_)
    · skip
      refine xv_iconst T dX7_account_21 ?_
      exact rI T (u := ()) hr hk hK hP hS dX7_account_22 (by unfold qAccount; (repeat' split) <;> first | rfl | (exfalso; omega) | omega)
    · skip
      refine lv_iload_n T.1 T.2.1 dX7_account_15 rfl (lv_at hl 2 rfl) ?_
      refine xv_bipush T dX7_account_16 (by omega) ?_
      refine xv_icmp_le T (by omega) (tgt := 23) dX7_account_18 (by decide) (fun c5 => ?_) (fun c5 => ?_)
      · skip
        refine lv_aload_n T.1 T.2.1 dX7_account_23 rfl (lv_at hl 0 rfl) ?_
        refine g7_ship T hK hP 0 rfl rfl mw_1_237 dX7_account_24 ?_
        refine g6_lockers T hK hP 6 rfl rfl mw_1_152 dX7_account_27 ?_
        refine lv_astore_n (lv' := [(3, .ref (o + 1 + 3)), (0, .ref o), (1, .int (iI gd)), (2, .int (iI wh))]) T.1 T.2.1 dX7_account_30 rfl hl (by decide) rfl (fun ls hl => ?_)
        refine lv_iload_n T.1 T.2.1 dX7_account_31 rfl (lv_at hl 3 rfl) ?_
        by_cases c6l : wh < 0
        · skip
          refine xv_tableOut T (tgt := 92) (by omega) dX7_account_32 (by omega) (by decide) ?_
          refine lv_aload_n T.1 T.2.1 dX7_account_92 rfl (lv_at hl 1 rfl) ?_
          refine g7_ship T hK hP 0 rfl rfl mw_1_237 dX7_account_93 ?_
          refine g6_releases T hK hP 6 rfl rfl mw_1_158 dX7_account_96 ?_
          refine g4_units T hK hP 24 rfl rfl mw_1_131 dX7_account_99 ?_
          refine lv_aload_n T.1 T.2.1 dX7_account_102 rfl (lv_at hl 1 rfl) ?_
          refine g7_ship T hK hP 0 rfl rfl mw_1_237 dX7_account_103 ?_
          refine g6_releases T hK hP 6 rfl rfl mw_1_158 dX7_account_106 ?_
          refine lv_iload_n T.1 T.2.1 dX7_account_109 rfl (lv_at hl 2 rfl) ?_
          refine lv_iload_n T.1 T.2.1 dX7_account_110 rfl (lv_at hl 3 rfl) ?_
          refine xv_iconst T dX7_account_111 ?_
          refine xv_isub T dX7_account_112 ?_
          refine cI_V T hK hP hS 24 rfl rfl rfl (c_X4_place l K (o + 1) N gd (wh - 3) ) iX4_place mw_3_36 ⟨Nat.le_of_ble_eq_true rfl, Nat.le_of_ble_eq_true rfl⟩ (xW_3 hP) noA rfl hl.1 rfl (Nat.le_of_ble_eq_true rfl) ⟨Nat.zero_le _, Nat.zero_le _⟩ dX7_account_113 (fun z7 _ H1 locs q8 hP1 hg1 hg2 hS => ?_)
          have hP := xP_kept hP hg2
          generalize H1 = H at hP hS ⊢
          clear hg1 hg2 hP1
          obtain rfl : z7 = gd * 4 + (wh - 3) := q8
          refine xa_iald T hK hP 25 rfl rfl (117 + 4 * gd + wh) (by omega) (by omega) (by decide) dX7_account_116 ?_
          exact rI T (u := ()) hr hk hK hP hS dX7_account_117 (by unfold qAccount; rw [if_neg (by omega), if_neg (by omega), if_neg (by omega), if_neg (by omega)])
        by_cases c6h : 2 < wh
        · skip
          refine xv_tableOut T (tgt := 92) (by omega) dX7_account_32 (by omega) (by decide) ?_
          refine lv_aload_n T.1 T.2.1 dX7_account_92 rfl (lv_at hl 1 rfl) ?_
          refine g7_ship T hK hP 0 rfl rfl mw_1_237 dX7_account_93 ?_
          refine g6_releases T hK hP 6 rfl rfl mw_1_158 dX7_account_96 ?_
          refine g4_units T hK hP 24 rfl rfl mw_1_131 dX7_account_99 ?_
          refine lv_aload_n T.1 T.2.1 dX7_account_102 rfl (lv_at hl 1 rfl) ?_
          refine g7_ship T hK hP 0 rfl rfl mw_1_237 dX7_account_103 ?_
          refine g6_releases T hK hP 6 rfl rfl mw_1_158 dX7_account_106 ?_
          refine lv_iload_n T.1 T.2.1 dX7_account_109 rfl (lv_at hl 2 rfl) ?_
          refine lv_iload_n T.1 T.2.1 dX7_account_110 rfl (lv_at hl 3 rfl) ?_
          refine xv_iconst T dX7_account_111 ?_
          refine xv_isub T dX7_account_112 ?_
          refine cI_V T hK hP hS 24 rfl rfl rfl (c_X4_place l K (o + 1) N gd (wh - 3) ) iX4_place mw_3_36 ⟨Nat.le_of_ble_eq_true rfl, Nat.le_of_ble_eq_true rfl⟩ (xW_3 hP) noA rfl hl.1 rfl (Nat.le_of_ble_eq_true rfl) ⟨Nat.zero_le _, Nat.zero_le _⟩ dX7_account_113 (fun z9 _ H1 locs q10 hP1 hg1 hg2 hS => ?_)
          have hP := xP_kept hP hg2
          generalize H1 = H at hP hS ⊢
          clear hg1 hg2 hP1
          obtain rfl : z9 = gd * 4 + (wh - 3) := q10
          refine xa_iald T hK hP 25 rfl rfl (117 + 4 * gd + wh) (by omega) (by omega) (by decide) dX7_account_116 ?_
          exact rI T (u := ()) hr hk hK hP hS dX7_account_117 (by unfold qAccount; rw [if_neg (by omega), if_neg (by omega), if_neg (by omega), if_neg (by omega)])
        have c6_0 : 0 ≤ wh := by omega
        by_cases c6 : wh = 0
        · skip
          refine xv_tableIn T (off := 28) (tgt := 60) 0 c6 (by omega) dX7_account_32 (by omega) (by omega) (by decide) (by decide) ?_
          refine lv_aload_n T.1 T.2.1 dX7_account_60 rfl (lv_at hl 1 rfl) ?_
          refine g7_ship T hK hP 0 rfl rfl mw_1_237 dX7_account_61 ?_
          refine g6_bonds T hK hP 6 rfl rfl mw_1_156 dX7_account_64 ?_
          refine lv_iload_n T.1 T.2.1 dX7_account_67 rfl (lv_at hl 2 rfl) ?_
          refine cI_V T hK hP hS 18 rfl rfl rfl (c_X0_loaded l K (o + 1) N gd (by omega) hR) iX0_loaded mw_3_28 ⟨Nat.le_of_ble_eq_true rfl, Nat.le_of_ble_eq_true rfl⟩ (xW_3 hP) noA rfl hl.1 rfl (Nat.le_of_ble_eq_true rfl) ⟨Nat.zero_le _, Nat.zero_le _⟩ dX7_account_68 (fun z11 _ H1 locs q12 hP1 hg1 hg2 hS => ?_)
          have hP := xP_kept hP hg2
          generalize H1 = H at hP hS ⊢
          clear hg1 hg2 hP1
          obtain rfl : z11 = sumZ (fun b => if N (152 + b) = gd then N (212 + b) else 0) (N 6).toNat := q12
          exact rI T (u := ()) hr hk hK hP hS dX7_account_71 (by unfold qAccount; rw [if_neg (by omega), if_pos (by omega)]; exact (hIG gd (by omega) (by omega)).symm)
        have c6_1 : 1 ≤ wh := by omega
        clear c6 c6_0
        by_cases c6 : wh = 1
        · skip
          refine xv_tableIn T (off := 40) (tgt := 72) 1 c6 (by omega) dX7_account_32 (by omega) (by omega) (by decide) (by decide) ?_
          refine lv_aload_n T.1 T.2.1 dX7_account_72 rfl (lv_at hl 0 rfl) ?_
          refine lv_aload_n T.1 T.2.1 dX7_account_73 rfl (lv_at hl 0 rfl) ?_
          refine g2_units T hK hP 9 rfl rfl mw_1_41 dX7_account_74 ?_
          refine lv_iload_n T.1 T.2.1 dX7_account_77 rfl (lv_at hl 2 rfl) ?_
          refine cI_V T hK hP hS 9 rfl rfl rfl (c_X2_sumOfGood_u l K (o + 1) N gd (by omega) (by omega)) iX2_sumOfGood mw_3_32 ⟨Nat.le_of_ble_eq_true rfl, Nat.le_of_ble_eq_true rfl⟩ (xW_3 hP) noA rfl hl.1 rfl (Nat.le_of_ble_eq_true rfl) ⟨Nat.zero_le _, Nat.zero_le _⟩ dX7_account_78 (fun z13 _ H1 locs q14 hP1 hg1 hg2 hS => ?_)
          have hP := xP_kept hP hg2
          generalize H1 = H at hP hS ⊢
          clear hg1 hg2 hP1
          obtain rfl : z13 = sumZ (fun k => N (24 + 8 * k + gd)) (N 4).toNat := q14
          exact rI T (u := ()) hr hk hK hP hS dX7_account_81 (by unfold qAccount; rw [if_neg (by omega), if_neg (by omega), if_pos (by omega)]; exact (acc_1 hI0 hIH (g := gd) (by omega)).1.symm)
        have c6_2 : 2 ≤ wh := by omega
        clear c6 c6_1
        have c6 : wh = 2 := by omega
        refine xv_tableIn T (off := 50) (tgt := 82) 2 c6 (by omega) dX7_account_32 (by omega) (by omega) (by decide) (by decide) ?_
        refine lv_aload_n T.1 T.2.1 dX7_account_82 rfl (lv_at hl 0 rfl) ?_
        refine lv_aload_n T.1 T.2.1 dX7_account_83 rfl (lv_at hl 0 rfl) ?_
        refine g2_missing T hK hP 9 rfl rfl mw_1_44 dX7_account_84 ?_
        refine lv_iload_n T.1 T.2.1 dX7_account_87 rfl (lv_at hl 2 rfl) ?_
        refine cI_V T hK hP hS 9 rfl rfl rfl (c_X2_sumOfGood_m l K (o + 1) N gd (by omega) (by omega)) iX2_sumOfGood mw_3_32 ⟨Nat.le_of_ble_eq_true rfl, Nat.le_of_ble_eq_true rfl⟩ (xW_3 hP) noA rfl hl.1 rfl (Nat.le_of_ble_eq_true rfl) ⟨Nat.zero_le _, Nat.zero_le _⟩ dX7_account_88 (fun z15 _ H1 locs q16 hP1 hg1 hg2 hS => ?_)
        have hP := xP_kept hP hg2
        generalize H1 = H at hP hS ⊢
        clear hg1 hg2 hP1
        obtain rfl : z15 = sumZ (fun k => N (64 + 8 * k + gd)) (N 4).toNat := q16
        exact rI T (u := ()) hr hk hK hP hS dX7_account_91 (by unfold qAccount; rw [if_neg (by omega), if_neg (by omega), if_neg (by omega), if_pos (by omega)]; exact (acc_1 hI0 hIH (g := gd) (by omega)).2.symm)
      · skip
        refine xv_iconst T dX7_account_21 ?_
        exact rI T (u := ()) hr hk hK hP hS dX7_account_22 (by unfold qAccount; (repeat' split) <;> first | rfl | (exfalso; omega) | omega)
  · skip
    refine xv_if_eq T (by omega) (tgt := 21) dX7_account_8 (by decide) (fun _ => ?_) (fun c17 => absurd c17 (by omega))
    refine xv_iconst T dX7_account_21 ?_
    exact rI T (u := ()) hr hk hK hP hS dX7_account_22 (by unfold qAccount; (repeat' split) <;> first | rfl | (exfalso; omega) | omega)
set_option maxHeartbeats 4000000 in
set_option maxRecDepth 100000 in
theorem c_X7_worth (l : Launch) (K : KT) (o : Nat) (N M : Int → Int) (R : Nat → Int → Int) (G L NU TT : Int → Int) (gd un : Int) (r_gd : -2147483648 ≤ gd ∧ gd ≤ 2147483647) (r_un : -2147483648 ≤ un ∧ un ≤ 2147483647) (hI : Inv N) : CtI l yX7_worth cX7_worth 3 .int 2 58 K [.ref o, .int (iI gd), .int (iI un)] (xW K o N M R G L NU TT) (NoA) (fun (z : Int) (_ : Unit) => z = qWorth N gd un) (fun _ => xW K o N M R G L NU TT) := by
  refine CtI_of (by decide) (Nat.le_of_ble_eq_true rfl) ?_
  intro p e s m args below meth c T hr hk hP hK ls hl
  have T : CF p m c cX7_worth 3 s args RX7 := T
  have hS : va_S (NoA) s.heap s.heap [] := va_S.rf
  have hl : lv_has ls 3 [(0, .ref o), (1, .int (iI gd)), (2, .int (iI un))] := hl
  obtain ⟨hI0, hIL, hIH, hIB, hID, hIC, hIG, hIZ, hIF⟩ := id hI
  have hR : InR N := ⟨hI0, hIB⟩
  obtain ⟨b0, b1, b2, b3, b4, b5, b6, b7, b8, b9⟩ := id hI0
  have hrm := rest_max hR gd
  refine lv_aload_n T.1 T.2.1 dX7_worth_0 rfl (lv_at hl 0 rfl) ?_
  refine g7_ship T hK hP 0 rfl rfl mw_1_237 dX7_worth_1 ?_
  refine lv_iload_n T.1 T.2.1 dX7_worth_4 rfl (lv_at hl 1 rfl) ?_
  refine cI_V T hK hP hS 6 rfl rfl rfl (c_X6_hasGood l K (o + 1) N gd (by omega) (by omega)) iX6_hasGood mw_2_133 ⟨Nat.le_of_ble_eq_true rfl, Nat.le_of_ble_eq_true rfl⟩ (xW_3 hP) noA rfl hl.1 rfl (Nat.le_of_ble_eq_true rfl) ⟨Nat.zero_le _, Nat.zero_le _⟩ dX7_worth_5 (fun z1 _ H1 locs q2 hP1 hg1 hg2 hS => ?_)
  have hP := xP_kept hP hg2
  generalize H1 = H at hP hS ⊢
  clear hg1 hg2 hP1
  rcases q2 with ⟨rfl, q2⟩ | ⟨rfl, q2⟩
  · skip
    refine xv_if_eq T (by omega) (tgt := 22) dX7_worth_8 (by decide) (fun c3 => absurd c3 (by omega)) (fun _ => ?_)
    refine lv_iload_n T.1 T.2.1 dX7_worth_11 rfl (lv_at hl 2 rfl) ?_
    refine xv_iconst T dX7_worth_12 ?_
    refine xv_icmp_lt T (by omega) (tgt := 22) dX7_worth_13 (by decide) (fun c4 => ?_) (fun c4 => ?_)
    · skip
      refine xv_iconst T dX7_worth_22 ?_
      exact rI T (u := ()) hr hk hK hP hS dX7_worth_23 (by unfold qWorth; rw [if_pos (by omega)])
    · skip
      refine lv_iload_n T.1 T.2.1 dX7_worth_16 rfl (lv_at hl 2 rfl) ?_
      refine xv_ldc T mw_3_71 (n := 99999) (by decide +kernel) dX7_worth_17 ?_
      refine xv_icmp_le T (by omega) (tgt := 24) dX7_worth_19 (by decide) (fun c5 => ?_) (fun c5 => ?_)
      · skip
        refine lv_aload_n T.1 T.2.1 dX7_worth_24 rfl (lv_at hl 0 rfl) ?_
        refine g7_ship T hK hP 0 rfl rfl mw_1_237 dX7_worth_25 ?_
        refine g6_bonds T hK hP 6 rfl rfl mw_1_156 dX7_worth_28 ?_
        refine lv_iload_n T.1 T.2.1 dX7_worth_31 rfl (lv_at hl 1 rfl) ?_
        refine cI_V T hK hP hS 18 rfl rfl rfl (c_X0_leftOf l K (o + 1) N gd (by omega) hR) iX0_leftOf mw_3_72 ⟨Nat.le_of_ble_eq_true rfl, Nat.le_of_ble_eq_true rfl⟩ (xW_3 hP) noA rfl hl.1 rfl (Nat.le_of_ble_eq_true rfl) ⟨Nat.zero_le _, Nat.zero_le _⟩ dX7_worth_32 (fun z6 _ H1 locs q7 hP1 hg1 hg2 hS => ?_)
        have hP := xP_kept hP hg2
        generalize H1 = H at hP hS ⊢
        clear hg1 hg2 hP1
        obtain rfl : z6 = restF N gd := q7.trans rfl
        refine lv_iload_n T.1 T.2.1 dX7_worth_35 rfl (lv_at hl 2 rfl) ?_
        refine xv_icmp_ge T (by omega) (tgt := 42) dX7_worth_36 (by decide) (fun c8 => ?_) (fun c8 => ?_)
        · skip
          refine lv_aload_n T.1 T.2.1 dX7_worth_42 rfl (lv_at hl 0 rfl) ?_
          refine g7_ship T hK hP 0 rfl rfl mw_1_237 dX7_worth_43 ?_
          refine g6_bonds T hK hP 6 rfl rfl mw_1_156 dX7_worth_46 ?_
          refine lv_iload_n T.1 T.2.1 dX7_worth_49 rfl (lv_at hl 1 rfl) ?_
          refine lv_iload_n T.1 T.2.1 dX7_worth_50 rfl (lv_at hl 2 rfl) ?_
          refine xv_iconst T dX7_worth_51 ?_
          refine cL_V T hK hP hS 18 rfl rfl rfl (c_X0_amountOf_0 l K (o + 1) N gd un (by omega) (by omega) hR) iX0_amountOf mw_3_76 ⟨Nat.le_of_ble_eq_true rfl, Nat.le_of_ble_eq_true rfl⟩ (xW_3 hP) noA rfl hl.1 rfl (Nat.le_of_ble_eq_true rfl) ⟨Nat.zero_le _, Nat.zero_le _⟩ dX7_worth_52 (fun z9 _ H1 locs q10 hP1 hg1 hg2 hS => ?_)
          have hP := xP_kept hP hg2
          generalize H1 = H at hP hS ⊢
          clear hg1 hg2 hP1
          obtain rfl : z9 = (worF un.toNat N gd (-1) un).1 := q10
          refine xv_l2i T dX7_worth_55 ?_
          exact rI T (u := ()) hr hk hK hP hS dX7_worth_56 (by have w0 := (worF_in un.toNat (N := N) (g := gd) (p := -1) (u := un) hR (by omega)).1; unfold qWorth; rw [if_neg (by omega), (worA_full hR (by omega) (by omega)).1 (by omega), if_neg (by omega)])
        · skip
          refine xv_bipush T dX7_worth_39 (by omega) ?_
          exact rI T (u := ()) hr hk hK hP hS dX7_worth_41 (by unfold qWorth; rw [if_neg (by omega), (worA_full hR (by omega) (by omega)).2 (by omega), if_pos (by omega)])
      · skip
        refine xv_iconst T dX7_worth_22 ?_
        exact rI T (u := ()) hr hk hK hP hS dX7_worth_23 (by unfold qWorth; rw [if_pos (by omega)])
  · skip
    refine xv_if_eq T (by omega) (tgt := 22) dX7_worth_8 (by decide) (fun _ => ?_) (fun c11 => absurd c11 (by omega))
    refine xv_iconst T dX7_worth_22 ?_
    exact rI T (u := ()) hr hk hK hP hS dX7_worth_23 (by unfold qWorth; rw [if_pos (by omega)])
