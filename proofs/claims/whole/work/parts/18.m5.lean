set_option maxHeartbeats 4000000 in
set_option maxRecDepth 100000 in
theorem c_X8_lockerOf (l : Launch) (K : KT) (o : Nat) (N B SS TT F : Int → Int) (lk wh : Int) (r_lk : -2147483648 ≤ lk ∧ lk ≤ 2147483647) (r_wh : -2147483648 ≤ wh ∧ wh ≤ 2147483647) (hI : Inv N) : CtI l yX8_lockerOf cX8_lockerOf 4 .int 2 43 K [.ref o, .int (iI lk), .int (iI wh)] (mW K o N B SS TT F) (NoA) (fun (z : Int) (_ : Unit) => z = qLockerOf N lk wh) (fun _ => mW K o N B SS TT F) := by
  refine CtI_of (by decide) (Nat.le_of_ble_eq_true rfl) ?_
  intro p e s m args below meth c T hr hk hP hK ls hl
  have T : CF p m c cX8_lockerOf 4 s args RX8 := T
  have hS : va_S (NoA) s.heap s.heap [] := va_S.rf
  have hl : lv_has ls 4 [(0, .ref o), (1, .int (iI lk)), (2, .int (iI wh))] := hl
  obtain ⟨hI0, hIL, hIH, hIB, hID, hIC, hIG, hIZ, hIF⟩ := id hI
  have hR : InR N := ⟨hI0, hIB⟩
  obtain ⟨b0, b1, b2, b3, b4, b5, b6, b7, b8, b9⟩ := id hI0
  refine lv_aload_n T.1 T.2.1 dX8_lockerOf_0 rfl (lv_at hl 0 rfl) ?_
  refine lv_iload_n T.1 T.2.1 dX8_lockerOf_1 rfl (lv_at hl 1 rfl) ?_
  refine cI_V T hK hP hS 0 rfl rfl rfl (c_X8_isLocker l K o N B SS TT F lk (by omega) hI) iX8_isLocker mw_4_38 ⟨Nat.le_of_ble_eq_true rfl, Nat.le_of_ble_eq_true rfl⟩ hP noA rfl hl.1 rfl (Nat.le_of_ble_eq_true rfl) ⟨Nat.zero_le _, Nat.zero_le _⟩ dX8_lockerOf_2 (fun z1 _ H1 locs q2 hP1 hg1 hg2 hS => ?_)
  have hP := xP_kept hP hg2
  generalize H1 = H at hP hS ⊢
  clear hg1 hg2 hP1
  rcases q2 with ⟨rfl, q2⟩ | ⟨rfl, q2⟩
  · skip
    refine xv_if_eq T (by omega) (tgt := 32) dX8_lockerOf_5 (by decide) (fun c3 => absurd c3 (by omega)) (fun _ => ?_)
    refine lv_iload_n T.1 T.2.1 dX8_lockerOf_8 rfl (lv_at hl 2 rfl) ?_
    refine xv_iconst T dX8_lockerOf_9 ?_
    refine xv_bipush T dX8_lockerOf_10 (by omega) ?_
    refine cI_S T hK hP hS (c_X8_in l K wh 0 11 (by omega) (by omega) (by omega)) iX8_in mw_4_15 ⟨Nat.le_of_ble_eq_true rfl, Nat.le_of_ble_eq_true rfl⟩ xP_nil noA rfl hl.1 rfl (Nat.le_of_ble_eq_true rfl) ⟨Nat.zero_le _, Nat.zero_le _⟩ dX8_lockerOf_12 (fun z4 _ H1 locs q5 hP1 hg1 hg2 hS => ?_)
    have hP := xP_kept hP hg2
    generalize H1 = H at hP hS ⊢
    clear hg1 hg2 hP1
    rcases q5 with ⟨rfl, q5⟩ | ⟨rfl, q5⟩
    · skip
      refine xv_if_eq T (by omega) (tgt := 32) dX8_lockerOf_15 (by decide) (fun c6 => absurd c6 (by omega)) (fun _ => ?_)
      refine lv_iload_n T.1 T.2.1 dX8_lockerOf_18 rfl (lv_at hl 2 rfl) ?_
      refine xv_bipush T dX8_lockerOf_19 (by omega) ?_
      refine xv_icmp_ge T (by omega) (tgt := 34) dX8_lockerOf_21 (by decide) (fun c7 => ?_) (fun c7 => ?_)
      · skip
        refine xv_bipush T dX8_lockerOf_34 (by omega) ?_
        refine xv_bipush T dX8_lockerOf_36 (by omega) ?_
        refine lv_iload_n T.1 T.2.1 dX8_lockerOf_38 rfl (lv_at hl 1 rfl) ?_
        refine xv_imul T dX8_lockerOf_39 ?_
        refine xv_iadd T dX8_lockerOf_40 ?_
        refine lv_istore_n (lv' := [(3, .int (iI (24 + (8 * lk)))), (0, .ref o), (1, .int (iI lk)), (2, .int (iI wh))]) T.1 T.2.1 dX8_lockerOf_41 rfl hl (by decide) rfl (fun ls hl => ?_)
        refine lv_iload_n T.1 T.2.1 dX8_lockerOf_42 rfl (lv_at hl 3 rfl) ?_
        by_cases c8l : wh < 8
        · skip
          refine xv_tableOut T (tgt := 128) (by omega) dX8_lockerOf_43 (by omega) (by decide) ?_
          refine lv_aload_n T.1 T.2.1 dX8_lockerOf_128 rfl (lv_at hl 1 rfl) ?_
          refine g8_now T hK hP 0 rfl rfl mw_3_175 dX8_lockerOf_129 ?_
          refine lv_iload_n T.1 T.2.1 dX8_lockerOf_132 rfl (lv_at hl 0 rfl) ?_
          refine lv_iload_n T.1 T.2.1 dX8_lockerOf_133 rfl (lv_at hl 3 rfl) ?_
          refine xv_iadd T dX8_lockerOf_134 ?_
          refine xa_iald T hK hP 1 rfl rfl (24 + 8 * lk + wh) (by omega) (by omega) (by decide) dX8_lockerOf_135 ?_
          have f9 := hIH lk wh (by omega) (by omega) (by omega) (by omega)
          exact rI T (u := ()) hr hk hK hP hS dX8_lockerOf_136 (by unfold qLockerOf; (repeat' split) <;> first | (exfalso; omega) | rfl)
        by_cases c8h : 11 < wh
        · skip
          refine xv_tableOut T (tgt := 128) (by omega) dX8_lockerOf_43 (by omega) (by decide) ?_
          refine lv_aload_n T.1 T.2.1 dX8_lockerOf_128 rfl (lv_at hl 1 rfl) ?_
          refine g8_now T hK hP 0 rfl rfl mw_3_175 dX8_lockerOf_129 ?_
          refine lv_iload_n T.1 T.2.1 dX8_lockerOf_132 rfl (lv_at hl 0 rfl) ?_
          refine lv_iload_n T.1 T.2.1 dX8_lockerOf_133 rfl (lv_at hl 3 rfl) ?_
          refine xv_iadd T dX8_lockerOf_134 ?_
          refine xa_iald T hK hP 1 rfl rfl (24 + 8 * lk + wh) (by omega) (by omega) (by decide) dX8_lockerOf_135 ?_
          have f10 := hIH lk wh (by omega) (by omega) (by omega) (by omega)
          exact rI T (u := ()) hr hk hK hP hS dX8_lockerOf_136 (by unfold qLockerOf; (repeat' split) <;> first | (exfalso; omega) | rfl)
        have c8_8 : 8 ≤ wh := by omega
        by_cases c8 : wh = 8
        · skip
          refine xv_tableIn T (off := 29) (tgt := 72) 8 c8 (by omega) dX8_lockerOf_43 (by omega) (by omega) (by decide) (by decide) ?_
          refine lv_aload_n T.1 T.2.1 dX8_lockerOf_72 rfl (lv_at hl 1 rfl) ?_
          refine g8_now T hK hP 0 rfl rfl mw_3_175 dX8_lockerOf_73 ?_
          refine xv_bipush T dX8_lockerOf_76 (by omega) ?_
          refine lv_iload_n T.1 T.2.1 dX8_lockerOf_78 rfl (lv_at hl 2 rfl) ?_
          refine xv_iadd T dX8_lockerOf_79 ?_
          refine xa_iald T hK hP 1 rfl rfl (14 + lk) (by omega) (by omega) (by decide) dX8_lockerOf_80 ?_
          have f11 := hIL lk (by omega) (by omega)
          exact rI T (u := ()) hr hk hK hP hS dX8_lockerOf_81 (by unfold qLockerOf; (repeat' split) <;> first | (exfalso; omega) | rfl)
        have c8_9 : 9 ≤ wh := by omega
        clear c8 c8_8
        by_cases c8 : wh = 9
        · skip
          refine xv_tableIn T (off := 39) (tgt := 82) 9 c8 (by omega) dX8_lockerOf_43 (by omega) (by omega) (by decide) (by decide) ?_
          refine lv_aload_n T.1 T.2.1 dX8_lockerOf_82 rfl (lv_at hl 1 rfl) ?_
          refine g8_now T hK hP 0 rfl rfl mw_3_175 dX8_lockerOf_83 ?_
          refine xv_bipush T dX8_lockerOf_86 (by omega) ?_
          refine lv_iload_n T.1 T.2.1 dX8_lockerOf_88 rfl (lv_at hl 2 rfl) ?_
          refine xv_iadd T dX8_lockerOf_89 ?_
          refine xa_iald T hK hP 1 rfl rfl (14 + lk) (by omega) (by omega) (by decide) dX8_lockerOf_90 ?_
          have f12 := hIL lk (by omega) (by omega)
          refine xv_iconst T dX8_lockerOf_91 ?_
          refine xv_icmp_ne T (by omega) (tgt := 107) dX8_lockerOf_92 (by decide) (fun c13 => ?_) (fun c13 => ?_)
          · skip
            refine xv_bipush T dX8_lockerOf_107 (by omega) ?_
            exact rI T (u := ()) hr hk hK hP hS dX8_lockerOf_109 (by unfold qLockerOf; (repeat' split) <;> first | (exfalso; omega) | rfl)
          · skip
            refine lv_aload_n T.1 T.2.1 dX8_lockerOf_95 rfl (lv_at hl 1 rfl) ?_
            refine g8_now T hK hP 0 rfl rfl mw_3_175 dX8_lockerOf_96 ?_
            refine xv_bipush T dX8_lockerOf_99 (by omega) ?_
            refine lv_iload_n T.1 T.2.1 dX8_lockerOf_101 rfl (lv_at hl 2 rfl) ?_
            refine xv_iadd T dX8_lockerOf_102 ?_
            refine xa_iald T hK hP 1 rfl rfl (19 + lk) (by omega) (by omega) (by decide) dX8_lockerOf_103 ?_
            refine lv_goto T.1 T.2.1 (tgt := 109) dX8_lockerOf_104 (by decide) ?_
            exact rI T (u := ()) hr hk hK hP hS dX8_lockerOf_109 (by unfold qLockerOf; (repeat' split) <;> first | (exfalso; omega) | rfl)
        have c8_10 : 10 ≤ wh := by omega
        clear c8 c8_9
        by_cases c8 : wh = 10
        · skip
          refine xv_tableIn T (off := 67) (tgt := 110) 10 c8 (by omega) dX8_lockerOf_43 (by omega) (by omega) (by decide) (by decide) ?_
          refine lv_aload_n T.1 T.2.1 dX8_lockerOf_110 rfl (lv_at hl 1 rfl) ?_
          refine lv_iload_n T.1 T.2.1 dX8_lockerOf_111 rfl (lv_at hl 0 rfl) ?_
          refine cI_V T hK hP hS 0 rfl rfl rfl (c_X8_sum l K o N B SS TT F (24 + (8 * lk)) (by omega)) iX8_sum mw_4_52 ⟨Nat.le_of_ble_eq_true rfl, Nat.le_of_ble_eq_true rfl⟩ hP noA rfl hl.1 rfl (Nat.le_of_ble_eq_true rfl) ⟨Nat.zero_le _, Nat.zero_le _⟩ dX8_lockerOf_112 (fun z14 _ H1 locs q15 hP1 hg1 hg2 hS => ?_)
          have hP := xP_kept hP hg2
          generalize H1 = H at hP hS ⊢
          clear hg1 hg2 hP1
          obtain rfl : z14 = sumZ (fun k => N ((24 + (8 * lk)) + k)) 8 := q15
          exact rI T (u := ()) hr hk hK hP hS dX8_lockerOf_115 (by unfold qLockerOf; (repeat' split) <;> first | (exfalso; omega) | rfl)
        have c8_11 : 11 ≤ wh := by omega
        clear c8 c8_10
        have c8 : wh = 11 := by omega
        refine xv_tableIn T (off := 73) (tgt := 116) 11 c8 (by omega) dX8_lockerOf_43 (by omega) (by omega) (by decide) (by decide) ?_
        refine lv_aload_n T.1 T.2.1 dX8_lockerOf_116 rfl (lv_at hl 1 rfl) ?_
        refine xv_bipush T dX8_lockerOf_117 (by omega) ?_
        refine xv_bipush T dX8_lockerOf_119 (by omega) ?_
        refine lv_iload_n T.1 T.2.1 dX8_lockerOf_121 rfl (lv_at hl 2 rfl) ?_
        refine xv_imul T dX8_lockerOf_122 ?_
        refine xv_iadd T dX8_lockerOf_123 ?_
        refine cI_V T hK hP hS 0 rfl rfl rfl (c_X8_sum l K o N B SS TT F (64 + (8 * lk)) (by omega)) iX8_sum mw_4_52 ⟨Nat.le_of_ble_eq_true rfl, Nat.le_of_ble_eq_true rfl⟩ hP noA rfl hl.1 rfl (Nat.le_of_ble_eq_true rfl) ⟨Nat.zero_le _, Nat.zero_le _⟩ dX8_lockerOf_124 (fun z16 _ H1 locs q17 hP1 hg1 hg2 hS => ?_)
        have hP := xP_kept hP hg2
        generalize H1 = H at hP hS ⊢
        clear hg1 hg2 hP1
        obtain rfl : z16 = sumZ (fun k => N ((64 + (8 * lk)) + k)) 8 := q17
        exact rI T (u := ()) hr hk hK hP hS dX8_lockerOf_127 (by unfold qLockerOf; (repeat' split) <;> first | (exfalso; omega) | rfl)
      · skip
        refine lv_aload_n T.1 T.2.1 dX8_lockerOf_24 rfl (lv_at hl 0 rfl) ?_
        refine lv_iload_n T.1 T.2.1 dX8_lockerOf_25 rfl (lv_at hl 2 rfl) ?_
        refine cI_V T hK hP hS 0 rfl rfl rfl (c_X8_isGood l K o N B SS TT F wh (by omega) hI) iX8_isGood mw_4_22 ⟨Nat.le_of_ble_eq_true rfl, Nat.le_of_ble_eq_true rfl⟩ hP noA rfl hl.1 rfl (Nat.le_of_ble_eq_true rfl) ⟨Nat.zero_le _, Nat.zero_le _⟩ dX8_lockerOf_26 (fun z18 _ H1 locs q19 hP1 hg1 hg2 hS => ?_)
        have hP := xP_kept hP hg2
        generalize H1 = H at hP hS ⊢
        clear hg1 hg2 hP1
        rcases q19 with ⟨rfl, q19⟩ | ⟨rfl, q19⟩
        · skip
          refine xv_if_ne T (by omega) (tgt := 34) dX8_lockerOf_29 (by decide) (fun _ => ?_) (fun c20 => absurd c20 (by omega))
          refine xv_bipush T dX8_lockerOf_34 (by omega) ?_
          refine xv_bipush T dX8_lockerOf_36 (by omega) ?_
          refine lv_iload_n T.1 T.2.1 dX8_lockerOf_38 rfl (lv_at hl 1 rfl) ?_
          refine xv_imul T dX8_lockerOf_39 ?_
          refine xv_iadd T dX8_lockerOf_40 ?_
          refine lv_istore_n (lv' := [(3, .int (iI (24 + (8 * lk)))), (0, .ref o), (1, .int (iI lk)), (2, .int (iI wh))]) T.1 T.2.1 dX8_lockerOf_41 rfl hl (by decide) rfl (fun ls hl => ?_)
          refine lv_iload_n T.1 T.2.1 dX8_lockerOf_42 rfl (lv_at hl 3 rfl) ?_
          by_cases c21l : wh < 8
          · skip
            refine xv_tableOut T (tgt := 128) (by omega) dX8_lockerOf_43 (by omega) (by decide) ?_
            refine lv_aload_n T.1 T.2.1 dX8_lockerOf_128 rfl (lv_at hl 1 rfl) ?_
            refine g8_now T hK hP 0 rfl rfl mw_3_175 dX8_lockerOf_129 ?_
            refine lv_iload_n T.1 T.2.1 dX8_lockerOf_132 rfl (lv_at hl 0 rfl) ?_
            refine lv_iload_n T.1 T.2.1 dX8_lockerOf_133 rfl (lv_at hl 3 rfl) ?_
            refine xv_iadd T dX8_lockerOf_134 ?_
            refine xa_iald T hK hP 1 rfl rfl (24 + 8 * lk + wh) (by omega) (by omega) (by decide) dX8_lockerOf_135 ?_
            have f22 := hIH lk wh (by omega) (by omega) (by omega) (by omega)
            exact rI T (u := ()) hr hk hK hP hS dX8_lockerOf_136 (by unfold qLockerOf; (repeat' split) <;> first | (exfalso; omega) | rfl)
          by_cases c21h : 11 < wh
          · skip
            refine xv_tableOut T (tgt := 128) (by omega) dX8_lockerOf_43 (by omega) (by decide) ?_
            refine lv_aload_n T.1 T.2.1 dX8_lockerOf_128 rfl (lv_at hl 1 rfl) ?_
            refine g8_now T hK hP 0 rfl rfl mw_3_175 dX8_lockerOf_129 ?_
            refine lv_iload_n T.1 T.2.1 dX8_lockerOf_132 rfl (lv_at hl 0 rfl) ?_
            refine lv_iload_n T.1 T.2.1 dX8_lockerOf_133 rfl (lv_at hl 3 rfl) ?_
            refine xv_iadd T dX8_lockerOf_134 ?_
            refine xa_iald T hK hP 1 rfl rfl (24 + 8 * lk + wh) (by omega) (by omega) (by decide) dX8_lockerOf_135 ?_
            have f23 := hIH lk wh (by omega) (by omega) (by omega) (by omega)
            exact rI T (u := ()) hr hk hK hP hS dX8_lockerOf_136 (by unfold qLockerOf; (repeat' split) <;> first | (exfalso; omega) | rfl)
          have c21_8 : 8 ≤ wh := by omega
          by_cases c21 : wh = 8
          · skip
            refine xv_tableIn T (off := 29) (tgt := 72) 8 c21 (by omega) dX8_lockerOf_43 (by omega) (by omega) (by decide) (by decide) ?_
            refine lv_aload_n T.1 T.2.1 dX8_lockerOf_72 rfl (lv_at hl 1 rfl) ?_
            refine g8_now T hK hP 0 rfl rfl mw_3_175 dX8_lockerOf_73 ?_
            refine xv_bipush T dX8_lockerOf_76 (by omega) ?_
            refine lv_iload_n T.1 T.2.1 dX8_lockerOf_78 rfl (lv_at hl 2 rfl) ?_
            refine xv_iadd T dX8_lockerOf_79 ?_
            refine xa_iald T hK hP 1 rfl rfl (14 + lk) (by omega) (by omega) (by decide) dX8_lockerOf_80 ?_
            have f24 := hIL lk (by omega) (by omega)
            exact rI T (u := ()) hr hk hK hP hS dX8_lockerOf_81 (by unfold qLockerOf; (repeat' split) <;> first | (exfalso; omega) | rfl)
          have c21_9 : 9 ≤ wh := by omega
          clear c21 c21_8
          by_cases c21 : wh = 9
          · skip
            refine xv_tableIn T (off := 39) (tgt := 82) 9 c21 (by omega) dX8_lockerOf_43 (by omega) (by omega) (by decide) (by decide) ?_
            refine lv_aload_n T.1 T.2.1 dX8_lockerOf_82 rfl (lv_at hl 1 rfl) ?_
            refine g8_now T hK hP 0 rfl rfl mw_3_175 dX8_lockerOf_83 ?_
            refine xv_bipush T dX8_lockerOf_86 (by omega) ?_
            refine lv_iload_n T.1 T.2.1 dX8_lockerOf_88 rfl (lv_at hl 2 rfl) ?_
            refine xv_iadd T dX8_lockerOf_89 ?_
            refine xa_iald T hK hP 1 rfl rfl (14 + lk) (by omega) (by omega) (by decide) dX8_lockerOf_90 ?_
            have f25 := hIL lk (by omega) (by omega)
            refine xv_iconst T dX8_lockerOf_91 ?_
            refine xv_icmp_ne T (by omega) (tgt := 107) dX8_lockerOf_92 (by decide) (fun c26 => ?_) (fun c26 => ?_)
            · skip
              refine xv_bipush T dX8_lockerOf_107 (by omega) ?_
              exact rI T (u := ()) hr hk hK hP hS dX8_lockerOf_109 (by unfold qLockerOf; (repeat' split) <;> first | (exfalso; omega) | rfl)
            · skip
              refine lv_aload_n T.1 T.2.1 dX8_lockerOf_95 rfl (lv_at hl 1 rfl) ?_
              refine g8_now T hK hP 0 rfl rfl mw_3_175 dX8_lockerOf_96 ?_
              refine xv_bipush T dX8_lockerOf_99 (by omega) ?_
              refine lv_iload_n T.1 T.2.1 dX8_lockerOf_101 rfl (lv_at hl 2 rfl) ?_
              refine xv_iadd T dX8_lockerOf_102 ?_
              refine xa_iald T hK hP 1 rfl rfl (19 + lk) (by omega) (by omega) (by decide) dX8_lockerOf_103 ?_
              refine lv_goto T.1 T.2.1 (tgt := 109) dX8_lockerOf_104 (by decide) ?_
              exact rI T (u := ()) hr hk hK hP hS dX8_lockerOf_109 (by unfold qLockerOf; (repeat' split) <;> first | (exfalso; omega) | rfl)
          have c21_10 : 10 ≤ wh := by omega
          clear c21 c21_9
          by_cases c21 : wh = 10
          · skip
            refine xv_tableIn T (off := 67) (tgt := 110) 10 c21 (by omega) dX8_lockerOf_43 (by omega) (by omega) (by decide) (by decide) ?_
            refine lv_aload_n T.1 T.2.1 dX8_lockerOf_110 rfl (lv_at hl 1 rfl) ?_
            refine lv_iload_n T.1 T.2.1 dX8_lockerOf_111 rfl (lv_at hl 0 rfl) ?_
            refine cI_V T hK hP hS 0 rfl rfl rfl (c_X8_sum l K o N B SS TT F (24 + (8 * lk)) (by omega)) iX8_sum mw_4_52 ⟨Nat.le_of_ble_eq_true rfl, Nat.le_of_ble_eq_true rfl⟩ hP noA rfl hl.1 rfl (Nat.le_of_ble_eq_true rfl) ⟨Nat.zero_le _, Nat.zero_le _⟩ dX8_lockerOf_112 (fun z27 _ H1 locs q28 hP1 hg1 hg2 hS => ?_)
            have hP := xP_kept hP hg2
            generalize H1 = H at hP hS ⊢
            clear hg1 hg2 hP1
            obtain rfl : z27 = sumZ (fun k => N ((24 + (8 * lk)) + k)) 8 := q28
            exact rI T (u := ()) hr hk hK hP hS dX8_lockerOf_115 (by unfold qLockerOf; (repeat' split) <;> first | (exfalso; omega) | rfl)
          have c21_11 : 11 ≤ wh := by omega
          clear c21 c21_10
          have c21 : wh = 11 := by omega
          refine xv_tableIn T (off := 73) (tgt := 116) 11 c21 (by omega) dX8_lockerOf_43 (by omega) (by omega) (by decide) (by decide) ?_
          refine lv_aload_n T.1 T.2.1 dX8_lockerOf_116 rfl (lv_at hl 1 rfl) ?_
          refine xv_bipush T dX8_lockerOf_117 (by omega) ?_
          refine xv_bipush T dX8_lockerOf_119 (by omega) ?_
          refine lv_iload_n T.1 T.2.1 dX8_lockerOf_121 rfl (lv_at hl 2 rfl) ?_
          refine xv_imul T dX8_lockerOf_122 ?_
          refine xv_iadd T dX8_lockerOf_123 ?_
          refine cI_V T hK hP hS 0 rfl rfl rfl (c_X8_sum l K o N B SS TT F (64 + (8 * lk)) (by omega)) iX8_sum mw_4_52 ⟨Nat.le_of_ble_eq_true rfl, Nat.le_of_ble_eq_true rfl⟩ hP noA rfl hl.1 rfl (Nat.le_of_ble_eq_true rfl) ⟨Nat.zero_le _, Nat.zero_le _⟩ dX8_lockerOf_124 (fun z29 _ H1 locs q30 hP1 hg1 hg2 hS => ?_)
          have hP := xP_kept hP hg2
          generalize H1 = H at hP hS ⊢
          clear hg1 hg2 hP1
          obtain rfl : z29 = sumZ (fun k => N ((64 + (8 * lk)) + k)) 8 := q30
          exact rI T (u := ()) hr hk hK hP hS dX8_lockerOf_127 (by unfold qLockerOf; (repeat' split) <;> first | (exfalso; omega) | rfl)
        · skip
          refine xv_if_ne T (by omega) (tgt := 34) dX8_lockerOf_29 (by decide) (fun c31 => absurd c31 (by omega)) (fun _ => ?_)
          refine xv_iconst T dX8_lockerOf_32 ?_
          exact rI T (u := ()) hr hk hK hP hS dX8_lockerOf_33 (by unfold qLockerOf; (repeat' split) <;> first | (exfalso; omega) | rfl)
    · skip
      refine xv_if_eq T (by omega) (tgt := 32) dX8_lockerOf_15 (by decide) (fun _ => ?_) (fun c32 => absurd c32 (by omega))
      refine xv_iconst T dX8_lockerOf_32 ?_
      exact rI T (u := ()) hr hk hK hP hS dX8_lockerOf_33 (by unfold qLockerOf; (repeat' split) <;> first | (exfalso; omega) | rfl)
  · skip
    refine xv_if_eq T (by omega) (tgt := 32) dX8_lockerOf_5 (by decide) (fun _ => ?_) (fun c33 => absurd c33 (by omega))
    refine xv_iconst T dX8_lockerOf_32 ?_
    exact rI T (u := ()) hr hk hK hP hS dX8_lockerOf_33 (by unfold qLockerOf; (repeat' split) <;> first | (exfalso; omega) | rfl)
set_option maxHeartbeats 4000000 in
set_option maxRecDepth 100000 in
theorem c_X8_missing (l : Launch) (K : KT) (o : Nat) (N B SS TT F : Int → Int) (lk gd : Int) (r_lk : -2147483648 ≤ lk ∧ lk ≤ 2147483647) (r_gd : -2147483648 ≤ gd ∧ gd ≤ 2147483647) (hI : Inv N) : CtI l yX8_missing cX8_missing 3 .int 2 43 K [.ref o, .int (iI lk), .int (iI gd)] (mW K o N B SS TT F) (NoA) (fun (z : Int) (_ : Unit) => z = qMissing N lk gd) (fun _ => mW K o N B SS TT F) := by
  refine CtI_of (by decide) (Nat.le_of_ble_eq_true rfl) ?_
  intro p e s m args below meth c T hr hk hP hK ls hl
  have T : CF p m c cX8_missing 3 s args RX8 := T
  have hS : va_S (NoA) s.heap s.heap [] := va_S.rf
  have hl : lv_has ls 3 [(0, .ref o), (1, .int (iI lk)), (2, .int (iI gd))] := hl
  obtain ⟨hI0, hIL, hIH, hIB, hID, hIC, hIG, hIZ, hIF⟩ := id hI
  have hR : InR N := ⟨hI0, hIB⟩
  obtain ⟨b0, b1, b2, b3, b4, b5, b6, b7, b8, b9⟩ := id hI0
  refine lv_aload_n T.1 T.2.1 dX8_missing_0 rfl (lv_at hl 0 rfl) ?_
  refine lv_iload_n T.1 T.2.1 dX8_missing_1 rfl (lv_at hl 1 rfl) ?_
  refine cI_V T hK hP hS 0 rfl rfl rfl (c_X8_isLocker l K o N B SS TT F lk (by omega) hI) iX8_isLocker mw_4_38 ⟨Nat.le_of_ble_eq_true rfl, Nat.le_of_ble_eq_true rfl⟩ hP noA rfl hl.1 rfl (Nat.le_of_ble_eq_true rfl) ⟨Nat.zero_le _, Nat.zero_le _⟩ dX8_missing_2 (fun z1 _ H1 locs q2 hP1 hg1 hg2 hS => ?_)
  have hP := xP_kept hP hg2
  generalize H1 = H at hP hS ⊢
  clear hg1 hg2 hP1
  rcases q2 with ⟨rfl, q2⟩ | ⟨rfl, q2⟩
  · skip
    refine xv_if_eq T (by omega) (tgt := 33) dX8_missing_5 (by decide) (fun c3 => absurd c3 (by omega)) (fun _ => ?_)
    refine lv_aload_n T.1 T.2.1 dX8_missing_8 rfl (lv_at hl 0 rfl) ?_
    refine lv_iload_n T.1 T.2.1 dX8_missing_9 rfl (lv_at hl 2 rfl) ?_
    refine cI_V T hK hP hS 0 rfl rfl rfl (c_X8_isGood l K o N B SS TT F gd (by omega) hI) iX8_isGood mw_4_22 ⟨Nat.le_of_ble_eq_true rfl, Nat.le_of_ble_eq_true rfl⟩ hP noA rfl hl.1 rfl (Nat.le_of_ble_eq_true rfl) ⟨Nat.zero_le _, Nat.zero_le _⟩ dX8_missing_10 (fun z4 _ H1 locs q5 hP1 hg1 hg2 hS => ?_)
    have hP := xP_kept hP hg2
    generalize H1 = H at hP hS ⊢
    clear hg1 hg2 hP1
    rcases q5 with ⟨rfl, q5⟩ | ⟨rfl, q5⟩
    · skip
      refine xv_if_eq T (by omega) (tgt := 33) dX8_missing_13 (by decide) (fun c6 => absurd c6 (by omega)) (fun _ => ?_)
      refine lv_aload_n T.1 T.2.1 dX8_missing_16 rfl (lv_at hl 0 rfl) ?_
      refine g8_now T hK hP 0 rfl rfl mw_3_175 dX8_missing_17 ?_
      refine xv_bipush T dX8_missing_20 (by omega) ?_
      refine xv_bipush T dX8_missing_22 (by omega) ?_
      refine lv_iload_n T.1 T.2.1 dX8_missing_24 rfl (lv_at hl 1 rfl) ?_
      refine xv_imul T dX8_missing_25 ?_
      refine xv_iadd T dX8_missing_26 ?_
      refine lv_iload_n T.1 T.2.1 dX8_missing_27 rfl (lv_at hl 2 rfl) ?_
      refine xv_iadd T dX8_missing_28 ?_
      refine xa_iald T hK hP 1 rfl rfl (64 + 8 * lk + gd) (by omega) (by omega) (by decide) dX8_missing_29 ?_
      have f7 := hIH lk gd (by omega) (by omega) (by omega) (by omega)
      refine lv_goto T.1 T.2.1 (tgt := 34) dX8_missing_30 (by decide) ?_
      exact rI T (u := ()) hr hk hK hP hS dX8_missing_34 (by unfold qMissing; (repeat' split) <;> first | (exfalso; omega) | rfl)
    · skip
      refine xv_if_eq T (by omega) (tgt := 33) dX8_missing_13 (by decide) (fun _ => ?_) (fun c8 => absurd c8 (by omega))
      refine xv_iconst T dX8_missing_33 ?_
      exact rI T (u := ()) hr hk hK hP hS dX8_missing_34 (by unfold qMissing; (repeat' split) <;> first | (exfalso; omega) | rfl)
  · skip
    refine xv_if_eq T (by omega) (tgt := 33) dX8_missing_5 (by decide) (fun _ => ?_) (fun c9 => absurd c9 (by omega))
    refine xv_iconst T dX8_missing_33 ?_
    exact rI T (u := ()) hr hk hK hP hS dX8_missing_34 (by unfold qMissing; (repeat' split) <;> first | (exfalso; omega) | rfl)
set_option maxHeartbeats 4000000 in
set_option maxRecDepth 100000 in
theorem c_X8_seal (l : Launch) (K : KT) (o : Nat) (N B SS TT F : Int → Int) (sl wh : Int) (r_sl : -2147483648 ≤ sl ∧ sl ≤ 2147483647) (r_wh : -2147483648 ≤ wh ∧ wh ≤ 2147483647) (hI : Inv N) : CtI l yX8_seal cX8_seal 3 .int 1 22 K [.ref o, .int (iI sl), .int (iI wh)] (mW K o N B SS TT F) (NoA) (fun (z : Int) (_ : Unit) => z = qSeal N sl wh) (fun _ => mW K o N B SS TT F) := by
  refine CtI_of (by decide) (Nat.le_of_ble_eq_true rfl) ?_
  intro p e s m args below meth c T hr hk hP hK ls hl
  have T : CF p m c cX8_seal 3 s args RX8 := T
  have hS : va_S (NoA) s.heap s.heap [] := va_S.rf
  have hl : lv_has ls 3 [(0, .ref o), (1, .int (iI sl)), (2, .int (iI wh))] := hl
  obtain ⟨hI0, hIL, hIH, hIB, hID, hIC, hIG, hIZ, hIF⟩ := id hI
  have hR : InR N := ⟨hI0, hIB⟩
  obtain ⟨b0, b1, b2, b3, b4, b5, b6, b7, b8, b9⟩ := id hI0
  refine lv_iload_n T.1 T.2.1 dX8_seal_0 rfl (lv_at hl 1 rfl) ?_
  refine xv_iconst T dX8_seal_1 ?_
  refine lv_aload_n T.1 T.2.1 dX8_seal_2 rfl (lv_at hl 0 rfl) ?_
  refine g8_now T hK hP 0 rfl rfl mw_3_175 dX8_seal_3 ?_
  refine xv_bipush T dX8_seal_6 (by omega) ?_
  refine xa_iald T hK hP 1 rfl rfl 7 (by omega) (by omega) (by decide) dX8_seal_8 ?_
  refine cI_S T hK hP hS (c_X8_in l K sl 1 (N 7) (by omega) (by omega) (by omega)) iX8_in mw_4_15 ⟨Nat.le_of_ble_eq_true rfl, Nat.le_of_ble_eq_true rfl⟩ xP_nil noA rfl hl.1 rfl (Nat.le_of_ble_eq_true rfl) ⟨Nat.zero_le _, Nat.zero_le _⟩ dX8_seal_9 (fun z1 _ H1 locs q2 hP1 hg1 hg2 hS => ?_)
  have hP := xP_kept hP hg2
  generalize H1 = H at hP hS ⊢
  clear hg1 hg2 hP1
  rcases q2 with ⟨rfl, q2⟩ | ⟨rfl, q2⟩
  · skip
    refine xv_if_eq T (by omega) (tgt := 24) dX8_seal_12 (by decide) (fun c3 => absurd c3 (by omega)) (fun _ => ?_)
    refine lv_iload_n T.1 T.2.1 dX8_seal_15 rfl (lv_at hl 2 rfl) ?_
    refine xv_iconst T dX8_seal_16 ?_
    refine xv_iconst T dX8_seal_17 ?_
    refine cI_S T hK hP hS (c_X8_in l K wh 0 2 (by omega) (by omega) (by omega)) iX8_in mw_4_15 ⟨Nat.le_of_ble_eq_true rfl, Nat.le_of_ble_eq_true rfl⟩ xP_nil noA rfl hl.1 rfl (Nat.le_of_ble_eq_true rfl) ⟨Nat.zero_le _, Nat.zero_le _⟩ dX8_seal_18 (fun z4 _ H1 locs q5 hP1 hg1 hg2 hS => ?_)
    have hP := xP_kept hP hg2
    generalize H1 = H at hP hS ⊢
    clear hg1 hg2 hP1
    rcases q5 with ⟨rfl, q5⟩ | ⟨rfl, q5⟩
    · skip
      refine xv_if_ne T (by omega) (tgt := 26) dX8_seal_21 (by decide) (fun _ => ?_) (fun c6 => absurd c6 (by omega))
      refine lv_iload_n T.1 T.2.1 dX8_seal_26 rfl (lv_at hl 2 rfl) ?_
      refine xv_if_ne T (by omega) (tgt := 43) dX8_seal_27 (by decide) (fun c7 => ?_) (fun c7 => ?_)
      · skip
        refine lv_iload_n T.1 T.2.1 dX8_seal_43 rfl (lv_at hl 2 rfl) ?_
        refine xv_iconst T dX8_seal_44 ?_
        refine xv_icmp_ne T (by omega) (tgt := 61) dX8_seal_45 (by decide) (fun c8 => ?_) (fun c8 => ?_)
        · skip
          refine lv_aload_n T.1 T.2.1 dX8_seal_61 rfl (lv_at hl 0 rfl) ?_
          refine g8_now T hK hP 0 rfl rfl mw_3_175 dX8_seal_62 ?_
          refine xv_sipush T dX8_seal_65 (by omega) ?_
          refine lv_iload_n T.1 T.2.1 dX8_seal_68 rfl (lv_at hl 1 rfl) ?_
          refine xv_iadd T dX8_seal_69 ?_
          refine xa_iald T hK hP 1 rfl rfl (854 + sl) (by omega) (by omega) (by decide) dX8_seal_70 ?_
          exact rI T (u := ()) hr hk hK hP hS dX8_seal_71 (by unfold qSeal; (repeat' split) <;> first | (exfalso; omega) | rfl)
        · skip
          refine lv_aload_n T.1 T.2.1 dX8_seal_48 rfl (lv_at hl 0 rfl) ?_
          refine g8_now T hK hP 0 rfl rfl mw_3_175 dX8_seal_49 ?_
          refine xv_sipush T dX8_seal_52 (by omega) ?_
          refine lv_iload_n T.1 T.2.1 dX8_seal_55 rfl (lv_at hl 1 rfl) ?_
          refine xv_iadd T dX8_seal_56 ?_
          refine xa_iald T hK hP 1 rfl rfl (653 + sl) (by omega) (by omega) (by decide) dX8_seal_57 ?_
          refine lv_goto T.1 T.2.1 (tgt := 71) dX8_seal_58 (by decide) ?_
          exact rI T (u := ()) hr hk hK hP hS dX8_seal_71 (by unfold qSeal; (repeat' split) <;> first | (exfalso; omega) | rfl)
      · skip
        refine lv_aload_n T.1 T.2.1 dX8_seal_30 rfl (lv_at hl 0 rfl) ?_
        refine g8_now T hK hP 0 rfl rfl mw_3_175 dX8_seal_31 ?_
        refine xv_sipush T dX8_seal_34 (by omega) ?_
        refine lv_iload_n T.1 T.2.1 dX8_seal_37 rfl (lv_at hl 1 rfl) ?_
        refine xv_iadd T dX8_seal_38 ?_
        refine xa_iald T hK hP 1 rfl rfl (452 + sl) (by omega) (by omega) (by decide) dX8_seal_39 ?_
        refine lv_goto T.1 T.2.1 (tgt := 71) dX8_seal_40 (by decide) ?_
        exact rI T (u := ()) hr hk hK hP hS dX8_seal_71 (by unfold qSeal; (repeat' split) <;> first | (exfalso; omega) | rfl)
    · skip
      refine xv_if_ne T (by omega) (tgt := 26) dX8_seal_21 (by decide) (fun c9 => absurd c9 (by omega)) (fun _ => ?_)
      refine xv_iconst T dX8_seal_24 ?_
      exact rI T (u := ()) hr hk hK hP hS dX8_seal_25 (by unfold qSeal; (repeat' split) <;> first | (exfalso; omega) | rfl)
  · skip
    refine xv_if_eq T (by omega) (tgt := 24) dX8_seal_12 (by decide) (fun _ => ?_) (fun c10 => absurd c10 (by omega))
    refine xv_iconst T dX8_seal_24 ?_
    exact rI T (u := ()) hr hk hK hP hS dX8_seal_25 (by unfold qSeal; (repeat' split) <;> first | (exfalso; omega) | rfl)
set_option maxHeartbeats 4000000 in
set_option maxRecDepth 100000 in
theorem c_X8_bond (l : Launch) (K : KT) (o : Nat) (N B SS TT F : Int → Int) (bd wh : Int) (r_bd : -2147483648 ≤ bd ∧ bd ≤ 2147483647) (r_wh : -2147483648 ≤ wh ∧ wh ≤ 2147483647) (hI : Inv N) : CtI l yX8_bond cX8_bond 3 .int 1 22 K [.ref o, .int (iI bd), .int (iI wh)] (mW K o N B SS TT F) (NoA) (fun (z : Int) (_ : Unit) => z = qBond N bd wh) (fun _ => mW K o N B SS TT F) := by
  refine CtI_of (by decide) (Nat.le_of_ble_eq_true rfl) ?_
  intro p e s m args below meth c T hr hk hP hK ls hl
  have T : CF p m c cX8_bond 3 s args RX8 := T
  have hS : va_S (NoA) s.heap s.heap [] := va_S.rf
  have hl : lv_has ls 3 [(0, .ref o), (1, .int (iI bd)), (2, .int (iI wh))] := hl
  obtain ⟨hI0, hIL, hIH, hIB, hID, hIC, hIG, hIZ, hIF⟩ := id hI
  have hR : InR N := ⟨hI0, hIB⟩
  obtain ⟨b0, b1, b2, b3, b4, b5, b6, b7, b8, b9⟩ := id hI0
  refine lv_iload_n T.1 T.2.1 dX8_bond_0 rfl (lv_at hl 1 rfl) ?_
  refine xv_iconst T dX8_bond_1 ?_
  refine lv_aload_n T.1 T.2.1 dX8_bond_2 rfl (lv_at hl 0 rfl) ?_
  refine g8_now T hK hP 0 rfl rfl mw_3_175 dX8_bond_3 ?_
  refine xv_bipush T dX8_bond_6 (by omega) ?_
  refine xa_iald T hK hP 1 rfl rfl 6 (by omega) (by omega) (by decide) dX8_bond_8 ?_
  refine xv_iconst T dX8_bond_9 ?_
  refine xv_isub T dX8_bond_10 ?_
  refine cI_S T hK hP hS (c_X8_in l K bd 0 (N 6 - 1) (by omega) (by omega) (by omega)) iX8_in mw_4_15 ⟨Nat.le_of_ble_eq_true rfl, Nat.le_of_ble_eq_true rfl⟩ xP_nil noA rfl hl.1 rfl (Nat.le_of_ble_eq_true rfl) ⟨Nat.zero_le _, Nat.zero_le _⟩ dX8_bond_11 (fun z1 _ H1 locs q2 hP1 hg1 hg2 hS => ?_)
  have hP := xP_kept hP hg2
  generalize H1 = H at hP hS ⊢
  clear hg1 hg2 hP1
  rcases q2 with ⟨rfl, q2⟩ | ⟨rfl, q2⟩
  · skip
    refine xv_if_eq T (by omega) (tgt := 26) dX8_bond_14 (by decide) (fun c3 => absurd c3 (by omega)) (fun _ => ?_)
    refine lv_iload_n T.1 T.2.1 dX8_bond_17 rfl (lv_at hl 2 rfl) ?_
    refine xv_iconst T dX8_bond_18 ?_
    refine xv_iconst T dX8_bond_19 ?_
    refine cI_S T hK hP hS (c_X8_in l K wh 0 5 (by omega) (by omega) (by omega)) iX8_in mw_4_15 ⟨Nat.le_of_ble_eq_true rfl, Nat.le_of_ble_eq_true rfl⟩ xP_nil noA rfl hl.1 rfl (Nat.le_of_ble_eq_true rfl) ⟨Nat.zero_le _, Nat.zero_le _⟩ dX8_bond_20 (fun z4 _ H1 locs q5 hP1 hg1 hg2 hS => ?_)
    have hP := xP_kept hP hg2
    generalize H1 = H at hP hS ⊢
    clear hg1 hg2 hP1
    rcases q5 with ⟨rfl, q5⟩ | ⟨rfl, q5⟩
    · skip
      refine xv_if_ne T (by omega) (tgt := 28) dX8_bond_23 (by decide) (fun _ => ?_) (fun c6 => absurd c6 (by omega))
      refine lv_iload_n T.1 T.2.1 dX8_bond_28 rfl (lv_at hl 2 rfl) ?_
      by_cases c7l : wh < 0
      · skip
        refine xv_tableOut T (tgt := 130) (by omega) dX8_bond_29 (by omega) (by decide) ?_
        refine lv_aload_n T.1 T.2.1 dX8_bond_130 rfl (lv_at hl 0 rfl) ?_
        refine g8_now T hK hP 0 rfl rfl mw_3_175 dX8_bond_131 ?_
        refine xv_sipush T dX8_bond_134 (by omega) ?_
        refine lv_iload_n T.1 T.2.1 dX8_bond_137 rfl (lv_at hl 1 rfl) ?_
        refine xv_iadd T dX8_bond_138 ?_
        refine xa_iald T hK hP 1 rfl rfl (392 + bd) (by omega) (by omega) (by decide) dX8_bond_139 ?_
        have f8 := hIB bd (by omega) (by omega)
        exact rI T (u := ()) hr hk hK hP hS dX8_bond_140 (by unfold qBond; (repeat' split) <;> first | (exfalso; omega) | rfl)
      by_cases c7h : 4 < wh
      · skip
        refine xv_tableOut T (tgt := 130) (by omega) dX8_bond_29 (by omega) (by decide) ?_
        refine lv_aload_n T.1 T.2.1 dX8_bond_130 rfl (lv_at hl 0 rfl) ?_
        refine g8_now T hK hP 0 rfl rfl mw_3_175 dX8_bond_131 ?_
        refine xv_sipush T dX8_bond_134 (by omega) ?_
        refine lv_iload_n T.1 T.2.1 dX8_bond_137 rfl (lv_at hl 1 rfl) ?_
        refine xv_iadd T dX8_bond_138 ?_
        refine xa_iald T hK hP 1 rfl rfl (392 + bd) (by omega) (by omega) (by decide) dX8_bond_139 ?_
        have f9 := hIB bd (by omega) (by omega)
        exact rI T (u := ()) hr hk hK hP hS dX8_bond_140 (by unfold qBond; (repeat' split) <;> first | (exfalso; omega) | rfl)
      have c7_0 : 0 ≤ wh := by omega
      by_cases c7 : wh = 0
      · skip
        refine xv_tableIn T (off := 35) (tgt := 64) 0 c7 (by omega) dX8_bond_29 (by omega) (by omega) (by decide) (by decide) ?_
        refine lv_aload_n T.1 T.2.1 dX8_bond_64 rfl (lv_at hl 0 rfl) ?_
        refine g8_now T hK hP 0 rfl rfl mw_3_175 dX8_bond_65 ?_
        refine xv_sipush T dX8_bond_68 (by omega) ?_
        refine lv_iload_n T.1 T.2.1 dX8_bond_71 rfl (lv_at hl 1 rfl) ?_
        refine xv_iadd T dX8_bond_72 ?_
        refine xa_iald T hK hP 1 rfl rfl (152 + bd) (by omega) (by omega) (by decide) dX8_bond_73 ?_
        have f10 := hIB bd (by omega) (by omega)
        exact rI T (u := ()) hr hk hK hP hS dX8_bond_74 (by unfold qBond; (repeat' split) <;> first | (exfalso; omega) | rfl)
      have c7_1 : 1 ≤ wh := by omega
      clear c7 c7_0
      by_cases c7 : wh = 1
      · skip
        refine xv_tableIn T (off := 46) (tgt := 75) 1 c7 (by omega) dX8_bond_29 (by omega) (by omega) (by decide) (by decide) ?_
        refine lv_aload_n T.1 T.2.1 dX8_bond_75 rfl (lv_at hl 0 rfl) ?_
        refine g8_now T hK hP 0 rfl rfl mw_3_175 dX8_bond_76 ?_
        refine xv_sipush T dX8_bond_79 (by omega) ?_
        refine lv_iload_n T.1 T.2.1 dX8_bond_82 rfl (lv_at hl 1 rfl) ?_
        refine xv_iadd T dX8_bond_83 ?_
        refine xa_iald T hK hP 1 rfl rfl (212 + bd) (by omega) (by omega) (by decide) dX8_bond_84 ?_
        have f11 := hIB bd (by omega) (by omega)
        exact rI T (u := ()) hr hk hK hP hS dX8_bond_85 (by unfold qBond; (repeat' split) <;> first | (exfalso; omega) | rfl)
      have c7_2 : 2 ≤ wh := by omega
      clear c7 c7_1
      by_cases c7 : wh = 2
      · skip
        refine xv_tableIn T (off := 57) (tgt := 86) 2 c7 (by omega) dX8_bond_29 (by omega) (by omega) (by decide) (by decide) ?_
        refine lv_aload_n T.1 T.2.1 dX8_bond_86 rfl (lv_at hl 0 rfl) ?_
        refine g8_now T hK hP 0 rfl rfl mw_3_175 dX8_bond_87 ?_
        refine xv_sipush T dX8_bond_90 (by omega) ?_
        refine lv_iload_n T.1 T.2.1 dX8_bond_93 rfl (lv_at hl 1 rfl) ?_
        refine xv_iadd T dX8_bond_94 ?_
        refine xa_iald T hK hP 1 rfl rfl (272 + bd) (by omega) (by omega) (by decide) dX8_bond_95 ?_
        have f12 := hIB bd (by omega) (by omega)
        exact rI T (u := ()) hr hk hK hP hS dX8_bond_96 (by unfold qBond; (repeat' split) <;> first | (exfalso; omega) | rfl)
      have c7_3 : 3 ≤ wh := by omega
      clear c7 c7_2
      by_cases c7 : wh = 3
      · skip
        refine xv_tableIn T (off := 68) (tgt := 97) 3 c7 (by omega) dX8_bond_29 (by omega) (by omega) (by decide) (by decide) ?_
        refine lv_aload_n T.1 T.2.1 dX8_bond_97 rfl (lv_at hl 0 rfl) ?_
        refine g8_now T hK hP 0 rfl rfl mw_3_175 dX8_bond_98 ?_
        refine xv_sipush T dX8_bond_101 (by omega) ?_
        refine lv_iload_n T.1 T.2.1 dX8_bond_104 rfl (lv_at hl 1 rfl) ?_
        refine xv_iadd T dX8_bond_105 ?_
        refine xa_iald T hK hP 1 rfl rfl (332 + bd) (by omega) (by omega) (by decide) dX8_bond_106 ?_
        have f13 := hIB bd (by omega) (by omega)
        exact rI T (u := ()) hr hk hK hP hS dX8_bond_107 (by unfold qBond; (repeat' split) <;> first | (exfalso; omega) | rfl)
      have c7_4 : 4 ≤ wh := by omega
      clear c7 c7_3
      have c7 : wh = 4 := by omega
      refine xv_tableIn T (off := 79) (tgt := 108) 4 c7 (by omega) dX8_bond_29 (by omega) (by omega) (by decide) (by decide) ?_
      refine lv_aload_n T.1 T.2.1 dX8_bond_108 rfl (lv_at hl 0 rfl) ?_
      refine g8_now T hK hP 0 rfl rfl mw_3_175 dX8_bond_109 ?_
      refine xv_sipush T dX8_bond_112 (by omega) ?_
      refine lv_iload_n T.1 T.2.1 dX8_bond_115 rfl (lv_at hl 1 rfl) ?_
      refine xv_iadd T dX8_bond_116 ?_
      refine xa_iald T hK hP 1 rfl rfl (272 + bd) (by omega) (by omega) (by decide) dX8_bond_117 ?_
      have f14 := hIB bd (by omega) (by omega)
      refine lv_aload_n T.1 T.2.1 dX8_bond_118 rfl (lv_at hl 0 rfl) ?_
      refine g8_now T hK hP 0 rfl rfl mw_3_175 dX8_bond_119 ?_
      refine xv_sipush T dX8_bond_122 (by omega) ?_
      refine lv_iload_n T.1 T.2.1 dX8_bond_125 rfl (lv_at hl 1 rfl) ?_
      refine xv_iadd T dX8_bond_126 ?_
      refine xa_iald T hK hP 1 rfl rfl (332 + bd) (by omega) (by omega) (by decide) dX8_bond_127 ?_
      refine xv_imul T dX8_bond_128 ?_
      exact rI T (u := ()) hr hk hK hP hS dX8_bond_129 (by unfold qBond; (repeat' split) <;> first | (exfalso; omega) | rfl)
    · skip
      refine xv_if_ne T (by omega) (tgt := 28) dX8_bond_23 (by decide) (fun c15 => absurd c15 (by omega)) (fun _ => ?_)
      refine xv_iconst T dX8_bond_26 ?_
      exact rI T (u := ()) hr hk hK hP hS dX8_bond_27 (by unfold qBond; (repeat' split) <;> first | (exfalso; omega) | rfl)
  · skip
    refine xv_if_eq T (by omega) (tgt := 26) dX8_bond_14 (by decide) (fun _ => ?_) (fun c16 => absurd c16 (by omega))
    refine xv_iconst T dX8_bond_26 ?_
    exact rI T (u := ()) hr hk hK hP hS dX8_bond_27 (by unfold qBond; (repeat' split) <;> first | (exfalso; omega) | rfl)
set_option maxHeartbeats 4000000 in
set_option maxRecDepth 100000 in
theorem c_X8_nextBond (l : Launch) (K : KT) (o : Nat) (N B SS TT F : Int → Int) (gd : Int) (r_gd : -2147483648 ≤ gd ∧ gd ≤ 2147483647) (hI : Inv N) : CtI l yX8_nextBond cX8_nextBond 2 .int 2 43 K [.ref o, .int (iI gd)] (mW K o N B SS TT F) (NoA) (fun (z : Int) (_ : Unit) => z = qNextBond N gd) (fun _ => mW K o N B SS TT F) := by
  refine CtI_of (by decide) (Nat.le_of_ble_eq_true rfl) ?_
  intro p e s m args below meth c T hr hk hP hK ls hl
  have T : CF p m c cX8_nextBond 2 s args RX8 := T
  have hS : va_S (NoA) s.heap s.heap [] := va_S.rf
  have hl : lv_has ls 2 [(0, .ref o), (1, .int (iI gd))] := hl
  obtain ⟨hI0, hIL, hIH, hIB, hID, hIC, hIG, hIZ, hIF⟩ := id hI
  have hR : InR N := ⟨hI0, hIB⟩
  obtain ⟨b0, b1, b2, b3, b4, b5, b6, b7, b8, b9⟩ := id hI0
  refine lv_aload_n T.1 T.2.1 dX8_nextBond_0 rfl (lv_at hl 0 rfl) ?_
  refine lv_iload_n T.1 T.2.1 dX8_nextBond_1 rfl (lv_at hl 1 rfl) ?_
  refine cI_V T hK hP hS 0 rfl rfl rfl (c_X8_isGood l K o N B SS TT F gd (by omega) hI) iX8_isGood mw_4_22 ⟨Nat.le_of_ble_eq_true rfl, Nat.le_of_ble_eq_true rfl⟩ hP noA rfl hl.1 rfl (Nat.le_of_ble_eq_true rfl) ⟨Nat.zero_le _, Nat.zero_le _⟩ dX8_nextBond_2 (fun z1 _ H1 locs q2 hP1 hg1 hg2 hS => ?_)
  have hP := xP_kept hP hg2
  generalize H1 = H at hP hS ⊢
  clear hg1 hg2 hP1
  rcases q2 with ⟨rfl, q2⟩ | ⟨rfl, q2⟩
  · skip
    refine xv_if_eq T (by omega) (tgt := 17) dX8_nextBond_5 (by decide) (fun c3 => absurd c3 (by omega)) (fun _ => ?_)
    refine lv_aload_n T.1 T.2.1 dX8_nextBond_8 rfl (lv_at hl 0 rfl) ?_
    refine lv_iload_n T.1 T.2.1 dX8_nextBond_9 rfl (lv_at hl 1 rfl) ?_
    refine xv_iconst T dX8_nextBond_10 ?_
    refine cI_V T hK hP hS 0 rfl rfl rfl (c_X8_nextOf l K o N B SS TT F gd (-1) (by omega) (by omega) hR) iX8_nextOf mw_4_72 ⟨Nat.le_of_ble_eq_true rfl, Nat.le_of_ble_eq_true rfl⟩ hP noA rfl hl.1 rfl (Nat.le_of_ble_eq_true rfl) ⟨Nat.zero_le _, Nat.zero_le _⟩ dX8_nextBond_11 (fun bz _ H1 locs qz hP1 hg1 hg2 hS => ?_)
    have hP := xP_kept hP hg2
    generalize H1 = H at hP hS ⊢
    clear hg1 hg2 hP1
    obtain ⟨hz, -⟩ := qz
    subst hz
    refine lv_goto T.1 T.2.1 (tgt := 18) dX8_nextBond_14 (by decide) ?_
    exact rI T (u := ()) hr hk hK hP hS dX8_nextBond_18 (by unfold qNextBond; (repeat' split) <;> first | (exfalso; omega) | rfl)
  · skip
    refine xv_if_eq T (by omega) (tgt := 17) dX8_nextBond_5 (by decide) (fun _ => ?_) (fun c4 => absurd c4 (by omega))
    refine xv_iconst T dX8_nextBond_17 ?_
    exact rI T (u := ()) hr hk hK hP hS dX8_nextBond_18 (by unfold qNextBond; (repeat' split) <;> first | (exfalso; omega) | rfl)
set_option maxHeartbeats 4000000 in
set_option maxRecDepth 100000 in
theorem c_X8_account (l : Launch) (K : KT) (o : Nat) (N B SS TT F : Int → Int) (gd wh : Int) (r_gd : -2147483648 ≤ gd ∧ gd ≤ 2147483647) (r_wh : -2147483648 ≤ wh ∧ wh ≤ 2147483647) (hI : Inv N) : CtI l yX8_account cX8_account 3 .int 2 43 K [.ref o, .int (iI gd), .int (iI wh)] (mW K o N B SS TT F) (NoA) (fun (z : Int) (_ : Unit) => z = qAccount N gd wh) (fun _ => mW K o N B SS TT F) := by
  refine CtI_of (by decide) (Nat.le_of_ble_eq_true rfl) ?_
  intro p e s m args below meth c T hr hk hP hK ls hl
  have T : CF p m c cX8_account 3 s args RX8 := T
  have hS : va_S (NoA) s.heap s.heap [] := va_S.rf
  have hl : lv_has ls 3 [(0, .ref o), (1, .int (iI gd)), (2, .int (iI wh))] := hl
  obtain ⟨hI0, hIL, hIH, hIB, hID, hIC, hIG, hIZ, hIF⟩ := id hI
  have hR : InR N := ⟨hI0, hIB⟩
  obtain ⟨b0, b1, b2, b3, b4, b5, b6, b7, b8, b9⟩ := id hI0
  refine lv_aload_n T.1 T.2.1 dX8_account_0 rfl (lv_at hl 0 rfl) ?_
  refine lv_iload_n T.1 T.2.1 dX8_account_1 rfl (lv_at hl 1 rfl) ?_
  refine cI_V T hK hP hS 0 rfl rfl rfl (c_X8_isGood l K o N B SS TT F gd (by omega) hI) iX8_isGood mw_4_22 ⟨Nat.le_of_ble_eq_true rfl, Nat.le_of_ble_eq_true rfl⟩ hP noA rfl hl.1 rfl (Nat.le_of_ble_eq_true rfl) ⟨Nat.zero_le _, Nat.zero_le _⟩ dX8_account_2 (fun z1 _ H1 locs q2 hP1 hg1 hg2 hS => ?_)
  have hP := xP_kept hP hg2
  generalize H1 = H at hP hS ⊢
  clear hg1 hg2 hP1
  rcases q2 with ⟨rfl, q2⟩ | ⟨rfl, q2⟩
  · skip
    refine xv_if_eq T (by omega) (tgt := 18) dX8_account_5 (by decide) (fun c3 => absurd c3 (by omega)) (fun _ => ?_)
    refine lv_iload_n T.1 T.2.1 dX8_account_8 rfl (lv_at hl 2 rfl) ?_
    refine xv_iconst T dX8_account_9 ?_
    refine xv_bipush T dX8_account_10 (by omega) ?_
    refine cI_S T hK hP hS (c_X8_in l K wh 0 6 (by omega) (by omega) (by omega)) iX8_in mw_4_15 ⟨Nat.le_of_ble_eq_true rfl, Nat.le_of_ble_eq_true rfl⟩ xP_nil noA rfl hl.1 rfl (Nat.le_of_ble_eq_true rfl) ⟨Nat.zero_le _, Nat.zero_le _⟩ dX8_account_12 (fun z4 _ H1 locs q5 hP1 hg1 hg2 hS => ?_)
    have hP := xP_kept hP hg2
    generalize H1 = H at hP hS ⊢
    clear hg1 hg2 hP1
    rcases q5 with ⟨rfl, q5⟩ | ⟨rfl, q5⟩
    · skip
      refine xv_if_ne T (by omega) (tgt := 20) dX8_account_15 (by decide) (fun _ => ?_) (fun c6 => absurd c6 (by omega))
      refine lv_iload_n T.1 T.2.1 dX8_account_20 rfl (lv_at hl 2 rfl) ?_
      by_cases c7l : wh < 0
      · skip
        refine xv_tableOut T (tgt := 74) (by omega) dX8_account_21 (by omega) (by decide) ?_
        refine lv_aload_n T.1 T.2.1 dX8_account_74 rfl (lv_at hl 0 rfl) ?_
        refine g8_now T hK hP 0 rfl rfl mw_3_175 dX8_account_75 ?_
        refine xv_bipush T dX8_account_78 (by omega) ?_
        refine xv_iconst T dX8_account_80 ?_
        refine lv_iload_n T.1 T.2.1 dX8_account_81 rfl (lv_at hl 1 rfl) ?_
        refine xv_imul T dX8_account_82 ?_
        refine xv_iadd T dX8_account_83 ?_
        refine lv_iload_n T.1 T.2.1 dX8_account_84 rfl (lv_at hl 2 rfl) ?_
        refine xv_iadd T dX8_account_85 ?_
        refine xv_iconst T dX8_account_86 ?_
        refine xv_isub T dX8_account_87 ?_
        refine xa_iald T hK hP 1 rfl rfl (117 + 4 * gd + wh) (by omega) (by omega) (by decide) dX8_account_88 ?_
        exact rI T (u := ()) hr hk hK hP hS dX8_account_89 (by unfold qAccount; (repeat' split) <;> first | (exfalso; omega) | rfl)
      by_cases c7h : 2 < wh
      · skip
        refine xv_tableOut T (tgt := 74) (by omega) dX8_account_21 (by omega) (by decide) ?_
        refine lv_aload_n T.1 T.2.1 dX8_account_74 rfl (lv_at hl 0 rfl) ?_
        refine g8_now T hK hP 0 rfl rfl mw_3_175 dX8_account_75 ?_
        refine xv_bipush T dX8_account_78 (by omega) ?_
        refine xv_iconst T dX8_account_80 ?_
        refine lv_iload_n T.1 T.2.1 dX8_account_81 rfl (lv_at hl 1 rfl) ?_
        refine xv_imul T dX8_account_82 ?_
        refine xv_iadd T dX8_account_83 ?_
        refine lv_iload_n T.1 T.2.1 dX8_account_84 rfl (lv_at hl 2 rfl) ?_
        refine xv_iadd T dX8_account_85 ?_
        refine xv_iconst T dX8_account_86 ?_
        refine xv_isub T dX8_account_87 ?_
        refine xa_iald T hK hP 1 rfl rfl (117 + 4 * gd + wh) (by omega) (by omega) (by decide) dX8_account_88 ?_
        exact rI T (u := ()) hr hk hK hP hS dX8_account_89 (by unfold qAccount; (repeat' split) <;> first | (exfalso; omega) | rfl)
      have c7_0 : 0 ≤ wh := by omega
      by_cases c7 : wh = 0
      · skip
        refine xv_tableIn T (off := 27) (tgt := 48) 0 c7 (by omega) dX8_account_21 (by omega) (by omega) (by decide) (by decide) ?_
        refine lv_aload_n T.1 T.2.1 dX8_account_48 rfl (lv_at hl 0 rfl) ?_
        refine g8_now T hK hP 0 rfl rfl mw_3_175 dX8_account_49 ?_
        refine xv_bipush T dX8_account_52 (by omega) ?_
        refine lv_iload_n T.1 T.2.1 dX8_account_54 rfl (lv_at hl 1 rfl) ?_
        refine xv_iadd T dX8_account_55 ?_
        refine xa_iald T hK hP 1 rfl rfl (112 + gd) (by omega) (by omega) (by decide) dX8_account_56 ?_
        exact rI T (u := ()) hr hk hK hP hS dX8_account_57 (by unfold qAccount; (repeat' split) <;> first | (exfalso; omega) | rfl)
      have c7_1 : 1 ≤ wh := by omega
      clear c7 c7_0
      by_cases c7 : wh = 1
      · skip
        refine xv_tableIn T (off := 37) (tgt := 58) 1 c7 (by omega) dX8_account_21 (by omega) (by omega) (by decide) (by decide) ?_
        refine lv_aload_n T.1 T.2.1 dX8_account_58 rfl (lv_at hl 0 rfl) ?_
        refine xv_bipush T dX8_account_59 (by omega) ?_
        refine lv_iload_n T.1 T.2.1 dX8_account_61 rfl (lv_at hl 1 rfl) ?_
        refine cI_V T hK hP hS 0 rfl rfl rfl (c_X8_overLockers l K o N B SS TT F 24 gd (by omega) (by omega)) iX8_overLockers mw_4_165 ⟨Nat.le_of_ble_eq_true rfl, Nat.le_of_ble_eq_true rfl⟩ hP noA rfl hl.1 rfl (Nat.le_of_ble_eq_true rfl) ⟨Nat.zero_le _, Nat.zero_le _⟩ dX8_account_62 (fun z8 _ H1 locs q9 hP1 hg1 hg2 hS => ?_)
        have hP := xP_kept hP hg2
        generalize H1 = H at hP hS ⊢
        clear hg1 hg2 hP1
        obtain rfl : z8 = sumZ (fun k => N (24 + 8 * k + gd)) 5 := q9
        exact rI T (u := ()) hr hk hK hP hS dX8_account_65 (by unfold qAccount; (repeat' split) <;> first | (exfalso; omega) | rfl)
      have c7_2 : 2 ≤ wh := by omega
      clear c7 c7_1
      have c7 : wh = 2 := by omega
      refine xv_tableIn T (off := 45) (tgt := 66) 2 c7 (by omega) dX8_account_21 (by omega) (by omega) (by decide) (by decide) ?_
      refine lv_aload_n T.1 T.2.1 dX8_account_66 rfl (lv_at hl 0 rfl) ?_
      refine xv_bipush T dX8_account_67 (by omega) ?_
      refine lv_iload_n T.1 T.2.1 dX8_account_69 rfl (lv_at hl 1 rfl) ?_
      refine cI_V T hK hP hS 0 rfl rfl rfl (c_X8_overLockers l K o N B SS TT F 64 gd (by omega) (by omega)) iX8_overLockers mw_4_165 ⟨Nat.le_of_ble_eq_true rfl, Nat.le_of_ble_eq_true rfl⟩ hP noA rfl hl.1 rfl (Nat.le_of_ble_eq_true rfl) ⟨Nat.zero_le _, Nat.zero_le _⟩ dX8_account_70 (fun z10 _ H1 locs q11 hP1 hg1 hg2 hS => ?_)
      have hP := xP_kept hP hg2
      generalize H1 = H at hP hS ⊢
      clear hg1 hg2 hP1
      obtain rfl : z10 = sumZ (fun k => N (64 + 8 * k + gd)) 5 := q11
      exact rI T (u := ()) hr hk hK hP hS dX8_account_73 (by unfold qAccount; (repeat' split) <;> first | (exfalso; omega) | rfl)
    · skip
      refine xv_if_ne T (by omega) (tgt := 20) dX8_account_15 (by decide) (fun c12 => absurd c12 (by omega)) (fun _ => ?_)
      refine xv_iconst T dX8_account_18 ?_
      exact rI T (u := ()) hr hk hK hP hS dX8_account_19 (by unfold qAccount; (repeat' split) <;> first | (exfalso; omega) | rfl)
  · skip
    refine xv_if_eq T (by omega) (tgt := 18) dX8_account_5 (by decide) (fun _ => ?_) (fun c13 => absurd c13 (by omega))
    refine xv_iconst T dX8_account_18 ?_
    exact rI T (u := ()) hr hk hK hP hS dX8_account_19 (by unfold qAccount; (repeat' split) <;> first | (exfalso; omega) | rfl)
set_option maxHeartbeats 4000000 in
set_option maxRecDepth 100000 in
theorem c_X8_cents (l : Launch) (K : KT) (o : Nat) (N B SS TT F : Int → Int) (wh : Int) (r_wh : -2147483648 ≤ wh ∧ wh ≤ 2147483647) (hI : Inv N) : CtI l yX8_cents cX8_cents 4 .int 1 22 K [.ref o, .int (iI wh)] (mW K o N B SS TT F) (NoA) (fun (z : Int) (_ : Unit) => z = qCents N wh) (fun _ => mW K o N B SS TT F) := by
  refine CtI_of (by decide) (Nat.le_of_ble_eq_true rfl) ?_
  intro p e s m args below meth c T hr hk hP hK ls hl
  have T : CF p m c cX8_cents 4 s args RX8 := T
  have hS : va_S (NoA) s.heap s.heap [] := va_S.rf
  have hl : lv_has ls 4 [(0, .ref o), (1, .int (iI wh))] := hl
  obtain ⟨hI0, hIL, hIH, hIB, hID, hIC, hIG, hIZ, hIF⟩ := id hI
  have hR : InR N := ⟨hI0, hIB⟩
  obtain ⟨b0, b1, b2, b3, b4, b5, b6, b7, b8, b9⟩ := id hI0
  refine lv_iload_n T.1 T.2.1 dX8_cents_0 rfl (lv_at hl 1 rfl) ?_
  refine xv_iconst T dX8_cents_1 ?_
  refine xv_bipush T dX8_cents_2 (by omega) ?_
  refine cI_S T hK hP hS (c_X8_in l K wh 0 6 (by omega) (by omega) (by omega)) iX8_in mw_4_15 ⟨Nat.le_of_ble_eq_true rfl, Nat.le_of_ble_eq_true rfl⟩ xP_nil noA rfl hl.1 rfl (Nat.le_of_ble_eq_true rfl) ⟨Nat.zero_le _, Nat.zero_le _⟩ dX8_cents_4 (fun z1 _ H1 locs q2 hP1 hg1 hg2 hS => ?_)
  have hP := xP_kept hP hg2
  generalize H1 = H at hP hS ⊢
  clear hg1 hg2 hP1
  rcases q2 with ⟨rfl, q2⟩ | ⟨rfl, q2⟩
  · skip
    refine xv_if_ne T (by omega) (tgt := 12) dX8_cents_7 (by decide) (fun _ => ?_) (fun c3 => absurd c3 (by omega))
    refine lv_iload_n T.1 T.2.1 dX8_cents_12 rfl (lv_at hl 1 rfl) ?_
    refine xv_iconst T dX8_cents_13 ?_
    refine xv_icmp_ne T (by omega) (tgt := 64) dX8_cents_14 (by decide) (fun c4 => ?_) (fun c4 => ?_)
    · skip
      refine lv_iload_n T.1 T.2.1 dX8_cents_64 rfl (lv_at hl 1 rfl) ?_
      refine xv_if_ne T (by omega) (tgt := 78) dX8_cents_65 (by decide) (fun c5 => ?_) (fun c5 => ?_)
      · skip
        refine lv_iload_n T.1 T.2.1 dX8_cents_78 rfl (lv_at hl 1 rfl) ?_
        refine xv_bipush T dX8_cents_79 (by omega) ?_
        refine xv_icmp_ne T (by omega) (tgt := 94) dX8_cents_81 (by decide) (fun c6 => ?_) (fun c6 => ?_)
        · skip
          refine lv_aload_n T.1 T.2.1 dX8_cents_94 rfl (lv_at hl 0 rfl) ?_
          refine g8_now T hK hP 0 rfl rfl mw_3_175 dX8_cents_95 ?_
          refine xv_bipush T dX8_cents_98 (by omega) ?_
          refine lv_iload_n T.1 T.2.1 dX8_cents_100 rfl (lv_at hl 1 rfl) ?_
          refine xv_iadd T dX8_cents_101 ?_
          refine xv_iconst T dX8_cents_102 ?_
          refine xv_isub T dX8_cents_103 ?_
          refine xa_iald T hK hP 1 rfl rfl (8 + wh) (by omega) (by omega) (by decide) dX8_cents_104 ?_
          exact rI T (u := ()) hr hk hK hP hS dX8_cents_105 (by unfold qCents; (repeat' split) <;> first | (exfalso; omega) | rfl)
        · skip
          refine lv_aload_n T.1 T.2.1 dX8_cents_84 rfl (lv_at hl 0 rfl) ?_
          refine g8_now T hK hP 0 rfl rfl mw_3_175 dX8_cents_85 ?_
          refine xv_bipush T dX8_cents_88 (by omega) ?_
          refine xa_iald T hK hP 1 rfl rfl 8 (by omega) (by omega) (by decide) dX8_cents_90 ?_
          refine lv_goto T.1 T.2.1 (tgt := 105) dX8_cents_91 (by decide) ?_
          exact rI T (u := ()) hr hk hK hP hS dX8_cents_105 (by unfold qCents; (repeat' split) <;> first | (exfalso; omega) | rfl)
      · skip
        refine lv_aload_n T.1 T.2.1 dX8_cents_68 rfl (lv_at hl 0 rfl) ?_
        refine g8_now T hK hP 0 rfl rfl mw_3_175 dX8_cents_69 ?_
        refine xv_bipush T dX8_cents_72 (by omega) ?_
        refine xa_iald T hK hP 1 rfl rfl 9 (by omega) (by omega) (by decide) dX8_cents_74 ?_
        refine lv_goto T.1 T.2.1 (tgt := 105) dX8_cents_75 (by decide) ?_
        exact rI T (u := ()) hr hk hK hP hS dX8_cents_105 (by unfold qCents; (repeat' split) <;> first | (exfalso; omega) | rfl)
    · skip
      refine xv_iconst T dX8_cents_17 ?_
      refine lv_istore_n (lv' := [(2, .int (iI 0)), (0, .ref o), (1, .int (iI wh))]) T.1 T.2.1 dX8_cents_18 rfl hl (by decide) rfl (fun ls hl => ?_)
      refine xv_iconst T dX8_cents_19 ?_
      refine lv_istore_n (lv' := [(3, .int (iI 0)), (2, .int (iI 0)), (0, .ref o), (1, .int (iI wh))]) T.1 T.2.1 dX8_cents_20 rfl hl (by decide) rfl (fun ls hl => ?_)
      have lp21 : ∀ (fuel : Nat) (acc : Int) (i : Int) (H : Heap) (locs : List Loc) (ls : Array Slot), (0 ≤ i ∧ i ≤ N 6) → (acc = sumZ (fun b => N (272 + b) * N (332 + b)) i.toNat) → N 6 - i < (fuel : Int) → xP K (mW K o N B SS TT F) H → va_S (NoA) s.heap H locs → lv_has ls 4 [(0, .ref o), (1, .int (iI wh)), (2, .int (iI acc)), (3, .int (iI i))] → W p l e (rmF 1 22) s m args below meth c H locs 0 0 (MQ below (qI K (fun (z : Int) (_ : Unit) => z = qCents N wh) (fun _ => mW K o N B SS TT F) (NoA)) args s 0 0 (NoA)) (F0 m 21 ls []) := by
        intro fuel
        induction fuel with
        | zero =>
          intro acc i H locs ls hi ha hm hP hS hl
          exact absurd hm (by omega)
        | succ fuel ih21 =>
          intro acc i H locs ls hi ha hm hP hS hl
          refine lv_iload_n T.1 T.2.1 dX8_cents_21 rfl (lv_at hl 3 rfl) ?_
          refine lv_aload_n T.1 T.2.1 dX8_cents_22 rfl (lv_at hl 0 rfl) ?_
          refine g8_now T hK hP 0 rfl rfl mw_3_175 dX8_cents_23 ?_
          refine xv_bipush T dX8_cents_26 (by omega) ?_
          refine xa_iald T hK hP 1 rfl rfl 6 (by omega) (by omega) (by decide) dX8_cents_28 ?_
          refine xv_icmp_ge T (by omega) (tgt := 62) dX8_cents_29 (by decide) (fun c7 => ?_) (fun c7 => ?_)
          · skip
            refine lv_iload_n T.1 T.2.1 dX8_cents_62 rfl (lv_at hl 2 rfl) ?_
            exact rI T (u := ()) hr hk hK hP hS dX8_cents_63 (by unfold qCents heldF; rw [if_neg (by omega), if_pos (by omega), ha, show i = N 6 by omega])
          · skip
            refine lv_iload_n T.1 T.2.1 dX8_cents_32 rfl (lv_at hl 2 rfl) ?_
            refine lv_aload_n T.1 T.2.1 dX8_cents_33 rfl (lv_at hl 0 rfl) ?_
            refine g8_now T hK hP 0 rfl rfl mw_3_175 dX8_cents_34 ?_
            refine xv_sipush T dX8_cents_37 (by omega) ?_
            refine lv_iload_n T.1 T.2.1 dX8_cents_40 rfl (lv_at hl 3 rfl) ?_
            refine xv_iadd T dX8_cents_41 ?_
            refine xa_iald T hK hP 1 rfl rfl (272 + i) (by omega) (by omega) (by decide) dX8_cents_42 ?_
            have f8 := hIB i (by omega) (by omega)
            refine lv_aload_n T.1 T.2.1 dX8_cents_43 rfl (lv_at hl 0 rfl) ?_
            refine g8_now T hK hP 0 rfl rfl mw_3_175 dX8_cents_44 ?_
            refine xv_sipush T dX8_cents_47 (by omega) ?_
            refine lv_iload_n T.1 T.2.1 dX8_cents_50 rfl (lv_at hl 3 rfl) ?_
            refine xv_iadd T dX8_cents_51 ?_
            refine xa_iald T hK hP 1 rfl rfl (332 + i) (by omega) (by omega) (by decide) dX8_cents_52 ?_
            refine xv_imul T dX8_cents_53 ?_
            refine xv_iadd T dX8_cents_54 ?_
            refine lv_istore_n (lv' := [(2, .int (iI (acc + ((N (272 + i)) * (N (332 + i)))))), (0, .ref o), (1, .int (iI wh)), (3, .int (iI i))]) T.1 T.2.1 dX8_cents_55 rfl hl (by decide) rfl (fun ls hl => ?_)
            refine xv_iinc T (y := i + 1) (lv' := [(3, .int (iI (i + 1))), (2, .int (iI (acc + ((N (272 + i)) * (N (332 + i)))))), (0, .ref o), (1, .int (iI wh))]) dX8_cents_56 hl (q := 3) rfl (by omega) (by decide) rfl (fun ls hl => ?_)
            refine lv_goto T.1 T.2.1 (tgt := 21) dX8_cents_59 (by decide) ?_
            exact ih21 (acc + ((N (272 + i)) * (N (332 + i)))) (i + 1) _ _ ls (by omega) (by rw [sumZ_step (by omega), ha]) (by omega) hP hS (lv_sub hl [2, 3, 1, 0] rfl)
      exact lp21 61 0 0 _ _ ls (by omega) rfl (by omega) hP hS (lv_sub hl [2, 3, 1, 0] rfl)
  · skip
    refine xv_if_ne T (by omega) (tgt := 12) dX8_cents_7 (by decide) (fun c9 => absurd c9 (by omega)) (fun _ => ?_)
    refine xv_iconst T dX8_cents_10 ?_
    exact rI T (u := ()) hr hk hK hP hS dX8_cents_11 (by unfold qCents; (repeat' split) <;> first | (exfalso; omega) | rfl)
set_option maxHeartbeats 4000000 in
set_option maxRecDepth 100000 in
theorem c_X8_count (l : Launch) (K : KT) (o : Nat) (N B SS TT F : Int → Int) (wh : Int) (r_wh : -2147483648 ≤ wh ∧ wh ≤ 2147483647) (hI : Inv N) : CtI l yX8_count cX8_count 4 .int 1 23 K [.ref o, .int (iI wh)] (mW K o N B SS TT F) (NoA) (fun (z : Int) (_ : Unit) => z = qCount N (F 0) (F 2) wh) (fun _ => mW K o N B SS TT F) := by
  refine CtI_of (by decide) (Nat.le_of_ble_eq_true rfl) ?_
  intro p e s m args below meth c T hr hk hP hK ls hl
  have T : CF p m c cX8_count 4 s args RX8 := T
  have hS : va_S (NoA) s.heap s.heap [] := va_S.rf
  have hl : lv_has ls 4 [(0, .ref o), (1, .int (iI wh))] := hl
  obtain ⟨hI0, hIL, hIH, hIB, hID, hIC, hIG, hIZ, hIF⟩ := id hI
  have hR : InR N := ⟨hI0, hIB⟩
  obtain ⟨b0, b1, b2, b3, b4, b5, b6, b7, b8, b9⟩ := id hI0
  refine xv_iconst T dX8_count_0 ?_
  refine lv_istore_n (lv' := [(2, .int (iI 0)), (0, .ref o), (1, .int (iI wh))]) T.1 T.2.1 dX8_count_1 rfl hl (by decide) rfl (fun ls hl => ?_)
  refine xv_iconst T dX8_count_2 ?_
  refine lv_istore_n (lv' := [(3, .int (iI 0)), (2, .int (iI 0)), (0, .ref o), (1, .int (iI wh))]) T.1 T.2.1 dX8_count_3 rfl hl (by decide) rfl (fun ls hl => ?_)
  have lp4 : ∀ (fuel : Nat) (acc : Int) (i : Int) (H : Heap) (locs : List Loc) (ls : Array Slot), (0 ≤ i ∧ i ≤ N 6) → (acc = sumZ (fun b => if 0 < N (272 + b) then 1 else 0) i.toNat) → N 6 - i < (fuel : Int) → xP K (mW K o N B SS TT F) H → va_S (NoA) s.heap H locs → lv_has ls 4 [(0, .ref o), (1, .int (iI wh)), (2, .int (iI acc)), (3, .int (iI i))] → W p l e (rmF 1 23) s m args below meth c H locs 0 0 (MQ below (qI K (fun (z : Int) (_ : Unit) => z = qCount N (F 0) (F 2) wh) (fun _ => mW K o N B SS TT F) (NoA)) args s 0 0 (NoA)) (F0 m 4 ls []) := by
    intro fuel
    induction fuel with
    | zero =>
      intro acc i H locs ls hi ha hm hP hS hl
      exact absurd hm (by omega)
    | succ fuel ih4 =>
      intro acc i H locs ls hi ha hm hP hS hl
      refine lv_iload_n T.1 T.2.1 dX8_count_4 rfl (lv_at hl 3 rfl) ?_
      refine lv_aload_n T.1 T.2.1 dX8_count_5 rfl (lv_at hl 0 rfl) ?_
      refine g8_now T hK hP 0 rfl rfl mw_3_175 dX8_count_6 ?_
      refine xv_bipush T dX8_count_9 (by omega) ?_
      refine xa_iald T hK hP 1 rfl rfl 6 (by omega) (by omega) (by decide) dX8_count_11 ?_
      refine xv_icmp_ge T (by omega) (tgt := 42) dX8_count_12 (by decide) (fun c1 => ?_) (fun c1 => ?_)
      · skip
        have hacc : acc = livF N := by unfold livF; rw [ha, show i = N 6 by omega]
        subst hacc
        clear ha hm
        refine lv_iload_n T.1 T.2.1 dX8_count_42 rfl (lv_at hl 1 rfl) ?_
        by_cases c2l : wh < 0
        · skip
          refine xv_tableOut T (tgt := 226) (by omega) dX8_count_43 (by omega) (by decide) ?_
          refine xv_iconst T dX8_count_226 ?_
          exact rI T (u := ()) hr hk hK hP hS dX8_count_227 (by first | (subst c2; rfl) | (unfold qCount; rw [if_neg (by omega), if_neg (by omega), if_neg (by omega), if_neg (by omega), if_neg (by omega), if_neg (by omega), if_neg (by omega), if_neg (by omega), if_neg (by omega), if_neg (by omega), if_neg (by omega), if_neg (by omega), if_neg (by omega)]))
        by_cases c2h : 21 < wh
        · skip
          refine xv_tableOut T (tgt := 226) (by omega) dX8_count_43 (by omega) (by decide) ?_
          refine xv_iconst T dX8_count_226 ?_
          exact rI T (u := ()) hr hk hK hP hS dX8_count_227 (by first | (subst c2; rfl) | (unfold qCount; rw [if_neg (by omega), if_neg (by omega), if_neg (by omega), if_neg (by omega), if_neg (by omega), if_neg (by omega), if_neg (by omega), if_neg (by omega), if_neg (by omega), if_neg (by omega), if_neg (by omega), if_neg (by omega), if_neg (by omega)]))
        have c2_0 : 0 ≤ wh := by omega
        by_cases c2 : wh = 0
        · skip
          refine xv_tableIn T (off := 101) (tgt := 144) 0 c2 (by omega) dX8_count_43 (by omega) (by omega) (by decide) (by decide) ?_
          refine lv_aload_n T.1 T.2.1 dX8_count_144 rfl (lv_at hl 0 rfl) ?_
          refine g8_now T hK hP 0 rfl rfl mw_3_175 dX8_count_145 ?_
          refine xv_iconst T dX8_count_148 ?_
          refine xa_iald T hK hP 1 rfl rfl 4 (by omega) (by omega) (by decide) dX8_count_149 ?_
          exact rI T (u := ()) hr hk hK hP hS dX8_count_150 (by first | (subst c2; rfl) | (unfold qCount; rw [if_neg (by omega), if_neg (by omega), if_neg (by omega), if_neg (by omega), if_neg (by omega), if_neg (by omega), if_neg (by omega), if_neg (by omega), if_neg (by omega), if_neg (by omega), if_neg (by omega), if_neg (by omega), if_neg (by omega)]))
        have c2_1 : 1 ≤ wh := by omega
        clear c2 c2_0
        by_cases c2 : wh = 1
        · skip
          refine xv_tableIn T (off := 108) (tgt := 151) 1 c2 (by omega) dX8_count_43 (by omega) (by omega) (by decide) (by decide) ?_
          refine lv_aload_n T.1 T.2.1 dX8_count_151 rfl (lv_at hl 0 rfl) ?_
          refine g8_now T hK hP 0 rfl rfl mw_3_175 dX8_count_152 ?_
          refine xv_iconst T dX8_count_155 ?_
          refine xa_iald T hK hP 1 rfl rfl 5 (by omega) (by omega) (by decide) dX8_count_156 ?_
          exact rI T (u := ()) hr hk hK hP hS dX8_count_157 (by first | (subst c2; rfl) | (unfold qCount; rw [if_neg (by omega), if_neg (by omega), if_neg (by omega), if_neg (by omega), if_neg (by omega), if_neg (by omega), if_neg (by omega), if_neg (by omega), if_neg (by omega), if_neg (by omega), if_neg (by omega), if_neg (by omega), if_neg (by omega)]))
        have c2_2 : 2 ≤ wh := by omega
        clear c2 c2_1
        by_cases c2 : wh = 2
        · skip
          refine xv_tableIn T (off := 115) (tgt := 158) 2 c2 (by omega) dX8_count_43 (by omega) (by omega) (by decide) (by decide) ?_
          refine lv_aload_n T.1 T.2.1 dX8_count_158 rfl (lv_at hl 0 rfl) ?_
          refine g8_now T hK hP 0 rfl rfl mw_3_175 dX8_count_159 ?_
          refine xv_bipush T dX8_count_162 (by omega) ?_
          refine xa_iald T hK hP 1 rfl rfl 6 (by omega) (by omega) (by decide) dX8_count_164 ?_
          exact rI T (u := ()) hr hk hK hP hS dX8_count_165 (by first | (subst c2; rfl) | (unfold qCount; rw [if_neg (by omega), if_neg (by omega), if_neg (by omega), if_neg (by omega), if_neg (by omega), if_neg (by omega), if_neg (by omega), if_neg (by omega), if_neg (by omega), if_neg (by omega), if_neg (by omega), if_neg (by omega), if_neg (by omega)]))
        have c2_3 : 3 ≤ wh := by omega
        clear c2 c2_2
        by_cases c2 : wh = 3
        · skip
          refine xv_tableIn T (off := 123) (tgt := 166) 3 c2 (by omega) dX8_count_43 (by omega) (by omega) (by decide) (by decide) ?_
          refine lv_iload_n T.1 T.2.1 dX8_count_166 rfl (lv_at hl 2 rfl) ?_
          exact rI T (u := ()) hr hk hK hP hS dX8_count_167 (by first | (subst c2; rfl) | (unfold qCount; rw [if_neg (by omega), if_neg (by omega), if_neg (by omega), if_neg (by omega), if_neg (by omega), if_neg (by omega), if_neg (by omega), if_neg (by omega), if_neg (by omega), if_neg (by omega), if_neg (by omega), if_neg (by omega), if_neg (by omega)]))
        have c2_4 : 4 ≤ wh := by omega
        clear c2 c2_3
        by_cases c2 : wh = 4
        · skip
          refine xv_tableIn T (off := 125) (tgt := 168) 4 c2 (by omega) dX8_count_43 (by omega) (by omega) (by decide) (by decide) ?_
          refine lv_aload_n T.1 T.2.1 dX8_count_168 rfl (lv_at hl 0 rfl) ?_
          refine g8_now T hK hP 0 rfl rfl mw_3_175 dX8_count_169 ?_
          refine xv_bipush T dX8_count_172 (by omega) ?_
          refine xa_iald T hK hP 1 rfl rfl 7 (by omega) (by omega) (by decide) dX8_count_174 ?_
          exact rI T (u := ()) hr hk hK hP hS dX8_count_175 (by first | (subst c2; rfl) | (unfold qCount; rw [if_neg (by omega), if_neg (by omega), if_neg (by omega), if_neg (by omega), if_neg (by omega), if_neg (by omega), if_neg (by omega), if_neg (by omega), if_neg (by omega), if_neg (by omega), if_neg (by omega), if_neg (by omega), if_neg (by omega)]))
        have c2_5 : 5 ≤ wh := by omega
        clear c2 c2_4
        by_cases c2 : wh = 5
        · skip
          refine xv_tableIn T (off := 133) (tgt := 176) 5 c2 (by omega) dX8_count_43 (by omega) (by omega) (by decide) (by decide) ?_
          refine lv_aload_n T.1 T.2.1 dX8_count_176 rfl (lv_at hl 0 rfl) ?_
          refine g8_now T hK hP 0 rfl rfl mw_3_175 dX8_count_177 ?_
          refine xv_iconst T dX8_count_180 ?_
          refine xa_iald T hK hP 1 rfl rfl 0 (by omega) (by omega) (by decide) dX8_count_181 ?_
          exact rI T (u := ()) hr hk hK hP hS dX8_count_182 (by first | (subst c2; rfl) | (unfold qCount; rw [if_neg (by omega), if_neg (by omega), if_neg (by omega), if_neg (by omega), if_neg (by omega), if_neg (by omega), if_neg (by omega), if_neg (by omega), if_neg (by omega), if_neg (by omega), if_neg (by omega), if_neg (by omega), if_neg (by omega)]))
        have c2_6 : 6 ≤ wh := by omega
        clear c2 c2_5
        by_cases c2 : wh = 6
        · skip
          refine xv_tableIn T (off := 140) (tgt := 183) 6 c2 (by omega) dX8_count_43 (by omega) (by omega) (by decide) (by decide) ?_
          refine lv_aload_n T.1 T.2.1 dX8_count_183 rfl (lv_at hl 0 rfl) ?_
          refine g8_now T hK hP 0 rfl rfl mw_3_175 dX8_count_184 ?_
          refine xv_iconst T dX8_count_187 ?_
          refine xa_iald T hK hP 1 rfl rfl 1 (by omega) (by omega) (by decide) dX8_count_188 ?_
          exact rI T (u := ()) hr hk hK hP hS dX8_count_189 (by first | (subst c2; rfl) | (unfold qCount; rw [if_neg (by omega), if_neg (by omega), if_neg (by omega), if_neg (by omega), if_neg (by omega), if_neg (by omega), if_neg (by omega), if_neg (by omega), if_neg (by omega), if_neg (by omega), if_neg (by omega), if_neg (by omega), if_neg (by omega)]))
        have c2_7 : 7 ≤ wh := by omega
        clear c2 c2_6
        by_cases c2 : wh = 7
        · skip
          refine xv_tableIn T (off := 147) (tgt := 190) 7 c2 (by omega) dX8_count_43 (by omega) (by omega) (by decide) (by decide) ?_
          refine lv_aload_n T.1 T.2.1 dX8_count_190 rfl (lv_at hl 0 rfl) ?_
          refine xv_iconst T dX8_count_191 ?_
          refine cI_V T hK hP hS 0 rfl rfl rfl (c_X8_lockersThat l K o N B SS TT F 1 (by omega) hI) iX8_lockersThat mw_4_140 ⟨Nat.le_of_ble_eq_true rfl, Nat.le_of_ble_eq_true rfl⟩ hP noA rfl hl.1 rfl (Nat.le_of_ble_eq_true rfl) ⟨Nat.zero_le _, Nat.zero_le _⟩ dX8_count_192 (fun z3 _ H1 locs q4 hP1 hg1 hg2 hS => ?_)
          have hP := xP_kept hP hg2
          generalize H1 = H at hP hS ⊢
          clear hg1 hg2 hP1
          obtain rfl : z3 = cntF N 1 := q4
          exact rI T (u := ()) hr hk hK hP hS dX8_count_195 (by first | (subst c2; rfl) | (unfold qCount; rw [if_neg (by omega), if_neg (by omega), if_neg (by omega), if_neg (by omega), if_neg (by omega), if_neg (by omega), if_neg (by omega), if_neg (by omega), if_neg (by omega), if_neg (by omega), if_neg (by omega), if_neg (by omega), if_neg (by omega)]))
        have c2_8 : 8 ≤ wh := by omega
        clear c2 c2_7
        by_cases c2 : wh = 8
        · skip
          refine xv_tableIn T (off := 153) (tgt := 196) 8 c2 (by omega) dX8_count_43 (by omega) (by omega) (by decide) (by decide) ?_
          refine lv_aload_n T.1 T.2.1 dX8_count_196 rfl (lv_at hl 0 rfl) ?_
          refine xv_iconst T dX8_count_197 ?_
          refine cI_V T hK hP hS 0 rfl rfl rfl (c_X8_lockersThat l K o N B SS TT F 2 (by omega) hI) iX8_lockersThat mw_4_140 ⟨Nat.le_of_ble_eq_true rfl, Nat.le_of_ble_eq_true rfl⟩ hP noA rfl hl.1 rfl (Nat.le_of_ble_eq_true rfl) ⟨Nat.zero_le _, Nat.zero_le _⟩ dX8_count_198 (fun z5 _ H1 locs q6 hP1 hg1 hg2 hS => ?_)
          have hP := xP_kept hP hg2
          generalize H1 = H at hP hS ⊢
          clear hg1 hg2 hP1
          obtain rfl : z5 = cntF N 2 := q6
          exact rI T (u := ()) hr hk hK hP hS dX8_count_201 (by first | (subst c2; rfl) | (unfold qCount; rw [if_neg (by omega), if_neg (by omega), if_neg (by omega), if_neg (by omega), if_neg (by omega), if_neg (by omega), if_neg (by omega), if_neg (by omega), if_neg (by omega), if_neg (by omega), if_neg (by omega), if_neg (by omega), if_neg (by omega)]))
        have c2_9 : 9 ≤ wh := by omega
        clear c2 c2_8
        by_cases c2 : wh = 9
        · skip
          refine xv_tableIn T (off := 159) (tgt := 202) 9 c2 (by omega) dX8_count_43 (by omega) (by omega) (by decide) (by decide) ?_
          refine lv_aload_n T.1 T.2.1 dX8_count_202 rfl (lv_at hl 0 rfl) ?_
          refine g8_stateMany T hK hP 0 rfl (v := .int (iI (F 0))) rfl mw_3_179 dX8_count_203 ?_
          exact rI T (u := ()) hr hk hK hP hS dX8_count_206 (by first | (subst c2; rfl) | (unfold qCount; rw [if_neg (by omega), if_neg (by omega), if_neg (by omega), if_neg (by omega), if_neg (by omega), if_neg (by omega), if_neg (by omega), if_neg (by omega), if_neg (by omega), if_neg (by omega), if_neg (by omega), if_neg (by omega), if_neg (by omega)]))
        have c2_10 : 10 ≤ wh := by omega
        clear c2 c2_9
        by_cases c2 : wh = 10
        · skip
          refine xv_tableIn T (off := 164) (tgt := 207) 10 c2 (by omega) dX8_count_43 (by omega) (by omega) (by decide) (by decide) ?_
          refine lv_aload_n T.1 T.2.1 dX8_count_207 rfl (lv_at hl 0 rfl) ?_
          refine g8_letters T hK hP 0 rfl (v := .int (iI (F 2))) rfl mw_3_181 dX8_count_208 ?_
          exact rI T (u := ()) hr hk hK hP hS dX8_count_211 (by first | (subst c2; rfl) | (unfold qCount; rw [if_neg (by omega), if_neg (by omega), if_neg (by omega), if_neg (by omega), if_neg (by omega), if_neg (by omega), if_neg (by omega), if_neg (by omega), if_neg (by omega), if_neg (by omega), if_neg (by omega), if_neg (by omega), if_neg (by omega)]))
        have c2_11 : 11 ≤ wh := by omega
        clear c2 c2_10
        by_cases c2 : wh = 11
        · skip
          refine xv_tableIn T (off := 183) (tgt := 226) 11 c2 (by omega) dX8_count_43 (by omega) (by omega) (by decide) (by decide) ?_
          refine xv_iconst T dX8_count_226 ?_
          exact rI T (u := ()) hr hk hK hP hS dX8_count_227 (by first | (subst c2; rfl) | (unfold qCount; rw [if_neg (by omega), if_neg (by omega), if_neg (by omega), if_neg (by omega), if_neg (by omega), if_neg (by omega), if_neg (by omega), if_neg (by omega), if_neg (by omega), if_neg (by omega), if_neg (by omega), if_neg (by omega), if_neg (by omega)]))
        have c2_12 : 12 ≤ wh := by omega
        clear c2 c2_11
        by_cases c2 : wh = 12
        · skip
          refine xv_tableIn T (off := 183) (tgt := 226) 12 c2 (by omega) dX8_count_43 (by omega) (by omega) (by decide) (by decide) ?_
          refine xv_iconst T dX8_count_226 ?_
          exact rI T (u := ()) hr hk hK hP hS dX8_count_227 (by first | (subst c2; rfl) | (unfold qCount; rw [if_neg (by omega), if_neg (by omega), if_neg (by omega), if_neg (by omega), if_neg (by omega), if_neg (by omega), if_neg (by omega), if_neg (by omega), if_neg (by omega), if_neg (by omega), if_neg (by omega), if_neg (by omega), if_neg (by omega)]))
        have c2_13 : 13 ≤ wh := by omega
        clear c2 c2_12
        by_cases c2 : wh = 13
        · skip
          refine xv_tableIn T (off := 183) (tgt := 226) 13 c2 (by omega) dX8_count_43 (by omega) (by omega) (by decide) (by decide) ?_
          refine xv_iconst T dX8_count_226 ?_
          exact rI T (u := ()) hr hk hK hP hS dX8_count_227 (by first | (subst c2; rfl) | (unfold qCount; rw [if_neg (by omega), if_neg (by omega), if_neg (by omega), if_neg (by omega), if_neg (by omega), if_neg (by omega), if_neg (by omega), if_neg (by omega), if_neg (by omega), if_neg (by omega), if_neg (by omega), if_neg (by omega), if_neg (by omega)]))
        have c2_14 : 14 ≤ wh := by omega
        clear c2 c2_13
        by_cases c2 : wh = 14
        · skip
          refine xv_tableIn T (off := 183) (tgt := 226) 14 c2 (by omega) dX8_count_43 (by omega) (by omega) (by decide) (by decide) ?_
          refine xv_iconst T dX8_count_226 ?_
          exact rI T (u := ()) hr hk hK hP hS dX8_count_227 (by first | (subst c2; rfl) | (unfold qCount; rw [if_neg (by omega), if_neg (by omega), if_neg (by omega), if_neg (by omega), if_neg (by omega), if_neg (by omega), if_neg (by omega), if_neg (by omega), if_neg (by omega), if_neg (by omega), if_neg (by omega), if_neg (by omega), if_neg (by omega)]))
        have c2_15 : 15 ≤ wh := by omega
        clear c2 c2_14
        by_cases c2 : wh = 15
        · skip
          refine xv_tableIn T (off := 183) (tgt := 226) 15 c2 (by omega) dX8_count_43 (by omega) (by omega) (by decide) (by decide) ?_
          refine xv_iconst T dX8_count_226 ?_
          exact rI T (u := ()) hr hk hK hP hS dX8_count_227 (by first | (subst c2; rfl) | (unfold qCount; rw [if_neg (by omega), if_neg (by omega), if_neg (by omega), if_neg (by omega), if_neg (by omega), if_neg (by omega), if_neg (by omega), if_neg (by omega), if_neg (by omega), if_neg (by omega), if_neg (by omega), if_neg (by omega), if_neg (by omega)]))
        have c2_16 : 16 ≤ wh := by omega
        clear c2 c2_15
        by_cases c2 : wh = 16
        · skip
          refine xv_tableIn T (off := 183) (tgt := 226) 16 c2 (by omega) dX8_count_43 (by omega) (by omega) (by decide) (by decide) ?_
          refine xv_iconst T dX8_count_226 ?_
          exact rI T (u := ()) hr hk hK hP hS dX8_count_227 (by first | (subst c2; rfl) | (unfold qCount; rw [if_neg (by omega), if_neg (by omega), if_neg (by omega), if_neg (by omega), if_neg (by omega), if_neg (by omega), if_neg (by omega), if_neg (by omega), if_neg (by omega), if_neg (by omega), if_neg (by omega), if_neg (by omega), if_neg (by omega)]))
        have c2_17 : 17 ≤ wh := by omega
        clear c2 c2_16
        by_cases c2 : wh = 17
        · skip
          refine xv_tableIn T (off := 183) (tgt := 226) 17 c2 (by omega) dX8_count_43 (by omega) (by omega) (by decide) (by decide) ?_
          refine xv_iconst T dX8_count_226 ?_
          exact rI T (u := ()) hr hk hK hP hS dX8_count_227 (by first | (subst c2; rfl) | (unfold qCount; rw [if_neg (by omega), if_neg (by omega), if_neg (by omega), if_neg (by omega), if_neg (by omega), if_neg (by omega), if_neg (by omega), if_neg (by omega), if_neg (by omega), if_neg (by omega), if_neg (by omega), if_neg (by omega), if_neg (by omega)]))
        have c2_18 : 18 ≤ wh := by omega
        clear c2 c2_17
        by_cases c2 : wh = 18
        · skip
          refine xv_tableIn T (off := 183) (tgt := 226) 18 c2 (by omega) dX8_count_43 (by omega) (by omega) (by decide) (by decide) ?_
          refine xv_iconst T dX8_count_226 ?_
          exact rI T (u := ()) hr hk hK hP hS dX8_count_227 (by first | (subst c2; rfl) | (unfold qCount; rw [if_neg (by omega), if_neg (by omega), if_neg (by omega), if_neg (by omega), if_neg (by omega), if_neg (by omega), if_neg (by omega), if_neg (by omega), if_neg (by omega), if_neg (by omega), if_neg (by omega), if_neg (by omega), if_neg (by omega)]))
        have c2_19 : 19 ≤ wh := by omega
        clear c2 c2_18
        by_cases c2 : wh = 19
        · skip
          refine xv_tableIn T (off := 183) (tgt := 226) 19 c2 (by omega) dX8_count_43 (by omega) (by omega) (by decide) (by decide) ?_
          refine xv_iconst T dX8_count_226 ?_
          exact rI T (u := ()) hr hk hK hP hS dX8_count_227 (by first | (subst c2; rfl) | (unfold qCount; rw [if_neg (by omega), if_neg (by omega), if_neg (by omega), if_neg (by omega), if_neg (by omega), if_neg (by omega), if_neg (by omega), if_neg (by omega), if_neg (by omega), if_neg (by omega), if_neg (by omega), if_neg (by omega), if_neg (by omega)]))
        have c2_20 : 20 ≤ wh := by omega
        clear c2 c2_19
        by_cases c2 : wh = 20
        · skip
          refine xv_tableIn T (off := 169) (tgt := 212) 20 c2 (by omega) dX8_count_43 (by omega) (by omega) (by decide) (by decide) ?_
          refine lv_aload_n T.1 T.2.1 dX8_count_212 rfl (lv_at hl 0 rfl) ?_
          refine g8_now T hK hP 0 rfl rfl mw_3_175 dX8_count_213 ?_
          refine xv_iconst T dX8_count_216 ?_
          refine xa_iald T hK hP 1 rfl rfl 2 (by omega) (by omega) (by decide) dX8_count_217 ?_
          exact rI T (u := ()) hr hk hK hP hS dX8_count_218 (by first | (subst c2; rfl) | (unfold qCount; rw [if_neg (by omega), if_neg (by omega), if_neg (by omega), if_neg (by omega), if_neg (by omega), if_neg (by omega), if_neg (by omega), if_neg (by omega), if_neg (by omega), if_neg (by omega), if_neg (by omega), if_neg (by omega), if_neg (by omega)]))
        have c2_21 : 21 ≤ wh := by omega
        clear c2 c2_20
        have c2 : wh = 21 := by omega
        refine xv_tableIn T (off := 176) (tgt := 219) 21 c2 (by omega) dX8_count_43 (by omega) (by omega) (by decide) (by decide) ?_
        refine lv_aload_n T.1 T.2.1 dX8_count_219 rfl (lv_at hl 0 rfl) ?_
        refine g8_now T hK hP 0 rfl rfl mw_3_175 dX8_count_220 ?_
        refine xv_iconst T dX8_count_223 ?_
        refine xa_iald T hK hP 1 rfl rfl 3 (by omega) (by omega) (by decide) dX8_count_224 ?_
        exact rI T (u := ()) hr hk hK hP hS dX8_count_225 (by first | (subst c2; rfl) | (unfold qCount; rw [if_neg (by omega), if_neg (by omega), if_neg (by omega), if_neg (by omega), if_neg (by omega), if_neg (by omega), if_neg (by omega), if_neg (by omega), if_neg (by omega), if_neg (by omega), if_neg (by omega), if_neg (by omega), if_neg (by omega)]))
      · skip
        refine lv_iload_n T.1 T.2.1 dX8_count_15 rfl (lv_at hl 2 rfl) ?_
        refine lv_aload_n T.1 T.2.1 dX8_count_16 rfl (lv_at hl 0 rfl) ?_
        refine g8_now T hK hP 0 rfl rfl mw_3_175 dX8_count_17 ?_
        refine xv_sipush T dX8_count_20 (by omega) ?_
        refine lv_iload_n T.1 T.2.1 dX8_count_23 rfl (lv_at hl 3 rfl) ?_
        refine xv_iadd T dX8_count_24 ?_
        refine xa_iald T hK hP 1 rfl rfl (272 + i) (by omega) (by omega) (by decide) dX8_count_25 ?_
        have f7 := hIB i (by omega) (by omega)
        refine xv_if_le T (by omega) (tgt := 33) dX8_count_26 (by decide) (fun c8 => ?_) (fun c8 => ?_)
        · skip
          refine xv_iconst T dX8_count_33 ?_
          refine xv_iadd T dX8_count_34 ?_
          refine lv_istore_n (lv' := [(2, .int (iI (acc + 0))), (0, .ref o), (1, .int (iI wh)), (3, .int (iI i))]) T.1 T.2.1 dX8_count_35 rfl hl (by decide) rfl (fun ls hl => ?_)
          refine xv_iinc T (y := i + 1) (lv' := [(3, .int (iI (i + 1))), (2, .int (iI (acc + 0))), (0, .ref o), (1, .int (iI wh))]) dX8_count_36 hl (q := 3) rfl (by omega) (by decide) rfl (fun ls hl => ?_)
          refine lv_goto T.1 T.2.1 (tgt := 4) dX8_count_39 (by decide) ?_
          exact ih4 (acc + 0) (i + 1) _ _ ls (by omega) (by rw [sumZ_step (by omega), ha]; first | rw [if_pos (by omega)] | rw [if_neg (by omega)]) (by omega) hP hS (lv_sub hl [2, 3, 1, 0] rfl)
        · skip
          refine xv_iconst T dX8_count_29 ?_
          refine lv_goto T.1 T.2.1 (tgt := 34) dX8_count_30 (by decide) ?_
          refine xv_iadd T dX8_count_34 ?_
          refine lv_istore_n (lv' := [(2, .int (iI (acc + 1))), (0, .ref o), (1, .int (iI wh)), (3, .int (iI i))]) T.1 T.2.1 dX8_count_35 rfl hl (by decide) rfl (fun ls hl => ?_)
          refine xv_iinc T (y := i + 1) (lv' := [(3, .int (iI (i + 1))), (2, .int (iI (acc + 1))), (0, .ref o), (1, .int (iI wh))]) dX8_count_36 hl (q := 3) rfl (by omega) (by decide) rfl (fun ls hl => ?_)
          refine lv_goto T.1 T.2.1 (tgt := 4) dX8_count_39 (by decide) ?_
          exact ih4 (acc + 1) (i + 1) _ _ ls (by omega) (by rw [sumZ_step (by omega), ha]; first | rw [if_pos (by omega)] | rw [if_neg (by omega)]) (by omega) hP hS (lv_sub hl [2, 3, 1, 0] rfl)
  exact lp4 61 0 0 _ _ ls (by omega) rfl (by omega) hP hS (lv_sub hl [2, 3, 1, 0] rfl)
set_option maxHeartbeats 4000000 in
set_option maxRecDepth 100000 in
theorem c_X8_worth (l : Launch) (K : KT) (o : Nat) (N B SS TT F : Int → Int) (gd un : Int) (r_gd : -2147483648 ≤ gd ∧ gd ≤ 2147483647) (r_un : -2147483648 ≤ un ∧ un ≤ 2147483647) (hI : Inv N) : CtI l yX8_worth cX8_worth 5 .int 2 53 K [.ref o, .int (iI gd), .int (iI un)] (mW K o N B SS TT F) (NoA) (fun (z : Int) (_ : Unit) => z = qWorth N gd un) (fun _ => mW K o N B SS TT F) := by
  refine CtI_of (by decide) (Nat.le_of_ble_eq_true rfl) ?_
  intro p e s m args below meth c T hr hk hP hK ls hl
  have T : CF p m c cX8_worth 5 s args RX8 := T
  have hS : va_S (NoA) s.heap s.heap [] := va_S.rf
  have hl : lv_has ls 5 [(0, .ref o), (1, .int (iI gd)), (2, .int (iI un))] := hl
  obtain ⟨hI0, hIL, hIH, hIB, hID, hIC, hIG, hIZ, hIF⟩ := id hI
  have hR : InR N := ⟨hI0, hIB⟩
  obtain ⟨b0, b1, b2, b3, b4, b5, b6, b7, b8, b9⟩ := id hI0
  refine lv_aload_n T.1 T.2.1 dX8_worth_0 rfl (lv_at hl 0 rfl) ?_
  refine lv_iload_n T.1 T.2.1 dX8_worth_1 rfl (lv_at hl 1 rfl) ?_
  refine cI_V T hK hP hS 0 rfl rfl rfl (c_X8_isGood l K o N B SS TT F gd (by omega) hI) iX8_isGood mw_4_22 ⟨Nat.le_of_ble_eq_true rfl, Nat.le_of_ble_eq_true rfl⟩ hP noA rfl hl.1 rfl (Nat.le_of_ble_eq_true rfl) ⟨Nat.zero_le _, Nat.zero_le _⟩ dX8_worth_2 (fun z1 _ H1 locs q2 hP1 hg1 hg2 hS => ?_)
  have hP := xP_kept hP hg2
  generalize H1 = H at hP hS ⊢
  clear hg1 hg2 hP1
  rcases q2 with ⟨rfl, q2⟩ | ⟨rfl, q2⟩
  · skip
    refine xv_if_eq T (by omega) (tgt := 18) dX8_worth_5 (by decide) (fun c3 => absurd c3 (by omega)) (fun _ => ?_)
    refine lv_iload_n T.1 T.2.1 dX8_worth_8 rfl (lv_at hl 2 rfl) ?_
    refine xv_iconst T dX8_worth_9 ?_
    refine xv_ldc T mw_4_42 (n := 99999) (by decide +kernel) dX8_worth_10 ?_
    refine cI_S T hK hP hS (c_X8_in l K un 1 99999 (by omega) (by omega) (by omega)) iX8_in mw_4_15 ⟨Nat.le_of_ble_eq_true rfl, Nat.le_of_ble_eq_true rfl⟩ xP_nil noA rfl hl.1 rfl (Nat.le_of_ble_eq_true rfl) ⟨Nat.zero_le _, Nat.zero_le _⟩ dX8_worth_12 (fun z4 _ H1 locs q5 hP1 hg1 hg2 hS => ?_)
    have hP := xP_kept hP hg2
    generalize H1 = H at hP hS ⊢
    clear hg1 hg2 hP1
    rcases q5 with ⟨rfl, q5⟩ | ⟨rfl, q5⟩
    · skip
      refine xv_if_ne T (by omega) (tgt := 20) dX8_worth_15 (by decide) (fun _ => ?_) (fun c6 => absurd c6 (by omega))
      refine lv_aload_n T.1 T.2.1 dX8_worth_20 rfl (lv_at hl 0 rfl) ?_
      refine lv_iload_n T.1 T.2.1 dX8_worth_21 rfl (lv_at hl 1 rfl) ?_
      refine lv_iload_n T.1 T.2.1 dX8_worth_22 rfl (lv_at hl 2 rfl) ?_
      refine cL_V T hK hP hS 0 rfl rfl rfl (c_X8_worthOf l K o N B SS TT F gd un (by omega) (by omega) hR) iX8_worthOf mw_4_127 ⟨Nat.le_of_ble_eq_true rfl, Nat.le_of_ble_eq_true rfl⟩ hP noA rfl hl.1 rfl (Nat.le_of_ble_eq_true rfl) ⟨Nat.zero_le _, Nat.zero_le _⟩ dX8_worth_23 (fun z7 _ H1 locs q8 hP1 hg1 hg2 hS => ?_)
      have hP := xP_kept hP hg2
      generalize H1 = H at hP hS ⊢
      clear hg1 hg2 hP1
      obtain rfl : z7 = worA N gd un := q8
      refine lv_lstore_n (lv' := [(3, .long (lI (worA N gd un))), (0, .ref o), (1, .int (iI gd)), (2, .int (iI un))]) T.1 T.2.1 dX8_worth_26 rfl hl (by decide) rfl (fun ls hl => ?_)
      have hwb := worA_in (N := N) (g := gd) (u := un) hR (by omega)
      refine lv_lload_n T.1 T.2.1 dX8_worth_27 rfl (lv_at hl 0 rfl) ?_
      refine xv_lconst T (z := 0) dX8_worth_28 rfl ?_
      refine xv_lcmp_ge T (tgt := 38) dX8_worth_29 dX8_worth_30 (by decide) (fun c9 => ?_) (fun c9 => ?_)
      · skip
        have c9 := (lI_le (by omega)).mp c9
        refine lv_lload_n T.1 T.2.1 dX8_worth_38 rfl (lv_at hl 0 rfl) ?_
        refine xv_l2i T dX8_worth_39 ?_
        exact rI T (u := ()) hr hk hK hP hS dX8_worth_40 (by unfold qWorth; (repeat' split) <;> first | (exfalso; omega) | rfl)
      · skip
        have c9 : ¬ (0 ≤ worA N gd un) := fun q => c9 ((lI_le (by omega)).mpr q)
        refine xv_bipush T dX8_worth_33 (by omega) ?_
        refine lv_goto T.1 T.2.1 (tgt := 40) dX8_worth_35 (by decide) ?_
        exact rI T (u := ()) hr hk hK hP hS dX8_worth_40 (by unfold qWorth; (repeat' split) <;> first | (exfalso; omega) | rfl)
    · skip
      refine xv_if_ne T (by omega) (tgt := 20) dX8_worth_15 (by decide) (fun c10 => absurd c10 (by omega)) (fun _ => ?_)
      refine xv_iconst T dX8_worth_18 ?_
      exact rI T (u := ()) hr hk hK hP hS dX8_worth_19 (by unfold qWorth; (repeat' split) <;> first | (exfalso; omega) | rfl)
  · skip
    refine xv_if_eq T (by omega) (tgt := 18) dX8_worth_5 (by decide) (fun _ => ?_) (fun c11 => absurd c11 (by omega))
    refine xv_iconst T dX8_worth_18 ?_
    exact rI T (u := ()) hr hk hK hP hS dX8_worth_19 (by unfold qWorth; (repeat' split) <;> first | (exfalso; omega) | rfl)
set_option maxHeartbeats 4000000 in
set_option maxRecDepth 100000 in
theorem c_X8_toPay (l : Launch) (K : KT) (o : Nat) (N B SS TT F : Int → Int) (hI : Inv N) : CtI l yX8_toPay cX8_toPay 4 .int 2 53 K [.ref o] (mW K o N B SS TT F) (NoA) (fun (z : Int) (_ : Unit) => z = qToPay N) (fun _ => mW K o N B SS TT F) := by
  refine CtI_of (by decide) (Nat.le_of_ble_eq_true rfl) ?_
  intro p e s m args below meth c T hr hk hP hK ls hl
  have T : CF p m c cX8_toPay 4 s args RX8 := T
  have hS : va_S (NoA) s.heap s.heap [] := va_S.rf
  have hl : lv_has ls 4 [(0, .ref o)] := hl
  obtain ⟨hI0, hIL, hIH, hIB, hID, hIC, hIG, hIZ, hIF⟩ := id hI
  have hR : InR N := ⟨hI0, hIB⟩
  obtain ⟨b0, b1, b2, b3, b4, b5, b6, b7, b8, b9⟩ := id hI0
  have hcn := cntF_in (N := N) 2 (by omega)
  refine lv_aload_n T.1 T.2.1 dX8_toPay_0 rfl (lv_at hl 0 rfl) ?_
  refine xv_iconst T dX8_toPay_1 ?_
  refine cI_V T hK hP hS 0 rfl rfl rfl (c_X8_lockersThat l K o N B SS TT F 2 (by omega) hI) iX8_lockersThat mw_4_140 ⟨Nat.le_of_ble_eq_true rfl, Nat.le_of_ble_eq_true rfl⟩ hP noA rfl hl.1 rfl (Nat.le_of_ble_eq_true rfl) ⟨Nat.zero_le _, Nat.zero_le _⟩ dX8_toPay_2 (fun z1 _ H1 locs q2 hP1 hg1 hg2 hS => ?_)
  have hP := xP_kept hP hg2
  generalize H1 = H at hP hS ⊢
  clear hg1 hg2 hP1
  obtain rfl : z1 = cntF N 2 := q2
  refine xv_i2l T (by omega) dX8_toPay_5 ?_
  refine lv_aload_n T.1 T.2.1 dX8_toPay_6 rfl (lv_at hl 0 rfl) ?_
  refine g8_now T hK hP 0 rfl rfl mw_3_175 dX8_toPay_7 ?_
  refine xv_iconst T dX8_toPay_10 ?_
  refine xa_iald T hK hP 1 rfl rfl 2 (by omega) (by omega) (by decide) dX8_toPay_11 ?_
  refine xv_i2l T (by omega) dX8_toPay_12 ?_
  refine xv_lmul T dX8_toPay_13 ?_
  refine lv_lstore_n (lv' := [(1, .long (lI ((cntF N 2) * (N 2)))), (0, .ref o)]) T.1 T.2.1 dX8_toPay_14 rfl hl (by decide) rfl (fun ls hl => ?_)
  refine xv_iconst T dX8_toPay_15 ?_
  refine lv_istore_n (lv' := [(3, .int (iI 0)), (1, .long (lI ((cntF N 2) * (N 2)))), (0, .ref o)]) T.1 T.2.1 dX8_toPay_16 rfl hl (by decide) rfl (fun ls hl => ?_)
  have lp17 : ∀ (fuel : Nat) (acc : Int) (i : Int) (H : Heap) (locs : List Loc) (ls : Array Slot), (0 ≤ i ∧ i ≤ N 5) → (acc = cntF N 2 * N 2 + sumZ (fun g => worA N g (sumZ (fun k => N (64 + 8 * k + g)) 5)) i.toNat) → N 5 - i < (fuel : Int) → xP K (mW K o N B SS TT F) H → va_S (NoA) s.heap H locs → lv_has ls 4 [(0, .ref o), (1, .long (lI acc)), (3, .int (iI i))] → W p l e (rmF 2 53) s m args below meth c H locs 0 0 (MQ below (qI K (fun (z : Int) (_ : Unit) => z = qToPay N) (fun _ => mW K o N B SS TT F) (NoA)) args s 0 0 (NoA)) (F0 m 17 ls []) := by
    intro fuel
    induction fuel with
    | zero =>
      intro acc i H locs ls hi ha hm hP hS hl
      exact absurd hm (by omega)
    | succ fuel ih17 =>
      intro acc i H locs ls hi ha hm hP hS hl
      refine lv_iload_n T.1 T.2.1 dX8_toPay_17 rfl (lv_at hl 2 rfl) ?_
      refine lv_aload_n T.1 T.2.1 dX8_toPay_18 rfl (lv_at hl 0 rfl) ?_
      refine g8_now T hK hP 0 rfl rfl mw_3_175 dX8_toPay_19 ?_
      refine xv_iconst T dX8_toPay_22 ?_
      refine xa_iald T hK hP 1 rfl rfl 5 (by omega) (by omega) (by decide) dX8_toPay_23 ?_
      refine xv_icmp_ge T (by omega) (tgt := 48) dX8_toPay_24 (by decide) (fun c3 => ?_) (fun c3 => ?_)
      · skip
        have hdue : acc = payF N := by rw [ha, show i = N 5 by omega]; rfl
        subst hdue
        clear ha
        refine lv_lload_n T.1 T.2.1 dX8_toPay_48 rfl (lv_at hl 1 rfl) ?_
        refine xv_ldc2 T mw_4_43 (n := 2147483647) (by decide +kernel) dX8_toPay_49 ?_
        refine xv_lcmp_le T (tgt := 61) dX8_toPay_52 dX8_toPay_53 (by decide) (fun c4 => ?_) (fun c4 => ?_)
        · skip
          refine lv_lload_n T.1 T.2.1 dX8_toPay_61 rfl (lv_at hl 1 rfl) ?_
          refine xv_l2i T dX8_toPay_62 ?_
          exact rI T (u := ()) hr hk hK hP hS dX8_toPay_63 (by unfold qToPay; first | rw [if_pos (by assumption)] | rw [if_neg (by assumption)])
        · skip
          refine xv_bipush T dX8_toPay_56 (by omega) ?_
          refine lv_goto T.1 T.2.1 (tgt := 63) dX8_toPay_58 (by decide) ?_
          exact rI T (u := ()) hr hk hK hP hS dX8_toPay_63 (by unfold qToPay; first | rw [if_pos (by assumption)] | rw [if_neg (by assumption)])
      · skip
        have hmi := miss_in hI (g := i) (by omega)
        refine lv_lload_n T.1 T.2.1 dX8_toPay_27 rfl (lv_at hl 1 rfl) ?_
        refine lv_aload_n T.1 T.2.1 dX8_toPay_28 rfl (lv_at hl 0 rfl) ?_
        refine lv_iload_n T.1 T.2.1 dX8_toPay_29 rfl (lv_at hl 2 rfl) ?_
        refine lv_aload_n T.1 T.2.1 dX8_toPay_30 rfl (lv_at hl 0 rfl) ?_
        refine xv_bipush T dX8_toPay_31 (by omega) ?_
        refine lv_iload_n T.1 T.2.1 dX8_toPay_33 rfl (lv_at hl 2 rfl) ?_
        refine cI_V T hK hP hS 0 rfl rfl rfl (c_X8_overLockers l K o N B SS TT F 64 i (by omega) (by omega)) iX8_overLockers mw_4_165 ⟨Nat.le_of_ble_eq_true rfl, Nat.le_of_ble_eq_true rfl⟩ hP noA rfl hl.1 rfl (Nat.le_of_ble_eq_true rfl) ⟨Nat.zero_le _, Nat.zero_le _⟩ dX8_toPay_34 (fun z5 _ H1 locs q6 hP1 hg1 hg2 hS => ?_)
        have hP := xP_kept hP hg2
        generalize H1 = H at hP hS ⊢
        clear hg1 hg2 hP1
        obtain rfl : z5 = sumZ (fun k => N (64 + 8 * k + i)) 5 := q6
        refine cL_V T hK hP hS 0 rfl rfl rfl (c_X8_worthOf l K o N B SS TT F i (sumZ (fun k => N (64 + 8 * k + i)) 5) (by omega) (by omega) hR) iX8_worthOf mw_4_127 ⟨Nat.le_of_ble_eq_true rfl, Nat.le_of_ble_eq_true rfl⟩ hP noA rfl hl.1 rfl (Nat.le_of_ble_eq_true rfl) ⟨Nat.zero_le _, Nat.zero_le _⟩ dX8_toPay_37 (fun z7 _ H1 locs q8 hP1 hg1 hg2 hS => ?_)
        have hP := xP_kept hP hg2
        generalize H1 = H at hP hS ⊢
        clear hg1 hg2 hP1
        obtain rfl : z7 = worA N i (sumZ (fun k => N (64 + 8 * k + i)) 5) := q8
        refine xv_ladd T dX8_toPay_40 ?_
        refine lv_lstore_n (lv' := [(1, .long (lI (acc + (worA N i (sumZ (fun k => N (64 + 8 * k + i)) 5))))), (0, .ref o), (3, .int (iI i))]) T.1 T.2.1 dX8_toPay_41 rfl hl (by decide) rfl (fun ls hl => ?_)
        refine xv_iinc T (y := i + 1) (lv' := [(3, .int (iI (i + 1))), (1, .long (lI (acc + (worA N i (sumZ (fun k => N (64 + 8 * k + i)) 5))))), (0, .ref o)]) dX8_toPay_42 hl (q := 2) rfl (by omega) (by decide) rfl (fun ls hl => ?_)
        refine lv_goto T.1 T.2.1 (tgt := 17) dX8_toPay_45 (by decide) ?_
        exact ih17 (acc + (worA N i (sumZ (fun k => N (64 + 8 * k + i)) 5))) (i + 1) _ _ ls (by omega) (by rw [sumZ_step (by omega), ha, Int.add_assoc]) (by omega) hP hS (lv_sub hl [2, 1, 0] rfl)
  exact lp17 9 ((cntF N 2) * (N 2)) 0 _ _ ls (by omega) (Int.add_zero _).symm (by omega) hP hS (lv_sub hl [2, 1, 0] rfl)
set_option maxHeartbeats 4000000 in
set_option maxRecDepth 100000 in
theorem c_X8_runsOut (l : Launch) (K : KT) (o : Nat) (N B SS TT F : Int → Int) (hI : Inv N) : CtI l yX8_runsOut cX8_runsOut 2 .int 1 26 K [.ref o] (mW K o N B SS TT F) (NoA) (fun (z : Int) (_ : Unit) => z = qRunsOut N) (fun _ => mW K o N B SS TT F) := by
  refine CtI_of (by decide) (Nat.le_of_ble_eq_true rfl) ?_
  intro p e s m args below meth c T hr hk hP hK ls hl
  have T : CF p m c cX8_runsOut 2 s args RX8 := T
  have hS : va_S (NoA) s.heap s.heap [] := va_S.rf
  have hl : lv_has ls 2 [(0, .ref o)] := hl
  obtain ⟨hI0, hIL, hIH, hIB, hID, hIC, hIG, hIZ, hIF⟩ := id hI
  have hR : InR N := ⟨hI0, hIB⟩
  obtain ⟨b0, b1, b2, b3, b4, b5, b6, b7, b8, b9⟩ := id hI0
  refine lv_aload_n T.1 T.2.1 dX8_runsOut_0 rfl (lv_at hl 0 rfl) ?_
  refine xv_iconst T dX8_runsOut_1 ?_
  refine xv_iconst T dX8_runsOut_2 ?_
  refine cI_V T hK hP hS 0 rfl rfl rfl (c_X8_nextOf l K o N B SS TT F (-1) (-1) (by omega) (by omega) hR) iX8_nextOf mw_4_72 ⟨Nat.le_of_ble_eq_true rfl, Nat.le_of_ble_eq_true rfl⟩ hP noA rfl hl.1 rfl (Nat.le_of_ble_eq_true rfl) ⟨Nat.zero_le _, Nat.zero_le _⟩ dX8_runsOut_3 (fun bz _ H1 locs qz hP1 hg1 hg2 hS => ?_)
  have hP := xP_kept hP hg2
  generalize H1 = H at hP hS ⊢
  clear hg1 hg2 hP1
  obtain ⟨hz, -⟩ := qz
  subst hz
  have hbo := nxt_or N (-1) (-1)
  refine lv_istore_n (lv' := [(1, .int (iI (nxt N (-1) (-1)))), (0, .ref o)]) T.1 T.2.1 dX8_runsOut_6 rfl hl (by decide) rfl (fun ls hl => ?_)
  refine lv_iload_n T.1 T.2.1 dX8_runsOut_7 rfl (lv_at hl 0 rfl) ?_
  refine xv_if_ge T (by omega) (tgt := 16) dX8_runsOut_8 (by decide) (fun c1 => ?_) (fun c1 => ?_)
  · skip
    refine lv_aload_n T.1 T.2.1 dX8_runsOut_16 rfl (lv_at hl 1 rfl) ?_
    refine g8_now T hK hP 0 rfl rfl mw_3_175 dX8_runsOut_17 ?_
    refine xv_sipush T dX8_runsOut_20 (by omega) ?_
    refine lv_iload_n T.1 T.2.1 dX8_runsOut_23 rfl (lv_at hl 0 rfl) ?_
    refine xv_iadd T dX8_runsOut_24 ?_
    refine xa_iald T hK hP 1 rfl rfl (392 + nxt N (-1) (-1)) (by omega) (by omega) (by decide) dX8_runsOut_25 ?_
    have f2 := hIB (nxt N (-1) (-1)) (by omega) (by omega)
    refine xv_iconst T dX8_runsOut_26 ?_
    refine xv_iadd T dX8_runsOut_27 ?_
    refine lv_aload_n T.1 T.2.1 dX8_runsOut_28 rfl (lv_at hl 1 rfl) ?_
    refine g8_now T hK hP 0 rfl rfl mw_3_175 dX8_runsOut_29 ?_
    refine xv_iconst T dX8_runsOut_32 ?_
    refine xa_iald T hK hP 1 rfl rfl 1 (by omega) (by omega) (by decide) dX8_runsOut_33 ?_
    refine xv_isub T dX8_runsOut_34 ?_
    exact rI T (u := ()) hr hk hK hP hS dX8_runsOut_35 (by unfold qRunsOut; (repeat' split) <;> first | (exfalso; omega) | rfl)
  · skip
    refine xv_bipush T dX8_runsOut_11 (by omega) ?_
    refine lv_goto T.1 T.2.1 (tgt := 35) dX8_runsOut_13 (by decide) ?_
    exact rI T (u := ()) hr hk hK hP hS dX8_runsOut_35 (by unfold qRunsOut; (repeat' split) <;> first | (exfalso; omega) | rfl)
