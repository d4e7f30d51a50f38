set_option maxHeartbeats 4000000 in
set_option maxRecDepth 100000 in
theorem c_X1_spare (l : Launch) (K : KT) (h : Nat) (G : Int → Int) (hG : (0 ≤ G 0 ∧ G 0 ≤ 4) ∧ (0 ≤ G 1 ∧ G 1 ≤ 4)) : CtI l yX1_spare cX1_spare 1 .int 0 0 K [.ref h] (histW K h G) (NoA) (fun (z : Int) (_ : Unit) => z = spF G) (fun _ => histW K h G) := by
  refine CtI_of (by decide) (Nat.le_of_ble_eq_true rfl) ?_
  intro p e s m args below meth c T hr hk hP hK ls hl
  have T : CF p m c cX1_spare 1 s args RX1 := T
  have hS : va_S (NoA) s.heap s.heap [] := va_S.rf
  have hl : lv_has ls 1 [(0, .ref h)] := hl
  refine lv_aload_n T.1 T.2.1 dX1_spare_0 rfl (lv_at hl 0 rfl) ?_
  refine g1_latest T hK hP 0 rfl (v := .int (iI (G 1))) rfl mw_1_189 dX1_spare_1 ?_
  refine xv_iconst T dX1_spare_4 ?_
  refine xv_icmp_ge T (by omega) (tgt := 17) dX1_spare_5 (by decide) (fun c1 => ?_) (fun c1 => ?_)
  · skip
    refine xv_iconst T dX1_spare_17 ?_
    exact rI T (u := ()) hr hk hK hP hS dX1_spare_18 (by unfold spF; first | rw [if_pos (by omega)] | rw [if_neg (by omega)])
  · skip
    refine lv_aload_n T.1 T.2.1 dX1_spare_8 rfl (lv_at hl 0 rfl) ?_
    refine g1_latest T hK hP 0 rfl (v := .int (iI (G 1))) rfl mw_1_189 dX1_spare_9 ?_
    refine xv_iconst T dX1_spare_12 ?_
    refine xv_iadd T dX1_spare_13 ?_
    refine lv_goto T.1 T.2.1 (tgt := 18) dX1_spare_14 (by decide) ?_
    exact rI T (u := ()) hr hk hK hP hS dX1_spare_18 (by unfold spF; first | rw [if_pos (by omega)] | rw [if_neg (by omega)])
set_option maxHeartbeats 4000000 in
set_option maxRecDepth 100000 in
theorem c_X1_finish (l : Launch) (K : KT) (h : Nat) (G : Int → Int) (an : Int) (hG : (0 ≤ G 0 ∧ G 0 ≤ 4) ∧ (0 ≤ G 1 ∧ G 1 ≤ 4)) : CtI l yX1_finish cX1_finish 2 .int 1 21 K [.ref h, .int (iI an)] (histW K h G) (Blk h 2) (fun (z : Int) (u : Int → Int) => z = an ∧ u = fiG G an) (fun u => histW K h u) := by
  refine CtI_of (by decide) (Nat.le_of_ble_eq_true rfl) ?_
  intro p e s m args below meth c T hr hk hP hK ls hl
  have T : CF p m c cX1_finish 2 s args RX1 := T
  have hS : va_S (Blk h 2) s.heap s.heap [] := va_S.rf
  have hl : lv_has ls 2 [(0, .ref h), (1, .int (iI an))] := hl
  have hsp := spF_in hG.2
  refine lv_iload_n T.1 T.2.1 dX1_finish_0 rfl (lv_at hl 1 rfl) ?_
  refine xr_if_lt T (tgt := 26) dX1_finish_1 (by decide) (fun c1 => ?_) (fun c1 => ?_)
  · skip
    refine lv_iload_n T.1 T.2.1 dX1_finish_26 rfl (lv_at hl 1 rfl) ?_
    exact rI T (u := G) hr hk hK hP hS dX1_finish_27 (⟨rfl, by unfold fiG; rw [if_pos (by assumption)]⟩)
  · skip
    refine lv_aload_n T.1 T.2.1 dX1_finish_4 rfl (lv_at hl 0 rfl) ?_
    refine lv_aload_n T.1 T.2.1 dX1_finish_5 rfl (lv_at hl 0 rfl) ?_
    refine cI_V T hK hP hS 0 rfl rfl rfl (c_X1_spare l K h G (by omega)) iX1_spare mw_2_18 ⟨Nat.le_of_ble_eq_true rfl, Nat.le_of_ble_eq_true rfl⟩ hP noA rfl hl.1 rfl (Nat.le_of_ble_eq_true rfl) ⟨Nat.zero_le _, Nat.zero_le _⟩ dX1_finish_6 (fun z2 _ H1 locs q3 hP1 hg1 hg2 hS => ?_)
    have hP := xP_kept hP hg2
    generalize H1 = H at hP hS ⊢
    clear hg1 hg2 hP1
    obtain rfl : z2 = spF G := q3
    refine p1_latest T hK hP (hist_D K h G) hS 0 rfl (Nat.le_of_ble_eq_true rfl) mw_1_189 dX1_finish_9 (hu_G1 K h G (spF G)) (fun H locs hP hS => ?_)
    obtain ⟨Ga, hGa⟩ : ∃ Y0 : Int → Int, Y0 = uZ G 1 (spF G) := ⟨_, rfl⟩
    have hP : xP K (histW K h Ga) H := by rw [hGa]; exact hP
    refine lv_aload_n T.1 T.2.1 dX1_finish_12 rfl (lv_at hl 0 rfl) ?_
    refine lv_aload_n T.1 T.2.1 dX1_finish_13 rfl (lv_at hl 0 rfl) ?_
    refine g1_number T hK hP 0 rfl (v := .int (iI (Ga 0))) rfl mw_1_187 dX1_finish_14 ?_
    refine xv_cv (b := G 0) (by rw [hGa, uZ_ne (by omega)]) ?_
    refine xv_iconst T dX1_finish_17 ?_
    refine xv_iadd T dX1_finish_18 ?_
    refine xv_iconst T dX1_finish_19 ?_
    refine xv_min T mw_2_69 dX1_finish_20 hl.1 (Nat.le_of_ble_eq_true rfl) (Nat.le_of_ble_eq_true rfl) ⟨Nat.zero_le _, Nat.zero_le _⟩ (by omega) (fun mn hmn => ?_)
    have hmnq : mn = if G 0 < 4 then G 0 + 1 else 4 := by split <;> omega
    refine p1_number T hK hP (hist_D K h Ga) hS 0 rfl (Nat.le_of_ble_eq_true rfl) mw_1_187 dX1_finish_23 (hu_G0 K h Ga mn) (fun H locs hP hS => ?_)
    obtain ⟨Gb, hGb⟩ : ∃ Y0 : Int → Int, Y0 = uZ Ga 0 mn := ⟨_, rfl⟩
    have hP : xP K (histW K h Gb) H := by rw [hGb]; exact hP
    refine lv_iload_n T.1 T.2.1 dX1_finish_26 rfl (lv_at hl 1 rfl) ?_
    exact rI T (u := Gb) hr hk hK hP hS dX1_finish_27 (⟨rfl, by unfold fiG; rw [if_neg (by assumption), hGb, hGa, hmnq]⟩)
set_option maxHeartbeats 4000000 in
set_option maxRecDepth 100000 in
theorem c_X3_numbersOf (l : Launch) (K : KT) (ch : Int) (r_ch : 0 ≤ ch ∧ ch ≤ 65535) : CtI l yX3_numbersOf cX3_numbersOf 1 .int 0 0 K [.int (iI ch)] ([]) (NoA) (fun (z : Int) (_ : Unit) => z = nbF ch) (fun _ => []) := by
  refine CtI_of (by decide) (Nat.le_of_ble_eq_true rfl) ?_
  intro p e s m args below meth c T hr hk hP hK ls hl
  have T : CF p m c cX3_numbersOf 1 s args RX3 := T
  have hS : va_S (NoA) s.heap s.heap [] := va_S.rf
  have hl : lv_has ls 1 [(0, .int (iI ch))] := hl
  refine lv_iload_n T.1 T.2.1 dX3_numbersOf_0 rfl (lv_at hl 0 rfl) ?_
  by_cases c1l : ch < 98
  · skip
    refine xv_tableOut T (tgt := 122) (by omega) dX3_numbersOf_1 (by omega) (by decide) ?_
    refine xv_iconst T dX3_numbersOf_122 ?_
    exact rI T (u := ()) hr hk hK hP hS dX3_numbersOf_123 (by unfold nbF; omega)
  by_cases c1h : 122 < ch
  · skip
    refine xv_tableOut T (tgt := 122) (by omega) dX3_numbersOf_1 (by omega) (by decide) ?_
    refine xv_iconst T dX3_numbersOf_122 ?_
    exact rI T (u := ()) hr hk hK hP hS dX3_numbersOf_123 (by unfold nbF; omega)
  have c1_98 : 98 ≤ ch := by omega
  by_cases c1 : ch = 98
  · skip
    refine xv_tableIn T (off := 119) (tgt := 120) 98 c1 (by omega) dX3_numbersOf_1 (by omega) (by omega) (by decide) (by decide) ?_
    refine xv_iconst T dX3_numbersOf_120 ?_
    exact rI T (u := ()) hr hk hK hP hS dX3_numbersOf_121 (by unfold nbF; omega)
  have c1_99 : 99 ≤ ch := by omega
  clear c1 c1_98
  by_cases c1 : ch = 99
  · skip
    refine xv_tableIn T (off := 115) (tgt := 116) 99 c1 (by omega) dX3_numbersOf_1 (by omega) (by omega) (by decide) (by decide) ?_
    refine xv_iconst T dX3_numbersOf_116 ?_
    exact rI T (u := ()) hr hk hK hP hS dX3_numbersOf_117 (by unfold nbF; omega)
  have c1_100 : 100 ≤ ch := by omega
  clear c1 c1_99
  by_cases c1 : ch = 100
  · skip
    refine xv_tableIn T (off := 115) (tgt := 116) 100 c1 (by omega) dX3_numbersOf_1 (by omega) (by omega) (by decide) (by decide) ?_
    refine xv_iconst T dX3_numbersOf_116 ?_
    exact rI T (u := ()) hr hk hK hP hS dX3_numbersOf_117 (by unfold nbF; omega)
  have c1_101 : 101 ≤ ch := by omega
  clear c1 c1_100
  by_cases c1 : ch = 101
  · skip
    refine xv_tableIn T (off := 121) (tgt := 122) 101 c1 (by omega) dX3_numbersOf_1 (by omega) (by omega) (by decide) (by decide) ?_
    refine xv_iconst T dX3_numbersOf_122 ?_
    exact rI T (u := ()) hr hk hK hP hS dX3_numbersOf_123 (by unfold nbF; omega)
  have c1_102 : 102 ≤ ch := by omega
  clear c1 c1_101
  by_cases c1 : ch = 102
  · skip
    refine xv_tableIn T (off := 121) (tgt := 122) 102 c1 (by omega) dX3_numbersOf_1 (by omega) (by omega) (by decide) (by decide) ?_
    refine xv_iconst T dX3_numbersOf_122 ?_
    exact rI T (u := ()) hr hk hK hP hS dX3_numbersOf_123 (by unfold nbF; omega)
  have c1_103 : 103 ≤ ch := by omega
  clear c1 c1_102
  by_cases c1 : ch = 103
  · skip
    refine xv_tableIn T (off := 121) (tgt := 122) 103 c1 (by omega) dX3_numbersOf_1 (by omega) (by omega) (by decide) (by decide) ?_
    refine xv_iconst T dX3_numbersOf_122 ?_
    exact rI T (u := ()) hr hk hK hP hS dX3_numbersOf_123 (by unfold nbF; omega)
  have c1_104 : 104 ≤ ch := by omega
  clear c1 c1_103
  by_cases c1 : ch = 104
  · skip
    refine xv_tableIn T (off := 121) (tgt := 122) 104 c1 (by omega) dX3_numbersOf_1 (by omega) (by omega) (by decide) (by decide) ?_
    refine xv_iconst T dX3_numbersOf_122 ?_
    exact rI T (u := ()) hr hk hK hP hS dX3_numbersOf_123 (by unfold nbF; omega)
  have c1_105 : 105 ≤ ch := by omega
  clear c1 c1_104
  by_cases c1 : ch = 105
  · skip
    refine xv_tableIn T (off := 121) (tgt := 122) 105 c1 (by omega) dX3_numbersOf_1 (by omega) (by omega) (by decide) (by decide) ?_
    refine xv_iconst T dX3_numbersOf_122 ?_
    exact rI T (u := ()) hr hk hK hP hS dX3_numbersOf_123 (by unfold nbF; omega)
  have c1_106 : 106 ≤ ch := by omega
  clear c1 c1_105
  by_cases c1 : ch = 106
  · skip
    refine xv_tableIn T (off := 121) (tgt := 122) 106 c1 (by omega) dX3_numbersOf_1 (by omega) (by omega) (by decide) (by decide) ?_
    refine xv_iconst T dX3_numbersOf_122 ?_
    exact rI T (u := ()) hr hk hK hP hS dX3_numbersOf_123 (by unfold nbF; omega)
  have c1_107 : 107 ≤ ch := by omega
  clear c1 c1_106
  by_cases c1 : ch = 107
  · skip
    refine xv_tableIn T (off := 121) (tgt := 122) 107 c1 (by omega) dX3_numbersOf_1 (by omega) (by omega) (by decide) (by decide) ?_
    refine xv_iconst T dX3_numbersOf_122 ?_
    exact rI T (u := ()) hr hk hK hP hS dX3_numbersOf_123 (by unfold nbF; omega)
  have c1_108 : 108 ≤ ch := by omega
  clear c1 c1_107
  by_cases c1 : ch = 108
  · skip
    refine xv_tableIn T (off := 121) (tgt := 122) 108 c1 (by omega) dX3_numbersOf_1 (by omega) (by omega) (by decide) (by decide) ?_
    refine xv_iconst T dX3_numbersOf_122 ?_
    exact rI T (u := ()) hr hk hK hP hS dX3_numbersOf_123 (by unfold nbF; omega)
  have c1_109 : 109 ≤ ch := by omega
  clear c1 c1_108
  by_cases c1 : ch = 109
  · skip
    refine xv_tableIn T (off := 121) (tgt := 122) 109 c1 (by omega) dX3_numbersOf_1 (by omega) (by omega) (by decide) (by decide) ?_
    refine xv_iconst T dX3_numbersOf_122 ?_
    exact rI T (u := ()) hr hk hK hP hS dX3_numbersOf_123 (by unfold nbF; omega)
  have c1_110 : 110 ≤ ch := by omega
  clear c1 c1_109
  by_cases c1 : ch = 110
  · skip
    refine xv_tableIn T (off := 121) (tgt := 122) 110 c1 (by omega) dX3_numbersOf_1 (by omega) (by omega) (by decide) (by decide) ?_
    refine xv_iconst T dX3_numbersOf_122 ?_
    exact rI T (u := ()) hr hk hK hP hS dX3_numbersOf_123 (by unfold nbF; omega)
  have c1_111 : 111 ≤ ch := by omega
  clear c1 c1_110
  by_cases c1 : ch = 111
  · skip
    refine xv_tableIn T (off := 121) (tgt := 122) 111 c1 (by omega) dX3_numbersOf_1 (by omega) (by omega) (by decide) (by decide) ?_
    refine xv_iconst T dX3_numbersOf_122 ?_
    exact rI T (u := ()) hr hk hK hP hS dX3_numbersOf_123 (by unfold nbF; omega)
  have c1_112 : 112 ≤ ch := by omega
  clear c1 c1_111
  by_cases c1 : ch = 112
  · skip
    refine xv_tableIn T (off := 121) (tgt := 122) 112 c1 (by omega) dX3_numbersOf_1 (by omega) (by omega) (by decide) (by decide) ?_
    refine xv_iconst T dX3_numbersOf_122 ?_
    exact rI T (u := ()) hr hk hK hP hS dX3_numbersOf_123 (by unfold nbF; omega)
  have c1_113 : 113 ≤ ch := by omega
  clear c1 c1_112
  by_cases c1 : ch = 113
  · skip
    refine xv_tableIn T (off := 121) (tgt := 122) 113 c1 (by omega) dX3_numbersOf_1 (by omega) (by omega) (by decide) (by decide) ?_
    refine xv_iconst T dX3_numbersOf_122 ?_
    exact rI T (u := ()) hr hk hK hP hS dX3_numbersOf_123 (by unfold nbF; omega)
  have c1_114 : 114 ≤ ch := by omega
  clear c1 c1_113
  by_cases c1 : ch = 114
  · skip
    refine xv_tableIn T (off := 117) (tgt := 118) 114 c1 (by omega) dX3_numbersOf_1 (by omega) (by omega) (by decide) (by decide) ?_
    refine xv_iconst T dX3_numbersOf_118 ?_
    exact rI T (u := ()) hr hk hK hP hS dX3_numbersOf_119 (by unfold nbF; omega)
  have c1_115 : 115 ≤ ch := by omega
  clear c1 c1_114
  by_cases c1 : ch = 115
  · skip
    refine xv_tableIn T (off := 121) (tgt := 122) 115 c1 (by omega) dX3_numbersOf_1 (by omega) (by omega) (by decide) (by decide) ?_
    refine xv_iconst T dX3_numbersOf_122 ?_
    exact rI T (u := ()) hr hk hK hP hS dX3_numbersOf_123 (by unfold nbF; omega)
  have c1_116 : 116 ≤ ch := by omega
  clear c1 c1_115
  by_cases c1 : ch = 116
  · skip
    refine xv_tableIn T (off := 115) (tgt := 116) 116 c1 (by omega) dX3_numbersOf_1 (by omega) (by omega) (by decide) (by decide) ?_
    refine xv_iconst T dX3_numbersOf_116 ?_
    exact rI T (u := ()) hr hk hK hP hS dX3_numbersOf_117 (by unfold nbF; omega)
  have c1_117 : 117 ≤ ch := by omega
  clear c1 c1_116
  by_cases c1 : ch = 117
  · skip
    refine xv_tableIn T (off := 117) (tgt := 118) 117 c1 (by omega) dX3_numbersOf_1 (by omega) (by omega) (by decide) (by decide) ?_
    refine xv_iconst T dX3_numbersOf_118 ?_
    exact rI T (u := ()) hr hk hK hP hS dX3_numbersOf_119 (by unfold nbF; omega)
  have c1_118 : 118 ≤ ch := by omega
  clear c1 c1_117
  by_cases c1 : ch = 118
  · skip
    refine xv_tableIn T (off := 121) (tgt := 122) 118 c1 (by omega) dX3_numbersOf_1 (by omega) (by omega) (by decide) (by decide) ?_
    refine xv_iconst T dX3_numbersOf_122 ?_
    exact rI T (u := ()) hr hk hK hP hS dX3_numbersOf_123 (by unfold nbF; omega)
  have c1_119 : 119 ≤ ch := by omega
  clear c1 c1_118
  by_cases c1 : ch = 119
  · skip
    refine xv_tableIn T (off := 121) (tgt := 122) 119 c1 (by omega) dX3_numbersOf_1 (by omega) (by omega) (by decide) (by decide) ?_
    refine xv_iconst T dX3_numbersOf_122 ?_
    exact rI T (u := ()) hr hk hK hP hS dX3_numbersOf_123 (by unfold nbF; omega)
  have c1_120 : 120 ≤ ch := by omega
  clear c1 c1_119
  by_cases c1 : ch = 120
  · skip
    refine xv_tableIn T (off := 121) (tgt := 122) 120 c1 (by omega) dX3_numbersOf_1 (by omega) (by omega) (by decide) (by decide) ?_
    refine xv_iconst T dX3_numbersOf_122 ?_
    exact rI T (u := ()) hr hk hK hP hS dX3_numbersOf_123 (by unfold nbF; omega)
  have c1_121 : 121 ≤ ch := by omega
  clear c1 c1_120
  by_cases c1 : ch = 121
  · skip
    refine xv_tableIn T (off := 121) (tgt := 122) 121 c1 (by omega) dX3_numbersOf_1 (by omega) (by omega) (by decide) (by decide) ?_
    refine xv_iconst T dX3_numbersOf_122 ?_
    exact rI T (u := ()) hr hk hK hP hS dX3_numbersOf_123 (by unfold nbF; omega)
  have c1_122 : 122 ≤ ch := by omega
  clear c1 c1_121
  have c1 : ch = 122 := by omega
  refine xv_tableIn T (off := 115) (tgt := 116) 122 c1 (by omega) dX3_numbersOf_1 (by omega) (by omega) (by decide) (by decide) ?_
  refine xv_iconst T dX3_numbersOf_116 ?_
  exact rI T (u := ()) hr hk hK hP hS dX3_numbersOf_117 (by unfold nbF; omega)
set_option maxHeartbeats 4000000 in
set_option maxRecDepth 100000 in
theorem c_X3_append (l : Launch) (K : KT) (g : Nat) (L NU TT : Int → Int) (ch : Int) (r_ch : -2147483648 ≤ ch ∧ ch ≤ 2147483647) (hL0 : 0 ≤ L 0 ∧ L 0 ≤ 80) (hT : TxT TT (L 0)) : CtI l yX3_append cX3_append 2 .int 0 0 K [.ref g, .int (iI ch)] (logW K g L NU TT) (Blk g 3) (fun (z : Int) (u : (Int → Int) × (Int → Int)) => (¬ (32 ≤ ch ∧ ch ≤ 126) ∧ z = -1 ∧ u = (L, TT)) ∨ ((32 ≤ ch ∧ ch ≤ 126) ∧ L 0 = 80 ∧ z = -3 ∧ u = (L, TT)) ∨ ((32 ≤ ch ∧ ch ≤ 126) ∧ L 0 ≠ 80 ∧ z = L 0 + 1 ∧ u = (uZ L 0 (L 0 + 1), uZ TT (L 0) ch))) (fun u => logW K g u.1 NU u.2) := by
  refine CtI_of (by decide) (Nat.le_of_ble_eq_true rfl) ?_
  intro p e s m args below meth c T hr hk hP hK ls hl
  have T : CF p m c cX3_append 2 s args RX3 := T
  have hS : va_S (Blk g 3) s.heap s.heap [] := va_S.rf
  have hl : lv_has ls 2 [(0, .ref g), (1, .int (iI ch))] := hl
  refine lv_iload_n T.1 T.2.1 dX3_append_0 rfl (lv_at hl 1 rfl) ?_
  refine xv_bipush T dX3_append_1 (by omega) ?_
  refine xv_icmp_lt T (by omega) (tgt := 12) dX3_append_3 (by decide) (fun c1 => ?_) (fun c1 => ?_)
  · skip
    refine xv_iconst T dX3_append_12 ?_
    exact rI T (u := (L, TT)) hr hk hK hP hS dX3_append_13 (by first | exact Or.inl ⟨by omega, rfl, rfl⟩ | exact Or.inr (Or.inl ⟨by omega, by omega, rfl, rfl⟩))
  · skip
    refine lv_iload_n T.1 T.2.1 dX3_append_6 rfl (lv_at hl 1 rfl) ?_
    refine xv_bipush T dX3_append_7 (by omega) ?_
    refine xv_icmp_le T (by omega) (tgt := 14) dX3_append_9 (by decide) (fun c2 => ?_) (fun c2 => ?_)
    · skip
      refine lv_aload_n T.1 T.2.1 dX3_append_14 rfl (lv_at hl 0 rfl) ?_
      refine g3_length T hK hP 0 rfl (v := .int (iI (L 0))) rfl mw_1_204 dX3_append_15 ?_
      refine xv_bipush T dX3_append_18 (by omega) ?_
      refine xv_icmp_lt T (by omega) (tgt := 26) dX3_append_20 (by decide) (fun c3 => ?_) (fun c3 => ?_)
      · skip
        refine lv_aload_n T.1 T.2.1 dX3_append_26 rfl (lv_at hl 0 rfl) ?_
        refine g3_signs T hK hP 0 rfl rfl mw_1_216 dX3_append_27 ?_
        refine lv_aload_n T.1 T.2.1 dX3_append_30 rfl (lv_at hl 0 rfl) ?_
        refine g3_length T hK hP 0 rfl (v := .int (iI (L 0))) rfl mw_1_204 dX3_append_31 ?_
        refine lv_iload_n T.1 T.2.1 dX3_append_34 rfl (lv_at hl 1 rfl) ?_
        refine xv_i2c T (by omega) dX3_append_35 ?_
        refine xa_cast T hK hP (log_D K g L NU TT) hS 2 rfl rfl (by omega) (by omega) (by decide) dX3_append_36 (lu_TT K g L NU TT ch (by omega)) (fun H locs hP hS => ?_)
        obtain ⟨TT4, hTT4⟩ : ∃ Y0 : Int → Int, Y0 = uZ TT (L 0) ch := ⟨_, rfl⟩
        have hP : xP K (logW K g L NU TT4) H := by rw [hTT4]; exact hP
        refine lv_aload_n T.1 T.2.1 dX3_append_37 rfl (lv_at hl 0 rfl) ?_
        refine lv_dup T.1 T.2.1 dX3_append_38 rfl ?_
        refine g3_length T hK hP 0 rfl (v := .int (iI (L 0))) rfl mw_1_204 dX3_append_39 ?_
        refine xv_iconst T dX3_append_42 ?_
        refine xv_iadd T dX3_append_43 ?_
        refine p3_length T hK hP (log_D K g L NU TT4) hS 0 rfl (Nat.le_of_ble_eq_true rfl) mw_1_204 dX3_append_44 (lu_L0 K g L NU TT4 (L 0 + 1)) (fun H locs hP hS => ?_)
        obtain ⟨L5, hL5⟩ : ∃ Y0 : Int → Int, Y0 = uZ L 0 (L 0 + 1) := ⟨_, rfl⟩
        have hP : xP K (logW K g L5 NU TT4) H := by rw [hL5]; exact hP
        refine lv_aload_n T.1 T.2.1 dX3_append_47 rfl (lv_at hl 0 rfl) ?_
        refine g3_length T hK hP 0 rfl (v := .int (iI (L5 0))) rfl mw_1_204 dX3_append_48 ?_
        refine xv_cv (b := L 0 + 1) (by rw [hL5, uZ_eq]) ?_
        exact rI T (u := (L5, TT4)) hr hk hK hP hS dX3_append_51 (Or.inr (Or.inr ⟨by omega, by omega, rfl, by rw [hL5, hTT4]⟩))
      · skip
        refine xv_bipush T dX3_append_23 (by omega) ?_
        exact rI T (u := (L, TT)) hr hk hK hP hS dX3_append_25 (by first | exact Or.inl ⟨by omega, rfl, rfl⟩ | exact Or.inr (Or.inl ⟨by omega, by omega, rfl, rfl⟩))
    · skip
      refine xv_iconst T dX3_append_12 ?_
      exact rI T (u := (L, TT)) hr hk hK hP hS dX3_append_13 (by first | exact Or.inl ⟨by omega, rfl, rfl⟩ | exact Or.inr (Or.inl ⟨by omega, by omega, rfl, rfl⟩))
set_option maxHeartbeats 4000000 in
set_option maxRecDepth 100000 in
theorem c_X3_noteFault (l : Launch) (K : KT) (g : Nat) (L NU TT : Int → Int) (st re ca : Int) : CtV l yX3_noteFault cX3_noteFault 4 0 0 K [.ref g, .int (iI st), .int (iI re), .int (iI ca)] (logW K g L NU TT) (Blk g 3) (fun (u : Int → Int) => u = uZ (uZ (uZ L 1 st) 2 re) 3 ca) (fun u => logW K g u NU TT) := by
  refine CtV_of (by decide) (Nat.le_of_ble_eq_true rfl) ?_
  intro p e s m args below meth c T hr hk hP hK ls hl
  have T : CF p m c cX3_noteFault 4 s args RX3 := T
  have hS : va_S (Blk g 3) s.heap s.heap [] := va_S.rf
  have hl : lv_has ls 4 [(0, .ref g), (1, .int (iI st)), (2, .int (iI re)), (3, .int (iI ca))] := hl
  refine lv_aload_n T.1 T.2.1 dX3_noteFault_0 rfl (lv_at hl 0 rfl) ?_
  refine lv_iload_n T.1 T.2.1 dX3_noteFault_1 rfl (lv_at hl 1 rfl) ?_
  refine p3_faultPosition T hK hP (log_D K g L NU TT) hS 0 rfl (Nat.le_of_ble_eq_true rfl) mw_1_206 dX3_noteFault_2 (lu_L1 K g L NU TT st) (fun H locs hP hS => ?_)
  obtain ⟨L1, hL1⟩ : ∃ Y0 : Int → Int, Y0 = uZ L 1 st := ⟨_, rfl⟩
  have hP : xP K (logW K g L1 NU TT) H := by rw [hL1]; exact hP
  refine lv_aload_n T.1 T.2.1 dX3_noteFault_5 rfl (lv_at hl 0 rfl) ?_
  refine lv_iload_n T.1 T.2.1 dX3_noteFault_6 rfl (lv_at hl 2 rfl) ?_
  refine p3_faultReason T hK hP (log_D K g L1 NU TT) hS 0 rfl (Nat.le_of_ble_eq_true rfl) mw_1_208 dX3_noteFault_7 (lu_L2 K g L1 NU TT re) (fun H locs hP hS => ?_)
  obtain ⟨L2, hL2⟩ : ∃ Y0 : Int → Int, Y0 = uZ L1 2 re := ⟨_, rfl⟩
  have hP : xP K (logW K g L2 NU TT) H := by rw [hL2]; exact hP
  refine lv_aload_n T.1 T.2.1 dX3_noteFault_10 rfl (lv_at hl 0 rfl) ?_
  refine lv_iload_n T.1 T.2.1 dX3_noteFault_11 rfl (lv_at hl 3 rfl) ?_
  refine p3_faultCause T hK hP (log_D K g L2 NU TT) hS 0 rfl (Nat.le_of_ble_eq_true rfl) mw_1_210 dX3_noteFault_12 (lu_L3 K g L2 NU TT ca) (fun H locs hP hS => ?_)
  obtain ⟨L3, hL3⟩ : ∃ Y0 : Int → Int, Y0 = uZ L2 3 ca := ⟨_, rfl⟩
  have hP : xP K (logW K g L3 NU TT) H := by rw [hL3]; exact hP
  exact rV T (u := L3) hr hk hK hP hS dX3_noteFault_15 (by rw [hL3, hL2, hL1])
set_option maxHeartbeats 4000000 in
set_option maxRecDepth 100000 in
theorem c_X3_readSign (l : Launch) (K : KT) (g : Nat) (L NU TT : Int → Int) (F : Int → Int) (sg : Int) (r_sg : 1 ≤ sg ∧ sg ≤ 126) (hL0 : 0 ≤ L 0 ∧ L 0 ≤ 80) (hL5 : 0 ≤ L 5 ∧ L 5 ≤ 1000) (hT : TxT TT (L 0)) (hF : F 2 = L 0 ∧ F 3 = L 5 ∧ F 4 = 1) : CtI l yX3_readSign cX3_readSign 2 .boolean 0 0 K [.ref g, .int (iI sg)] (logW K g L NU TT) (Blk g 3) (fun (z : Int) (u : Int → Int) => (z = 1 ∧ psF TT F sg 4 = 1 ∧ u = uZ L 5 (psF TT F sg 3)) ∨ (z = 0 ∧ psF TT F sg 4 = 0 ∧ u = L)) (fun u => logW K g u NU TT) := by
  refine CtI_of (by decide) (Nat.le_of_ble_eq_true rfl) ?_
  intro p e s m args below meth c T hr hk hP hK ls hl
  have T : CF p m c cX3_readSign 2 s args RX3 := T
  have hS : va_S (Blk g 3) s.heap s.heap [] := va_S.rf
  have hl : lv_has ls 2 [(0, .ref g), (1, .int (iI sg))] := hl
  refine lv_aload_n T.1 T.2.1 dX3_readSign_0 rfl (lv_at hl 0 rfl) ?_
  refine g3_position T hK hP 0 rfl (v := .int (iI (L 5))) rfl mw_1_213 dX3_readSign_1 ?_
  refine lv_aload_n T.1 T.2.1 dX3_readSign_4 rfl (lv_at hl 0 rfl) ?_
  refine g3_length T hK hP 0 rfl (v := .int (iI (L 0))) rfl mw_1_204 dX3_readSign_5 ?_
  refine xv_icmp_ge T (by omega) (tgt := 24) dX3_readSign_8 (by decide) (fun c1 => ?_) (fun c1 => ?_)
  · skip
    refine xv_iconst T dX3_readSign_24 ?_
    exact rB T (u := L) hr hk hK hP hS (by omega) dX3_readSign_25 (Or.inr ⟨rfl, psF_n (by rw [hF.1, hF.2.1]; first | (rw [hereF_in (by omega)]; omega) | (rw [hereF_out (by omega)]; omega)), rfl⟩)
  · skip
    refine lv_aload_n T.1 T.2.1 dX3_readSign_11 rfl (lv_at hl 0 rfl) ?_
    refine g3_signs T hK hP 0 rfl rfl mw_1_216 dX3_readSign_12 ?_
    have ht := hT (L 5) (by omega) (by omega)
    refine lv_aload_n T.1 T.2.1 dX3_readSign_15 rfl (lv_at hl 0 rfl) ?_
    refine g3_position T hK hP 0 rfl (v := .int (iI (L 5))) rfl mw_1_213 dX3_readSign_16 ?_
    refine xa_cald T hK hP 2 rfl rfl (L 5) (by omega) (by omega) (by decide) dX3_readSign_19 ?_
    refine lv_iload_n T.1 T.2.1 dX3_readSign_20 rfl (lv_at hl 1 rfl) ?_
    refine xv_icmp_eq T (by omega) (tgt := 26) dX3_readSign_21 (by decide) (fun c2 => ?_) (fun c2 => ?_)
    · skip
      refine lv_aload_n T.1 T.2.1 dX3_readSign_26 rfl (lv_at hl 0 rfl) ?_
      refine lv_dup T.1 T.2.1 dX3_readSign_27 rfl ?_
      refine g3_position T hK hP 0 rfl (v := .int (iI (L 5))) rfl mw_1_213 dX3_readSign_28 ?_
      refine xv_iconst T dX3_readSign_31 ?_
      refine xv_iadd T dX3_readSign_32 ?_
      refine p3_position T hK hP (log_D K g L NU TT) hS 0 rfl (Nat.le_of_ble_eq_true rfl) mw_1_213 dX3_readSign_33 (lu_L5 K g L NU TT (L 5 + 1)) (fun H locs hP hS => ?_)
      obtain ⟨L3, hL3⟩ : ∃ Y0 : Int → Int, Y0 = uZ L 5 (L 5 + 1) := ⟨_, rfl⟩
      have hP : xP K (logW K g L3 NU TT) H := by rw [hL3]; exact hP
      refine xv_iconst T dX3_readSign_36 ?_
      exact rB T (u := L3) hr hk hK hP hS (by omega) dX3_readSign_37 (Or.inl ⟨rfl, (psF_y hF.2.2 (by rw [hF.1, hF.2.1, hereF_in (by omega)]; omega)).1, by rw [hL3, (psF_y (TT := TT) (sg := sg) hF.2.2 (by rw [hF.1, hF.2.1, hereF_in (by omega)]; omega)).2, hF.2.1]⟩)
    · skip
      refine xv_iconst T dX3_readSign_24 ?_
      exact rB T (u := L) hr hk hK hP hS (by omega) dX3_readSign_25 (Or.inr ⟨rfl, psF_n (by rw [hF.1, hF.2.1]; first | (rw [hereF_in (by omega)]; omega) | (rw [hereF_out (by omega)]; omega)), rfl⟩)
set_option maxHeartbeats 4000000 in
set_option maxRecDepth 100000 in
theorem c_X3_readNumber (l : Launch) (K : KT) (g : Nat) (L NU TT : Int → Int) (F : Int → Int) (ix : Int) (r_ix : 0 ≤ ix ∧ ix < 4) (hL0 : 0 ≤ L 0 ∧ L 0 ≤ 80) (hL5 : 0 ≤ L 5 ∧ L 5 ≤ 1000) (hT : TxT TT (L 0)) (hF : F 2 = L 0 ∧ F 3 = L 5 ∧ F 4 = 1) : CtI l yX3_readNumber cX3_readNumber 4 .boolean 0 0 K [.ref g, .int (iI ix)] (logW K g L NU TT) (Blk g 3) (fun (z : Int) (u : (Int → Int) × (Int → Int)) => (z = 1 ∧ (numP TT F).2 4 = 1 ∧ u = (uZ L 5 ((numP TT F).2 3), uZ NU ix (numP TT F).1)) ∨ (z = 0 ∧ (numP TT F).2 4 = 0 ∧ u = (uZ L 5 ((numP TT F).2 3), uZ NU ix (numP TT F).1))) (fun u => logW K g u.1 u.2 TT) := by
  refine CtI_of (by decide) (Nat.le_of_ble_eq_true rfl) ?_
  intro p e s m args below meth c T hr hk hP hK ls hl
  have T : CF p m c cX3_readNumber 4 s args RX3 := T
  have hS : va_S (Blk g 3) s.heap s.heap [] := va_S.rf
  have hl : lv_has ls 4 [(0, .ref g), (1, .int (iI ix))] := hl
  refine xv_iconst T dX3_readNumber_0 ?_
  refine lv_istore_n (lv' := [(2, .int (iI 0)), (0, .ref g), (1, .int (iI ix))]) T.1 T.2.1 dX3_readNumber_1 rfl hl (by decide) rfl (fun ls hl => ?_)
  refine xv_iconst T dX3_readNumber_2 ?_
  refine lv_istore_n (lv' := [(3, .int (iI 0)), (2, .int (iI 0)), (0, .ref g), (1, .int (iI ix))]) T.1 T.2.1 dX3_readNumber_3 rfl hl (by decide) rfl (fun ls hl => ?_)
  have lp4 : ∀ (fuel : Nat) (v : Int) (fig : Int) (pp : Int) (LL : Int → Int) (H : Heap) (locs : List Loc) (ls : Array Slot), (0 ≤ fig ∧ fig ≤ 4) → (0 ≤ pp ∧ pp ≤ L 5 + fig) → (LL = uZ L 5 pp) → (nuF 4 TT (L 0) 0 0 (L 5) = nuF (4 - fig).toNat TT (L 0) v fig pp) → 4 - fig < (fuel : Int) → xP K (logW K g LL NU TT) H → va_S (Blk g 3) s.heap H locs → lv_has ls 4 [(0, .ref g), (1, .int (iI ix)), (2, .int (iI v)), (3, .int (iI fig))] → W p l e (rmF 0 0) s m args below meth c H locs 0 0 (MQ below (qI K (fun (z : Int) (u : (Int → Int) × (Int → Int)) => (z = 1 ∧ (numP TT F).2 4 = 1 ∧ u = (uZ L 5 ((numP TT F).2 3), uZ NU ix (numP TT F).1)) ∨ (z = 0 ∧ (numP TT F).2 4 = 0 ∧ u = (uZ L 5 ((numP TT F).2 3), uZ NU ix (numP TT F).1))) (fun u => logW K g u.1 u.2 TT) (Blk g 3)) args s 0 0 (Blk g 3)) (F0 m 4 ls []) := by
    intro fuel
    induction fuel with
    | zero =>
      intro v fig pp LL H locs ls hfg hpp hLL hq hm hP hS hl
      exact absurd hm (by omega)
    | succ fuel ih4 =>
      intro v fig pp LL H locs ls hfg hpp hLL hq hm hP hS hl
      have jn82 : ∀ (H : Heap) (locs : List Loc) (ls : Array Slot), (nuF 4 TT (L 0) 0 0 (L 5) = (v, fig, pp)) → xP K (logW K g LL NU TT) H → va_S (Blk g 3) s.heap H locs → lv_has ls 4 [(0, .ref g), (1, .int (iI ix)), (2, .int (iI v)), (3, .int (iI fig))] → W p l e (rmF 0 0) s m args below meth c H locs 0 0 (MQ below (qI K (fun (z : Int) (u : (Int → Int) × (Int → Int)) => (z = 1 ∧ (numP TT F).2 4 = 1 ∧ u = (uZ L 5 ((numP TT F).2 3), uZ NU ix (numP TT F).1)) ∨ (z = 0 ∧ (numP TT F).2 4 = 0 ∧ u = (uZ L 5 ((numP TT F).2 3), uZ NU ix (numP TT F).1))) (fun u => logW K g u.1 u.2 TT) (Blk g 3)) args s 0 0 (Blk g 3)) (F0 m 82 ls []) := by
        intro  H locs ls hend hP hS hl
        refine lv_aload_n T.1 T.2.1 dX3_readNumber_82 rfl (lv_at hl 0 rfl) ?_
        refine g3_numbers T hK hP 0 rfl rfl mw_1_215 dX3_readNumber_83 ?_
        refine lv_iload_n T.1 T.2.1 dX3_readNumber_86 rfl (lv_at hl 1 rfl) ?_
        refine lv_iload_n T.1 T.2.1 dX3_readNumber_87 rfl (lv_at hl 2 rfl) ?_
        refine xa_iast T hK hP (log_D K g LL NU TT) hS 1 rfl rfl (by omega) (by decide) dX3_readNumber_88 (lu_NU K g LL NU TT v (by omega)) (fun H locs hP hS => ?_)
        obtain ⟨NM, hNM⟩ : ∃ Y0 : Int → Int, Y0 = uZ NU ix v := ⟨_, rfl⟩
        have hP : xP K (logW K g LL NM TT) H := by rw [hNM]; exact hP
        refine lv_iload_n T.1 T.2.1 dX3_readNumber_89 rfl (lv_at hl 3 rfl) ?_
        refine xv_if_le T (by omega) (tgt := 97) dX3_readNumber_90 (by decide) (fun c1 => ?_) (fun c1 => ?_)
        · skip
          refine xv_iconst T dX3_readNumber_97 ?_
          exact rB T (u := (LL, NM)) hr hk hK hP hS (by omega) dX3_readNumber_98 (Or.inr ⟨rfl, by unfold numP; rw [hF.1, hF.2.1, hend]; dsimp only; rw [uZ_eq, if_neg (by omega)], by unfold numP; rw [hF.1, hF.2.1, hend]; dsimp only; rw [uZ_ne (by omega), uZ_eq, hNM, hLL]⟩)
        · skip
          refine xv_iconst T dX3_readNumber_93 ?_
          refine lv_goto T.1 T.2.1 (tgt := 98) dX3_readNumber_94 (by decide) ?_
          exact rB T (u := (LL, NM)) hr hk hK hP hS (by omega) dX3_readNumber_98 (Or.inl ⟨rfl, by unfold numP; rw [hF.1, hF.2.1, hend]; dsimp only; rw [uZ_eq, if_pos (by omega)], by unfold numP; rw [hF.1, hF.2.1, hend]; dsimp only; rw [uZ_ne (by omega), uZ_eq, hNM, hLL]⟩)
      refine lv_iload_n T.1 T.2.1 dX3_readNumber_4 rfl (lv_at hl 3 rfl) ?_
      refine xv_iconst T dX3_readNumber_5 ?_
      refine xv_icmp_ge T (by omega) (tgt := 82) dX3_readNumber_6 (by decide) (fun c2 => ?_) (fun c2 => ?_)
      · skip
        exact jn82  _ _ ls (by rw [hq]; refine nuF_e ?_; first | exact Or.inl (by omega) | exact Or.inr (by first | (rw [hereF_in (by omega)]; omega) | (rw [hereF_out (by omega)]; omega))) hP hS (lv_sub hl [0, 1, 2, 3] rfl)
      · skip
        refine lv_aload_n T.1 T.2.1 dX3_readNumber_9 rfl (lv_at hl 0 rfl) ?_
        refine g3_position T hK hP 0 rfl (v := .int (iI (LL 5))) rfl mw_1_213 dX3_readNumber_10 ?_
        refine xv_cv (b := pp) (by rw [hLL, uZ_eq]) ?_
        refine lv_aload_n T.1 T.2.1 dX3_readNumber_13 rfl (lv_at hl 0 rfl) ?_
        refine g3_length T hK hP 0 rfl (v := .int (iI (LL 0))) rfl mw_1_204 dX3_readNumber_14 ?_
        refine xv_cv (b := L 0) (by rw [hLL, uZ_ne (by omega)]) ?_
        refine xv_icmp_ge T (by omega) (tgt := 82) dX3_readNumber_17 (by decide) (fun c3 => ?_) (fun c3 => ?_)
        · skip
          exact jn82  _ _ ls (by rw [hq]; refine nuF_e ?_; first | exact Or.inl (by omega) | exact Or.inr (by first | (rw [hereF_in (by omega)]; omega) | (rw [hereF_out (by omega)]; omega))) hP hS (lv_sub hl [0, 1, 2, 3] rfl)
        · skip
          have ht := hT pp (by omega) (by omega)
          refine lv_aload_n T.1 T.2.1 dX3_readNumber_20 rfl (lv_at hl 0 rfl) ?_
          refine g3_signs T hK hP 0 rfl rfl mw_1_216 dX3_readNumber_21 ?_
          refine lv_aload_n T.1 T.2.1 dX3_readNumber_24 rfl (lv_at hl 0 rfl) ?_
          refine g3_position T hK hP 0 rfl (v := .int (iI (LL 5))) rfl mw_1_213 dX3_readNumber_25 ?_
          refine xv_cv (b := pp) (by rw [hLL, uZ_eq]) ?_
          refine xa_cald T hK hP 2 rfl rfl pp (by omega) (by omega) (by decide) dX3_readNumber_28 ?_
          refine xv_bipush T dX3_readNumber_29 (by omega) ?_
          refine xv_icmp_lt T (by omega) (tgt := 82) dX3_readNumber_31 (by decide) (fun c4 => ?_) (fun c4 => ?_)
          · skip
            exact jn82  _ _ ls (by rw [hq]; refine nuF_e ?_; first | exact Or.inl (by omega) | exact Or.inr (by first | (rw [hereF_in (by omega)]; omega) | (rw [hereF_out (by omega)]; omega))) hP hS (lv_sub hl [0, 1, 2, 3] rfl)
          · skip
            refine lv_aload_n T.1 T.2.1 dX3_readNumber_34 rfl (lv_at hl 0 rfl) ?_
            refine g3_signs T hK hP 0 rfl rfl mw_1_216 dX3_readNumber_35 ?_
            refine lv_aload_n T.1 T.2.1 dX3_readNumber_38 rfl (lv_at hl 0 rfl) ?_
            refine g3_position T hK hP 0 rfl (v := .int (iI (LL 5))) rfl mw_1_213 dX3_readNumber_39 ?_
            refine xv_cv (b := pp) (by rw [hLL, uZ_eq]) ?_
            refine xa_cald T hK hP 2 rfl rfl pp (by omega) (by omega) (by decide) dX3_readNumber_42 ?_
            refine xv_bipush T dX3_readNumber_43 (by omega) ?_
            refine xv_icmp_gt T (by omega) (tgt := 82) dX3_readNumber_45 (by decide) (fun c5 => ?_) (fun c5 => ?_)
            · skip
              exact jn82  _ _ ls (by rw [hq]; refine nuF_e ?_; first | exact Or.inl (by omega) | exact Or.inr (by first | (rw [hereF_in (by omega)]; omega) | (rw [hereF_out (by omega)]; omega))) hP hS (lv_sub hl [0, 1, 2, 3] rfl)
            · skip
              refine lv_iload_n T.1 T.2.1 dX3_readNumber_48 rfl (lv_at hl 2 rfl) ?_
              refine xv_bipush T dX3_readNumber_49 (by omega) ?_
              refine xv_imul T dX3_readNumber_51 ?_
              refine lv_aload_n T.1 T.2.1 dX3_readNumber_52 rfl (lv_at hl 0 rfl) ?_
              refine g3_signs T hK hP 0 rfl rfl mw_1_216 dX3_readNumber_53 ?_
              refine lv_aload_n T.1 T.2.1 dX3_readNumber_56 rfl (lv_at hl 0 rfl) ?_
              refine g3_position T hK hP 0 rfl (v := .int (iI (LL 5))) rfl mw_1_213 dX3_readNumber_57 ?_
              refine xv_cv (b := pp) (by rw [hLL, uZ_eq]) ?_
              refine xa_cald T hK hP 2 rfl rfl pp (by omega) (by omega) (by decide) dX3_readNumber_60 ?_
              refine xv_iadd T dX3_readNumber_61 ?_
              refine xv_bipush T dX3_readNumber_62 (by omega) ?_
              refine xv_isub T dX3_readNumber_64 ?_
              refine lv_istore_n (lv' := [(2, .int (iI (v * 10 + (TT pp) - 48))), (0, .ref g), (1, .int (iI ix)), (3, .int (iI fig))]) T.1 T.2.1 dX3_readNumber_65 rfl hl (by decide) rfl (fun ls hl => ?_)
              refine lv_aload_n T.1 T.2.1 dX3_readNumber_66 rfl (lv_at hl 1 rfl) ?_
              refine lv_dup T.1 T.2.1 dX3_readNumber_67 rfl ?_
              refine g3_position T hK hP 0 rfl (v := .int (iI (LL 5))) rfl mw_1_213 dX3_readNumber_68 ?_
              refine xv_cv (b := pp) (by rw [hLL, uZ_eq]) ?_
              refine xv_iconst T dX3_readNumber_71 ?_
              refine xv_iadd T dX3_readNumber_72 ?_
              refine p3_position T hK hP (log_D K g LL NU TT) hS 0 rfl (Nat.le_of_ble_eq_true rfl) mw_1_213 dX3_readNumber_73 (lu_L5 K g LL NU TT (pp + 1)) (fun H locs hP hS => ?_)
              obtain ⟨LM, hLM⟩ : ∃ Y0 : Int → Int, Y0 = uZ LL 5 (pp + 1) := ⟨_, rfl⟩
              have hP : xP K (logW K g LM NU TT) H := by rw [hLM]; exact hP
              refine xv_iinc T (y := fig + 1) (lv' := [(3, .int (iI (fig + 1))), (2, .int (iI (v * 10 + (TT pp) - 48))), (0, .ref g), (1, .int (iI ix))]) dX3_readNumber_76 hl (q := 3) rfl (by omega) (by decide) rfl (fun ls hl => ?_)
              refine lv_goto T.1 T.2.1 (tgt := 4) dX3_readNumber_79 (by decide) ?_
              have hh : hereF TT (L 0) pp = TT pp := hereF_in (by omega)
              exact ih4 (v * 10 + (TT pp) - 48) (fig + 1) (pp + 1) LM _ _ ls (by omega) (by omega) (by rw [hLM, hLL, uZ_uZ]) (by rw [hq, show (4 - fig).toNat = (4 - (fig + 1)).toNat + 1 by omega, nuF_s (by omega), hh, show 10 * v + TT pp - 48 = v * 10 + TT pp - 48 by omega]) (by omega) hP hS (lv_sub hl [2, 3, 1, 0] rfl)
  exact lp4 5 0 0 (L 5) L _ _ ls (by omega) (by omega) (uZ_id rfl).symm rfl (by omega) hP hS (lv_sub hl [2, 3, 1, 0] rfl)
