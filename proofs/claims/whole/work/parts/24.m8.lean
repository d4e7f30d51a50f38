set_option maxHeartbeats 4000000 in
set_option maxRecDepth 100000 in
theorem c_X8_passesSign (l : Launch) (K : KT) (o : Nat) (N B SS TT F : Int → Int) (sg : Int) (r_sg : -2147483648 ≤ sg ∧ sg ≤ 2147483647) (hF2 : 0 ≤ F 2 ∧ F 2 ≤ 80) (hF3 : 0 ≤ F 3 ∧ F 3 ≤ 100000) (hF4 : F 4 = 0 ∨ F 4 = 1) (hT : TxT TT (F 2)) : CtV l yX8_passesSign cX8_passesSign 2 1 20 K [.ref o, .int (iI sg)] (mW K o N B SS TT F) (Blk o 5) (fun (u : Int → Int) => u = psF TT F sg) (fun u => mW K o N B SS TT u) := by
  refine CtV_of (by decide) (Nat.le_of_ble_eq_true rfl) ?_
  intro p e s m args below meth c T hr hk hP hK ls hl
  have T : CF p m c cX8_passesSign 2 s args RX8 := T
  have hS : va_S (Blk o 5) s.heap s.heap [] := va_S.rf
  have hl : lv_has ls 2 [(0, .ref o), (1, .int (iI sg))] := hl
  have hh := here_in hT (p := F 3) (by omega)
  refine lv_aload_n T.1 T.2.1 dX8_passesSign_0 rfl (lv_at hl 0 rfl) ?_
  have jn21 : ∀ (fv : Int) (H : Heap) (locs : List Loc) (ls : Array Slot), (fv = if F 4 ≠ 0 ∧ hereF TT (F 2) (F 3) = sg then 1 else 0) → xP K (mW K o N B SS TT F) H → va_S (Blk o 5) s.heap H locs → lv_has ls 2 [(0, .ref o), (1, .int (iI sg))] → W p l e (rmF 1 20) s m args below meth c H locs 0 0 (MQ below (qV K (fun (u : Int → Int) => u = psF TT F sg) (fun u => mW K o N B SS TT u) (Blk o 5)) args s 0 0 (Blk o 5)) (F0 m 21 ls [.int (iI fv), .ref o]) := by
    intro fv H locs ls hfv hP hS hl
    have hfr : fv = 0 ∨ fv = 1 := by rw [hfv]; split <;> omega
    refine p8_isForm T hK hP (m_D K o N B SS TT F) hS 0 rfl (Nat.le_of_ble_eq_true rfl) (by omega) mw_3_183 dX8_passesSign_21 (mu_F4 K o N B SS TT F fv) (fun H locs hP hS => ?_)
    obtain ⟨F1, hF1⟩ : ∃ Y0 : Int → Int, Y0 = uZ F 4 fv := ⟨_, rfl⟩
    have hP : xP K (mW K o N B SS TT F1) H := by rw [hF1]; exact hP
    refine lv_aload_n T.1 T.2.1 dX8_passesSign_24 rfl (lv_at hl 0 rfl) ?_
    refine lv_dup T.1 T.2.1 dX8_passesSign_25 rfl ?_
    refine g8_readAt T hK hP 0 rfl (v := .int (iI (F1 3))) rfl mw_3_182 dX8_passesSign_26 ?_
    refine xv_cv (b := F 3) (by rw [hF1, uZ_ne (by omega)]) ?_
    refine xv_iconst T dX8_passesSign_29 ?_
    refine xv_iadd T dX8_passesSign_30 ?_
    refine p8_readAt T hK hP (m_D K o N B SS TT F1) hS 0 rfl (Nat.le_of_ble_eq_true rfl) mw_3_182 dX8_passesSign_31 (mu_F3 K o N B SS TT F1 (F 3 + 1)) (fun H locs hP hS => ?_)
    obtain ⟨F2, hF2⟩ : ∃ Y0 : Int → Int, Y0 = uZ F1 3 (F 3 + 1) := ⟨_, rfl⟩
    have hP : xP K (mW K o N B SS TT F2) H := by rw [hF2]; exact hP
    exact rV T (u := F2) hr hk hK hP hS dX8_passesSign_34 (by subst hF2 hF1; subst hfv; rfl)
  refine lv_aload_n T.1 T.2.1 dX8_passesSign_1 rfl (lv_at hl 0 rfl) ?_
  refine g8_isForm T hK hP 0 rfl (v := .int (iI (F 4))) rfl mw_3_183 dX8_passesSign_2 ?_
  refine xv_if_eq T (by omega) (tgt := 20) dX8_passesSign_5 (by decide) (fun c3 => ?_) (fun c3 => ?_)
  · skip
    refine xv_iconst T dX8_passesSign_20 ?_
    exact jn21 0 _ _ ls (by first | rw [if_pos (by omega)] | rw [if_neg (by omega)]) hP hS (lv_sub hl [0, 1] rfl)
  · skip
    refine lv_aload_n T.1 T.2.1 dX8_passesSign_8 rfl (lv_at hl 0 rfl) ?_
    refine cI_V T hK hP hS 0 rfl rfl rfl (c_X8_here l K o N B SS TT F (by omega) (by omega)) iX8_here mw_4_209 ⟨Nat.le_of_ble_eq_true rfl, Nat.le_of_ble_eq_true rfl⟩ hP noA rfl hl.1 rfl (Nat.le_of_ble_eq_true rfl) ⟨Nat.zero_le _, Nat.zero_le _⟩ dX8_passesSign_9 (fun z4 _ H1 locs q5 hP1 hg1 hg2 hS => ?_)
    have hP := xP_kept hP hg2
    generalize H1 = H at hP hS ⊢
    clear hg1 hg2 hP1
    obtain rfl : z4 = hereF TT (F 2) (F 3) := q5
    refine lv_iload_n T.1 T.2.1 dX8_passesSign_12 rfl (lv_at hl 1 rfl) ?_
    refine xv_icmp_ne T (by omega) (tgt := 20) dX8_passesSign_13 (by decide) (fun c6 => ?_) (fun c6 => ?_)
    · skip
      refine xv_iconst T dX8_passesSign_20 ?_
      exact jn21 0 _ _ ls (by first | rw [if_pos (by omega)] | rw [if_neg (by omega)]) hP hS (lv_sub hl [0, 1] rfl)
    · skip
      refine xv_iconst T dX8_passesSign_16 ?_
      refine lv_goto T.1 T.2.1 (tgt := 21) dX8_passesSign_17 (by decide) ?_
      exact jn21 1 _ _ ls (by first | rw [if_pos (by omega)] | rw [if_neg (by omega)]) hP hS (lv_sub hl [0, 1] rfl)
set_option maxHeartbeats 4000000 in
set_option maxRecDepth 100000 in
theorem c_X8_number (l : Launch) (K : KT) (o : Nat) (N B SS TT F : Int → Int) (hF2 : 0 ≤ F 2 ∧ F 2 ≤ 80) (hF3 : 0 ≤ F 3 ∧ F 3 ≤ 100000) (hF4 : F 4 = 0 ∨ F 4 = 1) (hT : TxT TT (F 2)) : CtI l yX8_number cX8_number 3 .int 1 20 K [.ref o] (mW K o N B SS TT F) (Blk o 5) (fun (z : Int) (u : Int → Int) => z = (numP TT F).1 ∧ u = (numP TT F).2) (fun u => mW K o N B SS TT u) := by
  refine CtI_of (by decide) (Nat.le_of_ble_eq_true rfl) ?_
  intro p e s m args below meth c T hr hk hP hK ls hl
  have T : CF p m c cX8_number 3 s args RX8 := T
  have hS : va_S (Blk o 5) s.heap s.heap [] := va_S.rf
  have hl : lv_has ls 3 [(0, .ref o)] := hl
  refine xv_iconst T dX8_number_0 ?_
  refine lv_istore_n (lv' := [(1, .int (iI 0)), (0, .ref o)]) T.1 T.2.1 dX8_number_1 rfl hl (by decide) rfl (fun ls hl => ?_)
  refine xv_iconst T dX8_number_2 ?_
  refine lv_istore_n (lv' := [(2, .int (iI 0)), (1, .int (iI 0)), (0, .ref o)]) T.1 T.2.1 dX8_number_3 rfl hl (by decide) rfl (fun ls hl => ?_)
  have lp4 : ∀ (fuel : Nat) (v : Int) (fig : Int) (pp : Int) (FL : Int → Int) (H : Heap) (locs : List Loc) (ls : Array Slot), (0 ≤ fig ∧ fig ≤ 4) → (0 ≤ pp ∧ pp ≤ F 3 + fig) → (FL = uZ F 3 pp) → (nuF 4 TT (F 2) 0 0 (F 3) = nuF (4 - fig).toNat TT (F 2) v fig pp) → 4 - fig < (fuel : Int) → xP K (mW K o N B SS TT FL) H → va_S (Blk o 5) s.heap H locs → lv_has ls 3 [(0, .ref o), (1, .int (iI v)), (2, .int (iI fig))] → W p l e (rmF 1 20) s m args below meth c H locs 0 0 (MQ below (qI K (fun (z : Int) (u : Int → Int) => z = (numP TT F).1 ∧ u = (numP TT F).2) (fun u => mW K o N B SS TT u) (Blk o 5)) args s 0 0 (Blk o 5)) (F0 m 4 ls []) := by
    intro fuel
    induction fuel with
    | zero =>
      intro v fig pp FL H locs ls hfg hpp hFL hq hm hP hS hl
      exact absurd hm (by omega)
    | succ fuel ih4 =>
      intro v fig pp FL H locs ls hfg hpp hFL hq hm hP hS hl
      have hh := here_in hT (p := pp) (by omega)
      have jn56 : ∀ (H : Heap) (locs : List Loc) (ls : Array Slot), (nuF 4 TT (F 2) 0 0 (F 3) = (v, fig, pp)) → xP K (mW K o N B SS TT FL) H → va_S (Blk o 5) s.heap H locs → lv_has ls 3 [(0, .ref o), (1, .int (iI v)), (2, .int (iI fig))] → W p l e (rmF 1 20) s m args below meth c H locs 0 0 (MQ below (qI K (fun (z : Int) (u : Int → Int) => z = (numP TT F).1 ∧ u = (numP TT F).2) (fun u => mW K o N B SS TT u) (Blk o 5)) args s 0 0 (Blk o 5)) (F0 m 56 ls []) := by
        intro  H locs ls hend hP hS hl
        have jn73 : ∀ (fv : Int) (H : Heap) (locs : List Loc) (ls : Array Slot), (fv = if F 4 ≠ 0 ∧ 0 < fig then 1 else 0) → xP K (mW K o N B SS TT FL) H → va_S (Blk o 5) s.heap H locs → lv_has ls 3 [(0, .ref o), (1, .int (iI v)), (2, .int (iI fig))] → W p l e (rmF 1 20) s m args below meth c H locs 0 0 (MQ below (qI K (fun (z : Int) (u : Int → Int) => z = (numP TT F).1 ∧ u = (numP TT F).2) (fun u => mW K o N B SS TT u) (Blk o 5)) args s 0 0 (Blk o 5)) (F0 m 73 ls [.int (iI fv), .ref o]) := by
          intro fv H locs ls hfv hP hS hl
          have hfr : fv = 0 ∨ fv = 1 := by rw [hfv]; split <;> omega
          refine p8_isForm T hK hP (m_D K o N B SS TT FL) hS 0 rfl (Nat.le_of_ble_eq_true rfl) (by omega) mw_3_183 dX8_number_73 (mu_F4 K o N B SS TT FL fv) (fun H locs hP hS => ?_)
          obtain ⟨FN, hFN⟩ : ∃ Y0 : Int → Int, Y0 = uZ FL 4 fv := ⟨_, rfl⟩
          have hP : xP K (mW K o N B SS TT FN) H := by rw [hFN]; exact hP
          refine lv_iload_n T.1 T.2.1 dX8_number_76 rfl (lv_at hl 1 rfl) ?_
          exact rI T (u := FN) hr hk hK hP hS dX8_number_77 (by unfold numP; rw [hend, hFN, hFL, hfv]; exact ⟨rfl, rfl⟩)
        refine lv_aload_n T.1 T.2.1 dX8_number_56 rfl (lv_at hl 0 rfl) ?_
        refine lv_aload_n T.1 T.2.1 dX8_number_57 rfl (lv_at hl 0 rfl) ?_
        refine g8_isForm T hK hP 0 rfl (v := .int (iI (FL 4))) rfl mw_3_183 dX8_number_58 ?_
        refine xv_cv (b := F 4) (by rw [hFL, uZ_ne (by omega)]) ?_
        refine xv_if_eq T (by omega) (tgt := 72) dX8_number_61 (by decide) (fun c1 => ?_) (fun c1 => ?_)
        · skip
          refine xv_iconst T dX8_number_72 ?_
          exact jn73 0 _ _ ls (by first | rw [if_pos (by omega)] | rw [if_neg (by omega)]) hP hS (lv_sub hl [0, 1, 2] rfl)
        · skip
          refine lv_iload_n T.1 T.2.1 dX8_number_64 rfl (lv_at hl 2 rfl) ?_
          refine xv_if_le T (by omega) (tgt := 72) dX8_number_65 (by decide) (fun c2 => ?_) (fun c2 => ?_)
          · skip
            refine xv_iconst T dX8_number_72 ?_
            exact jn73 0 _ _ ls (by first | rw [if_pos (by omega)] | rw [if_neg (by omega)]) hP hS (lv_sub hl [0, 1, 2] rfl)
          · skip
            refine xv_iconst T dX8_number_68 ?_
            refine lv_goto T.1 T.2.1 (tgt := 73) dX8_number_69 (by decide) ?_
            exact jn73 1 _ _ ls (by first | rw [if_pos (by omega)] | rw [if_neg (by omega)]) hP hS (lv_sub hl [0, 1, 2] rfl)
      refine lv_iload_n T.1 T.2.1 dX8_number_4 rfl (lv_at hl 2 rfl) ?_
      refine xv_iconst T dX8_number_5 ?_
      refine xv_icmp_ge T (by omega) (tgt := 56) dX8_number_6 (by decide) (fun c3 => ?_) (fun c3 => ?_)
      · skip
        exact jn56  _ _ ls (by rw [hq]; exact nuF_e (by omega)) hP hS (lv_sub hl [0, 1, 2] rfl)
      · skip
        refine lv_aload_n T.1 T.2.1 dX8_number_9 rfl (lv_at hl 0 rfl) ?_
        refine cI_V T hK hP hS 0 rfl rfl rfl (c_X8_here l K o N B SS TT FL (by rw [hFL, uZ_eq]; omega) (by rw [hFL, uZ_ne (by omega)]; omega)) iX8_here mw_4_209 ⟨Nat.le_of_ble_eq_true rfl, Nat.le_of_ble_eq_true rfl⟩ hP noA rfl hl.1 rfl (Nat.le_of_ble_eq_true rfl) ⟨Nat.zero_le _, Nat.zero_le _⟩ dX8_number_10 (fun z4 _ H1 locs q5 hP1 hg1 hg2 hS => ?_)
        have hP := xP_kept hP hg2
        generalize H1 = H at hP hS ⊢
        clear hg1 hg2 hP1
        obtain rfl : z4 = hereF TT (F 2) pp := q5.trans (by rw [hFL, uZ_ne (by omega), uZ_eq])
        refine xv_bipush T dX8_number_13 (by omega) ?_
        refine xv_icmp_lt T (by omega) (tgt := 56) dX8_number_15 (by decide) (fun c6 => ?_) (fun c6 => ?_)
        · skip
          exact jn56  _ _ ls (by rw [hq]; exact nuF_e (by omega)) hP hS (lv_sub hl [0, 1, 2] rfl)
        · skip
          refine lv_aload_n T.1 T.2.1 dX8_number_18 rfl (lv_at hl 0 rfl) ?_
          refine cI_V T hK hP hS 0 rfl rfl rfl (c_X8_here l K o N B SS TT FL (by rw [hFL, uZ_eq]; omega) (by rw [hFL, uZ_ne (by omega)]; omega)) iX8_here mw_4_209 ⟨Nat.le_of_ble_eq_true rfl, Nat.le_of_ble_eq_true rfl⟩ hP noA rfl hl.1 rfl (Nat.le_of_ble_eq_true rfl) ⟨Nat.zero_le _, Nat.zero_le _⟩ dX8_number_19 (fun z7 _ H1 locs q8 hP1 hg1 hg2 hS => ?_)
          have hP := xP_kept hP hg2
          generalize H1 = H at hP hS ⊢
          clear hg1 hg2 hP1
          obtain rfl : z7 = hereF TT (F 2) pp := q8.trans (by rw [hFL, uZ_ne (by omega), uZ_eq])
          refine xv_bipush T dX8_number_22 (by omega) ?_
          refine xv_icmp_gt T (by omega) (tgt := 56) dX8_number_24 (by decide) (fun c9 => ?_) (fun c9 => ?_)
          · skip
            exact jn56  _ _ ls (by rw [hq]; exact nuF_e (by omega)) hP hS (lv_sub hl [0, 1, 2] rfl)
          · skip
            refine xv_bipush T dX8_number_27 (by omega) ?_
            refine lv_iload_n T.1 T.2.1 dX8_number_29 rfl (lv_at hl 1 rfl) ?_
            refine xv_imul T dX8_number_30 ?_
            refine lv_aload_n T.1 T.2.1 dX8_number_31 rfl (lv_at hl 0 rfl) ?_
            refine cI_V T hK hP hS 0 rfl rfl rfl (c_X8_here l K o N B SS TT FL (by rw [hFL, uZ_eq]; omega) (by rw [hFL, uZ_ne (by omega)]; omega)) iX8_here mw_4_209 ⟨Nat.le_of_ble_eq_true rfl, Nat.le_of_ble_eq_true rfl⟩ hP noA rfl hl.1 rfl (Nat.le_of_ble_eq_true rfl) ⟨Nat.zero_le _, Nat.zero_le _⟩ dX8_number_32 (fun z10 _ H1 locs q11 hP1 hg1 hg2 hS => ?_)
            have hP := xP_kept hP hg2
            generalize H1 = H at hP hS ⊢
            clear hg1 hg2 hP1
            obtain rfl : z10 = hereF TT (F 2) pp := q11.trans (by rw [hFL, uZ_ne (by omega), uZ_eq])
            refine xv_iadd T dX8_number_35 ?_
            refine xv_bipush T dX8_number_36 (by omega) ?_
            refine xv_isub T dX8_number_38 ?_
            refine lv_istore_n (lv' := [(1, .int (iI (10 * v + (hereF TT (F 2) pp) - 48))), (0, .ref o), (2, .int (iI fig))]) T.1 T.2.1 dX8_number_39 rfl hl (by decide) rfl (fun ls hl => ?_)
            refine lv_aload_n T.1 T.2.1 dX8_number_40 rfl (lv_at hl 1 rfl) ?_
            refine lv_dup T.1 T.2.1 dX8_number_41 rfl ?_
            refine g8_readAt T hK hP 0 rfl (v := .int (iI (FL 3))) rfl mw_3_182 dX8_number_42 ?_
            refine xv_cv (b := pp) (by rw [hFL, uZ_eq]) ?_
            refine xv_iconst T dX8_number_45 ?_
            refine xv_iadd T dX8_number_46 ?_
            refine p8_readAt T hK hP (m_D K o N B SS TT FL) hS 0 rfl (Nat.le_of_ble_eq_true rfl) mw_3_182 dX8_number_47 (mu_F3 K o N B SS TT FL (pp + 1)) (fun H locs hP hS => ?_)
            obtain ⟨FM, hFM⟩ : ∃ Y0 : Int → Int, Y0 = uZ FL 3 (pp + 1) := ⟨_, rfl⟩
            have hP : xP K (mW K o N B SS TT FM) H := by rw [hFM]; exact hP
            refine xv_iinc T (y := fig + 1) (lv' := [(2, .int (iI (fig + 1))), (1, .int (iI (10 * v + (hereF TT (F 2) pp) - 48))), (0, .ref o)]) dX8_number_50 hl (q := 2) rfl (by omega) (by decide) rfl (fun ls hl => ?_)
            refine lv_goto T.1 T.2.1 (tgt := 4) dX8_number_53 (by decide) ?_
            exact ih4 (10 * v + (hereF TT (F 2) pp) - 48) (fig + 1) (pp + 1) FM _ _ ls (by omega) (by omega) (by rw [hFM, hFL, uZ_uZ]) (by rw [hq, show (4 - fig).toNat = (4 - (fig + 1)).toNat + 1 by omega, nuF_s (by omega)]) (by omega) hP hS (lv_sub hl [2, 1, 0] rfl)
  exact lp4 5 0 0 (F 3) F _ _ ls (by omega) (by omega) (uZ_id rfl).symm rfl (by omega) hP hS (lv_sub hl [2, 1, 0] rfl)
