set_option maxHeartbeats 4000000 in
set_option maxRecDepth 100000 in
theorem c_X8_tries (l : Launch) (K : KT) (o : Nat) (N B SS TT F : Int → Int) (hI : Inv N) (hF2 : 0 ≤ F 2 ∧ F 2 ≤ 80) (hF4 : F 4 = 0 ∨ F 4 = 1) (hT : TxT TT (F 2)) : CtV l yX8_tries cX8_tries 1 5 116 K [.ref o] (mW K o N B SS TT F) (Blk o 5) (fun (u : (Int → Int) × (Int → Int)) => u = triP TT N F) (fun u => mW K o u.1 B SS TT u.2) := by
  refine CtV_of (by decide) (Nat.le_of_ble_eq_true rfl) ?_
  intro p e s m args below meth c T hr hk hP hK ls hl
  have T : CF p m c cX8_tries 1 s args RX8 := T
  have hS : va_S (Blk o 5) s.heap s.heap [] := va_S.rf
  have hl : lv_has ls 1 [(0, .ref o)] := hl
  refine lv_aload_n T.1 T.2.1 dX8_tries_0 rfl (lv_at hl 0 rfl) ?_
  refine xv_iconst T dX8_tries_1 ?_
  refine p8_readAt T hK hP (m_D K o N B SS TT F) hS 0 rfl (Nat.le_of_ble_eq_true rfl) mw_3_182 dX8_tries_2 (mu_F3 K o N B SS TT F 0) (fun H locs hP hS => ?_)
  obtain ⟨F01, hF01⟩ : ∃ Y0 : Int → Int, Y0 = uZ F 3 0 := ⟨_, rfl⟩
  have hP : xP K (mW K o N B SS TT F01) H := by rw [hF01]; exact hP
  refine lv_aload_n T.1 T.2.1 dX8_tries_5 rfl (lv_at hl 0 rfl) ?_
  refine xv_iconst T dX8_tries_6 ?_
  refine p8_orders T hK hP (m_D K o N B SS TT F01) hS 0 rfl (Nat.le_of_ble_eq_true rfl) mw_3_187 dX8_tries_7 (mu_F8 K o N B SS TT F01 0) (fun H locs hP hS => ?_)
  obtain ⟨F02, hF02⟩ : ∃ Y0 : Int → Int, Y0 = uZ F01 8 0 := ⟨_, rfl⟩
  have hP : xP K (mW K o N B SS TT F02) H := by rw [hF02]; exact hP
  refine lv_aload_n T.1 T.2.1 dX8_tries_10 rfl (lv_at hl 0 rfl) ?_
  refine xv_iconst T dX8_tries_11 ?_
  refine p8_faultReason T hK hP (m_D K o N B SS TT F02) hS 0 rfl (Nat.le_of_ble_eq_true rfl) mw_3_185 dX8_tries_12 (mu_F6 K o N B SS TT F02 0) (fun H locs hP hS => ?_)
  obtain ⟨F03, hF03⟩ : ∃ Y0 : Int → Int, Y0 = uZ F02 6 0 := ⟨_, rfl⟩
  have hP : xP K (mW K o N B SS TT F03) H := by rw [hF03]; exact hP
  have lp15 : ∀ (fuel : Nat) (NL : Int → Int) (FL : Int → Int) (H : Heap) (locs : List Loc) (ls : Array Slot), (Inv NL) → (FL 2 = F 2) → (0 ≤ FL 3 ∧ FL 3 ≤ 200) → (FL 4 = 0 ∨ FL 4 = 1) → (0 ≤ FL 6 ∧ FL 6 ≤ 2) → (∃ n : Nat, F 2 - FL 3 ≤ (n : Int) ∧ triP TT N F = trF n TT NL FL) → F 2 - FL 3 + 200 < (fuel : Int) → xP K (mW K o NL B SS TT FL) H → va_S (Blk o 5) s.heap H locs → lv_has ls 1 [(0, .ref o)] → W p l e (rmF 5 116) s m args below meth c H locs 0 0 (MQ below (qV K (fun (u : (Int → Int) × (Int → Int)) => u = triP TT N F) (fun u => mW K o u.1 B SS TT u.2) (Blk o 5)) args s 0 0 (Blk o 5)) (F0 m 15 ls []) := by
    intro fuel
    induction fuel with
    | zero =>
      intro NL FL H locs ls hIL h2 h3 h4 h6 hq hm hP hS hl
      exact absurd hm (by omega)
    | succ fuel ih15 =>
      intro NL FL H locs ls hIL h2 h3 h4 h6 hq hm hP hS hl
      obtain ⟨n, hn, hq⟩ := hq
      refine lv_aload_n T.1 T.2.1 dX8_tries_15 rfl (lv_at hl 0 rfl) ?_
      refine g8_readAt T hK hP 0 rfl (v := .int (iI (FL 3))) rfl mw_3_182 dX8_tries_16 ?_
      refine lv_aload_n T.1 T.2.1 dX8_tries_19 rfl (lv_at hl 0 rfl) ?_
      refine g8_letters T hK hP 0 rfl (v := .int (iI (FL 2))) rfl mw_3_181 dX8_tries_20 ?_
      refine xv_icmp_ge T (by omega) (tgt := 89) dX8_tries_23 (by decide) (fun c1 => ?_) (fun c1 => ?_)
      · skip
        exact rV T (u := (NL, FL)) hr hk hK hP hS dX8_tries_89 (by rw [hq, trF_e (by omega)])
      · skip
        refine lv_aload_n T.1 T.2.1 dX8_tries_26 rfl (lv_at hl 0 rfl) ?_
        refine g8_faultReason T hK hP 0 rfl (v := .int (iI (FL 6))) rfl mw_3_185 dX8_tries_27 ?_
        refine xv_if_ne T (by omega) (tgt := 89) dX8_tries_30 (by decide) (fun c2 => ?_) (fun c2 => ?_)
        · skip
          exact rV T (u := (NL, FL)) hr hk hK hP hS dX8_tries_89 (by rw [hq, trF_e (by omega)])
        · skip
          refine lv_aload_n T.1 T.2.1 dX8_tries_33 rfl (lv_at hl 0 rfl) ?_
          refine lv_aload_n T.1 T.2.1 dX8_tries_34 rfl (lv_at hl 0 rfl) ?_
          refine g8_readAt T hK hP 0 rfl (v := .int (iI (FL 3))) rfl mw_3_182 dX8_tries_35 ?_
          refine p8_faultAt T hK hP (m_D K o NL B SS TT FL) hS 0 rfl (Nat.le_of_ble_eq_true rfl) mw_3_184 dX8_tries_38 (mu_F5 K o NL B SS TT FL (FL 3)) (fun H locs hP hS => ?_)
          obtain ⟨FA, hFA⟩ : ∃ Y0 : Int → Int, Y0 = uZ FL 5 (FL 3) := ⟨_, rfl⟩
          have hP : xP K (mW K o NL B SS TT FA) H := by rw [hFA]; exact hP
          refine lv_aload_n T.1 T.2.1 dX8_tries_41 rfl (lv_at hl 0 rfl) ?_
          refine lv_aload_n T.1 T.2.1 dX8_tries_42 rfl (lv_at hl 0 rfl) ?_
          refine cI_V T hK hP hS 0 rfl rfl rfl (c_X8_order l K o NL B SS TT FA hIL (by rw [hFA, uZ_ne (by omega), h2]; exact hF2) (by rw [hFA, uZ_ne (by omega)]; omega) (by rw [hFA, uZ_ne (by omega)]; exact h4) (by rw [hFA, uZ_ne (by omega), h2]; exact hT)) iX8_order mw_4_205 ⟨Nat.le_of_ble_eq_true rfl, Nat.le_of_ble_eq_true rfl⟩ hP (fun _ h => h) rfl hl.1 rfl (Nat.le_of_ble_eq_true rfl) ⟨Nat.zero_le _, Nat.zero_le _⟩ dX8_tries_43 (fun zo uo H1 locs qo hP1 hg1 hg2 hS => ?_)
          have hP : xP K (mW K o uo.1 B SS TT uo.2) H1 := hP1
          generalize H1 = H at hP hS ⊢
          clear hg1 hg2 hP1
          have go := ordP_f TT NL FA
          rw [← qo] at go
          dsimp only at go
          have k3 : FA 3 = FL 3 := by rw [hFA, uZ_ne (by omega)]
          refine p8_faultCause T hK hP (m_D K o uo.1 B SS TT uo.2) hS 0 rfl (Nat.le_of_ble_eq_true rfl) mw_3_186 dX8_tries_46 (mu_F7 K o uo.1 B SS TT uo.2 zo) (fun H locs hP hS => ?_)
          obtain ⟨F11, hF11⟩ : ∃ Y0 : Int → Int, Y0 = uZ uo.2 7 zo := ⟨_, rfl⟩
          have hP : xP K (mW K o uo.1 B SS TT F11) H := by rw [hF11]; exact hP
          refine lv_aload_n T.1 T.2.1 dX8_tries_49 rfl (lv_at hl 0 rfl) ?_
          have jn73 : ∀ (rv : Int) (H : Heap) (locs : List Loc) (ls : Array Slot), (rv = if uo.2 4 = 0 then 1 else if iI zo < 0 then 2 else 0) → xP K (mW K o uo.1 B SS TT F11) H → va_S (Blk o 5) s.heap H locs → lv_has ls 1 [(0, .ref o)] → W p l e (rmF 5 116) s m args below meth c H locs 0 0 (MQ below (qV K (fun (u : (Int → Int) × (Int → Int)) => u = triP TT N F) (fun u => mW K o u.1 B SS TT u.2) (Blk o 5)) args s 0 0 (Blk o 5)) (F0 m 73 ls [.int (iI rv), .ref o]) := by
            intro rv H locs ls hrv hP hS hl
            refine p8_faultReason T hK hP (m_D K o uo.1 B SS TT F11) hS 0 rfl (Nat.le_of_ble_eq_true rfl) mw_3_185 dX8_tries_73 (mu_F6 K o uo.1 B SS TT F11 rv) (fun H locs hP hS => ?_)
            obtain ⟨F12, hF12⟩ : ∃ Y0 : Int → Int, Y0 = uZ F11 6 rv := ⟨_, rfl⟩
            have hP : xP K (mW K o uo.1 B SS TT F12) H := by rw [hF12]; exact hP
            refine lv_aload_n T.1 T.2.1 dX8_tries_76 rfl (lv_at hl 0 rfl) ?_
            refine lv_dup T.1 T.2.1 dX8_tries_77 rfl ?_
            refine g8_orders T hK hP 0 rfl (v := .int (iI (F12 8))) rfl mw_3_187 dX8_tries_78 ?_
            refine xv_cv (b := uo.2 8) (by rw [hF12, uZ_ne (by omega), hF11, uZ_ne (by omega)]) ?_
            refine xv_iconst T dX8_tries_81 ?_
            refine xv_iadd T dX8_tries_82 ?_
            refine p8_orders T hK hP (m_D K o uo.1 B SS TT F12) hS 0 rfl (Nat.le_of_ble_eq_true rfl) mw_3_187 dX8_tries_83 (mu_F8 K o uo.1 B SS TT F12 (uo.2 8 + 1)) (fun H locs hP hS => ?_)
            obtain ⟨F13, hF13⟩ : ∃ Y0 : Int → Int, Y0 = uZ F12 8 (uo.2 8 + 1) := ⟨_, rfl⟩
            have hP : xP K (mW K o uo.1 B SS TT F13) H := by rw [hF13]; exact hP
            refine lv_goto T.1 T.2.1 (tgt := 15) dX8_tries_86 (by decide) ?_
            obtain ⟨n, rfl⟩ : ∃ k : Nat, n = k + 1 := ⟨n - 1, by omega⟩
            have hz := aftF_f uo.2 zo
            have hD : F13 = aftF uo.2 zo := by rw [hF13, hF12, hF11, hrv]; rfl
            rw [← hD] at hz
            exact ih15 uo.1 F13 _ _ ls (by have h9 := ordP_inv hIL TT FA; rw [← qo] at h9; exact h9) (by rw [hz.1 2 (by omega) (by omega) (by omega), go.1 2 (by omega) (by omega), hFA, uZ_ne (by omega)]; exact h2) (by rw [hz.1 3 (by omega) (by omega) (by omega)]; omega) (by rw [hz.1 4 (by omega) (by omega) (by omega)]; exact go.2.2) hz.2.1 ⟨n, by rw [hz.1 3 (by omega) (by omega) (by omega)]; omega, by rw [hq, trF_s ⟨by omega, by omega⟩, ← hFA, ← qo, hD]⟩ (by rw [hz.1 3 (by omega) (by omega) (by omega)]; omega) hP hS (lv_sub hl [0] rfl)
          refine lv_aload_n T.1 T.2.1 dX8_tries_50 rfl (lv_at hl 0 rfl) ?_
          refine g8_isForm T hK hP 0 rfl (v := .int (iI (F11 4))) rfl mw_3_183 dX8_tries_51 ?_
          refine xv_cv (b := uo.2 4) (by rw [hF11, uZ_ne (by omega)]) ?_
          refine xv_if_ne T (by omega) (tgt := 61) dX8_tries_54 (by decide) (fun c3 => ?_) (fun c3 => ?_)
          · skip
            refine lv_aload_n T.1 T.2.1 dX8_tries_61 rfl (lv_at hl 0 rfl) ?_
            refine g8_faultCause T hK hP 0 rfl (v := .int (iI (F11 7))) rfl mw_3_186 dX8_tries_62 ?_
            refine xv_cv (b := zo) (by rw [hF11, uZ_eq]) ?_
            refine xr_if_ge T (tgt := 72) dX8_tries_65 (by decide) (fun c4 => ?_) (fun c4 => ?_)
            · skip
              refine xv_iconst T dX8_tries_72 ?_
              exact jn73 0 _ _ ls (by first | rw [if_pos (by assumption)] | rw [if_neg (by assumption), if_pos (by assumption)] | rw [if_neg (by assumption), if_neg (by assumption)]) hP hS (lv_sub hl [0] rfl)
            · skip
              refine xv_iconst T dX8_tries_68 ?_
              refine lv_goto T.1 T.2.1 (tgt := 73) dX8_tries_69 (by decide) ?_
              exact jn73 2 _ _ ls (by first | rw [if_pos (by assumption)] | rw [if_neg (by assumption), if_pos (by assumption)] | rw [if_neg (by assumption), if_neg (by assumption)]) hP hS (lv_sub hl [0] rfl)
          · skip
            refine xv_iconst T dX8_tries_57 ?_
            refine lv_goto T.1 T.2.1 (tgt := 73) dX8_tries_58 (by decide) ?_
            exact jn73 1 _ _ ls (by first | rw [if_pos (by assumption)] | rw [if_neg (by assumption), if_pos (by assumption)] | rw [if_neg (by assumption), if_neg (by assumption)]) hP hS (lv_sub hl [0] rfl)
  exact lp15 400 N F03 _ _ ls hI (by rw [hF03, uZ_ne (by omega), hF02, uZ_ne (by omega), hF01, uZ_ne (by omega)]) (by rw [hF03, uZ_ne (by omega), hF02, uZ_ne (by omega), hF01, uZ_eq]; omega) (by rw [hF03, uZ_ne (by omega), hF02, uZ_ne (by omega), hF01, uZ_ne (by omega)]; exact hF4) (by rw [hF03, uZ_eq]; omega) ⟨81, by rw [hF03, uZ_ne (by omega), hF02, uZ_ne (by omega), hF01, uZ_eq]; omega, by rw [hF03, hF02, hF01]; rfl⟩ (by rw [hF03, uZ_ne (by omega), hF02, uZ_ne (by omega), hF01, uZ_eq]; omega) hP hS (lv_sub hl [0] rfl)
set_option maxHeartbeats 4000000 in
set_option maxRecDepth 100000 in
theorem c_X8_fault (l : Launch) (K : KT) (o : Nat) (N B SS TT F : Int → Int) (wh : Int) (r_wh : -2147483648 ≤ wh ∧ wh ≤ 2147483647) (hI : Inv N) (hF2 : 0 ≤ F 2 ∧ F 2 ≤ 80) (hF4 : F 4 = 0 ∨ F 4 = 1) (hT : TxT TT (F 2)) : CtI l yX8_fault cX8_fault 2 .int 6 136 K [.ref o, .int (iI wh)] (mW K o N B SS TT F) (Blk o 5) (fun (z : Int) (u : (Int → Int) × (Int → Int)) => z = qFault (triP TT N F).2 wh ∧ (u.2 = F ∨ u.2 = (triP TT N F).2)) (fun u => mW K o N u.1 SS TT u.2) := by
  refine CtI_of (by decide) (Nat.le_of_ble_eq_true rfl) ?_
  intro p e s m args below meth c T hr hk hP hK ls hl
  have T : CF p m c cX8_fault 2 s args RX8 := T
  have hS : va_S (Blk o 5) s.heap s.heap [] := va_S.rf
  have hl : lv_has ls 2 [(0, .ref o), (1, .int (iI wh))] := hl
  refine lv_iload_n T.1 T.2.1 dX8_fault_0 rfl (lv_at hl 1 rfl) ?_
  refine xv_iconst T dX8_fault_1 ?_
  refine xv_iconst T dX8_fault_2 ?_
  refine cI_S T hK hP hS (c_X8_in l K wh 0 2 (by omega) (by omega) (by omega)) iX8_in mw_4_15 ⟨Nat.le_of_ble_eq_true rfl, Nat.le_of_ble_eq_true rfl⟩ xP_nil noA rfl hl.1 rfl (Nat.le_of_ble_eq_true rfl) ⟨Nat.zero_le _, Nat.zero_le _⟩ dX8_fault_3 (fun z1 _ H1 locs q2 hP1 hg1 hg2 hS => ?_)
  have hP := xP_kept hP hg2
  generalize H1 = H at hP hS ⊢
  clear hg1 hg2 hP1
  rcases q2 with ⟨rfl, q2⟩ | ⟨rfl, q2⟩
  · skip
    refine xv_if_ne T (by omega) (tgt := 11) dX8_fault_6 (by decide) (fun _ => ?_) (fun c3 => absurd c3 (by omega))
    refine lv_aload_n T.1 T.2.1 dX8_fault_11 rfl (lv_at hl 0 rfl) ?_
    refine cV_V T hK hP hS 0 rfl rfl rfl (c_X8_copy l K o N B SS TT F ) iX8_copy mw_3_223 ⟨Nat.le_of_ble_eq_true rfl, Nat.le_of_ble_eq_true rfl⟩ hP (fun _ h => h) rfl hl.1 rfl (Nat.le_of_ble_eq_true rfl) ⟨Nat.zero_le _, Nat.zero_le _⟩ dX8_fault_12 (fun N6 H1 locs q5 hP1 hg1 hg2 hS => ?_)
    have hP : xP K (mW K o N N SS TT F) H1 := hP1
    generalize H1 = H at hP hS ⊢
    clear hg1 hg2 hP1
    refine lv_aload_n T.1 T.2.1 dX8_fault_15 rfl (lv_at hl 0 rfl) ?_
    refine cV_V T hK hP hS 0 rfl rfl rfl (c_X8_tries l K o N N SS TT F hI (by omega) (by omega) (by omega)) iX8_tries mw_4_201 ⟨Nat.le_of_ble_eq_true rfl, Nat.le_of_ble_eq_true rfl⟩ hP (fun _ h => h) rfl hl.1 rfl (Nat.le_of_ble_eq_true rfl) ⟨Nat.zero_le _, Nat.zero_le _⟩ dX8_fault_16 (fun ut H1 locs qt hP1 hg1 hg2 hS => ?_)
    have hP : xP K (mW K o ut.1 N SS TT ut.2) H1 := hP1
    generalize H1 = H at hP hS ⊢
    clear hg1 hg2 hP1
    have gt := triP_f (TT := TT) (N := N) (F := F) hF4
    rw [← qt] at gt
    refine lv_aload_n T.1 T.2.1 dX8_fault_19 rfl (lv_at hl 0 rfl) ?_
    refine cV_V T hK hP hS 0 rfl rfl rfl (c_X8_back l K o ut.1 N SS TT ut.2 ) iX8_back mw_4_221 ⟨Nat.le_of_ble_eq_true rfl, Nat.le_of_ble_eq_true rfl⟩ hP (fun _ h => h) rfl hl.1 rfl (Nat.le_of_ble_eq_true rfl) ⟨Nat.zero_le _, Nat.zero_le _⟩ dX8_fault_20 (fun N10 H1 locs q9 hP1 hg1 hg2 hS => ?_)
    have hP : xP K (mW K o N N SS TT ut.2) H1 := hP1
    generalize H1 = H at hP hS ⊢
    clear hg1 hg2 hP1
    refine lv_aload_n T.1 T.2.1 dX8_fault_23 rfl (lv_at hl 0 rfl) ?_
    refine g8_faultReason T hK hP 0 rfl (v := .int (iI (ut.2 6))) rfl mw_3_185 dX8_fault_24 ?_
    refine xv_if_eq T (by omega) (tgt := 43) dX8_fault_27 (by decide) (fun c11 => ?_) (fun c11 => ?_)
    · skip
      refine xv_bipush T dX8_fault_43 (by omega) ?_
      exact rI T (u := (N, ut.2)) hr hk hK hP hS dX8_fault_45 (by rw [← qt]; refine ⟨?_, Or.inr rfl⟩; unfold qFault; (repeat' split) <;> first | (exfalso; omega) | rfl)
    · skip
      refine lv_iload_n T.1 T.2.1 dX8_fault_30 rfl (lv_at hl 1 rfl) ?_
      refine xv_iconst T dX8_fault_31 ?_
      refine xv_icmp_ne T (by omega) (tgt := 46) dX8_fault_32 (by decide) (fun c12 => ?_) (fun c12 => ?_)
      · skip
        refine lv_iload_n T.1 T.2.1 dX8_fault_46 rfl (lv_at hl 1 rfl) ?_
        refine xv_if_ne T (by omega) (tgt := 57) dX8_fault_47 (by decide) (fun c13 => ?_) (fun c13 => ?_)
        · skip
          refine lv_iload_n T.1 T.2.1 dX8_fault_57 rfl (lv_at hl 1 rfl) ?_
          refine xv_iconst T dX8_fault_58 ?_
          refine xv_icmp_ne T (by omega) (tgt := 69) dX8_fault_59 (by decide) (fun c14 => ?_) (fun c14 => ?_)
          · skip
            refine lv_aload_n T.1 T.2.1 dX8_fault_69 rfl (lv_at hl 0 rfl) ?_
            refine g8_faultCause T hK hP 0 rfl (v := .int (iI (ut.2 7))) rfl mw_3_186 dX8_fault_70 ?_
            exact rI T (u := (N, ut.2)) hr hk hK hP hS dX8_fault_73 (by rw [← qt]; refine ⟨?_, Or.inr rfl⟩; unfold qFault; (repeat' split) <;> first | (exfalso; omega) | rfl)
          · skip
            refine lv_aload_n T.1 T.2.1 dX8_fault_62 rfl (lv_at hl 0 rfl) ?_
            refine g8_faultReason T hK hP 0 rfl (v := .int (iI (ut.2 6))) rfl mw_3_185 dX8_fault_63 ?_
            refine lv_goto T.1 T.2.1 (tgt := 73) dX8_fault_66 (by decide) ?_
            exact rI T (u := (N, ut.2)) hr hk hK hP hS dX8_fault_73 (by rw [← qt]; refine ⟨?_, Or.inr rfl⟩; unfold qFault; (repeat' split) <;> first | (exfalso; omega) | rfl)
        · skip
          refine lv_aload_n T.1 T.2.1 dX8_fault_50 rfl (lv_at hl 0 rfl) ?_
          refine g8_faultAt T hK hP 0 rfl (v := .int (iI (ut.2 5))) rfl mw_3_184 dX8_fault_51 ?_
          refine lv_goto T.1 T.2.1 (tgt := 73) dX8_fault_54 (by decide) ?_
          exact rI T (u := (N, ut.2)) hr hk hK hP hS dX8_fault_73 (by rw [← qt]; refine ⟨?_, Or.inr rfl⟩; unfold qFault; (repeat' split) <;> first | (exfalso; omega) | rfl)
      · skip
        refine lv_aload_n T.1 T.2.1 dX8_fault_35 rfl (lv_at hl 0 rfl) ?_
        refine g8_faultReason T hK hP 0 rfl (v := .int (iI (ut.2 6))) rfl mw_3_185 dX8_fault_36 ?_
        refine xv_iconst T dX8_fault_39 ?_
        refine xv_icmp_ne T (by omega) (tgt := 46) dX8_fault_40 (by decide) (fun c15 => ?_) (fun c15 => ?_)
        · skip
          refine lv_iload_n T.1 T.2.1 dX8_fault_46 rfl (lv_at hl 1 rfl) ?_
          refine xv_if_ne T (by omega) (tgt := 57) dX8_fault_47 (by decide) (fun c16 => ?_) (fun c16 => ?_)
          · skip
            refine lv_iload_n T.1 T.2.1 dX8_fault_57 rfl (lv_at hl 1 rfl) ?_
            refine xv_iconst T dX8_fault_58 ?_
            refine xv_icmp_ne T (by omega) (tgt := 69) dX8_fault_59 (by decide) (fun c17 => ?_) (fun c17 => ?_)
            · skip
              refine lv_aload_n T.1 T.2.1 dX8_fault_69 rfl (lv_at hl 0 rfl) ?_
              refine g8_faultCause T hK hP 0 rfl (v := .int (iI (ut.2 7))) rfl mw_3_186 dX8_fault_70 ?_
              exact rI T (u := (N, ut.2)) hr hk hK hP hS dX8_fault_73 (by rw [← qt]; refine ⟨?_, Or.inr rfl⟩; unfold qFault; (repeat' split) <;> first | (exfalso; omega) | rfl)
            · skip
              refine lv_aload_n T.1 T.2.1 dX8_fault_62 rfl (lv_at hl 0 rfl) ?_
              refine g8_faultReason T hK hP 0 rfl (v := .int (iI (ut.2 6))) rfl mw_3_185 dX8_fault_63 ?_
              refine lv_goto T.1 T.2.1 (tgt := 73) dX8_fault_66 (by decide) ?_
              exact rI T (u := (N, ut.2)) hr hk hK hP hS dX8_fault_73 (by rw [← qt]; refine ⟨?_, Or.inr rfl⟩; unfold qFault; (repeat' split) <;> first | (exfalso; omega) | rfl)
          · skip
            refine lv_aload_n T.1 T.2.1 dX8_fault_50 rfl (lv_at hl 0 rfl) ?_
            refine g8_faultAt T hK hP 0 rfl (v := .int (iI (ut.2 5))) rfl mw_3_184 dX8_fault_51 ?_
            refine lv_goto T.1 T.2.1 (tgt := 73) dX8_fault_54 (by decide) ?_
            exact rI T (u := (N, ut.2)) hr hk hK hP hS dX8_fault_73 (by rw [← qt]; refine ⟨?_, Or.inr rfl⟩; unfold qFault; (repeat' split) <;> first | (exfalso; omega) | rfl)
        · skip
          refine xv_bipush T dX8_fault_43 (by omega) ?_
          exact rI T (u := (N, ut.2)) hr hk hK hP hS dX8_fault_45 (by rw [← qt]; refine ⟨?_, Or.inr rfl⟩; unfold qFault; (repeat' split) <;> first | (exfalso; omega) | rfl)
  · skip
    refine xv_if_ne T (by omega) (tgt := 11) dX8_fault_6 (by decide) (fun c18 => absurd c18 (by omega)) (fun _ => ?_)
    refine xv_iconst T dX8_fault_9 ?_
    exact rI T (u := (B, F)) hr hk hK hP hS dX8_fault_10 (⟨by unfold qFault; rw [if_pos (by omega)], Or.inl rfl⟩)
set_option maxHeartbeats 4000000 in
set_option maxRecDepth 100000 in
theorem c_X8_play (l : Launch) (K : KT) (o : Nat) (N B SS TT F : Int → Int) (hI : Inv N) (hF2 : 0 ≤ F 2 ∧ F 2 ≤ 80) (hF4 : F 4 = 0 ∨ F 4 = 1) (hT : TxT TT (F 2)) (hF0 : 0 ≤ F 0 ∧ F 0 ≤ 4) (hF1 : 0 ≤ F 1 ∧ F 1 < 4) : CtI l yX8_play cX8_play 1 .int 6 136 K [.ref o] (mW K o N B SS TT F) (Blk o 5) (fun (z : Int) (u : (Int → Int) × (Int → Int) × (Int → Int)) => (z, u) = plaP TT N SS F) (fun u => mW K o u.1 N u.2.1 TT u.2.2) := by
  refine CtI_of (by decide) (Nat.le_of_ble_eq_true rfl) ?_
  intro p e s m args below meth c T hr hk hP hK ls hl
  have T : CF p m c cX8_play 1 s args RX8 := T
  have hS : va_S (Blk o 5) s.heap s.heap [] := va_S.rf
  have hl : lv_has ls 1 [(0, .ref o)] := hl
  refine lv_aload_n T.1 T.2.1 dX8_play_0 rfl (lv_at hl 0 rfl) ?_
  refine cV_V T hK hP hS 0 rfl rfl rfl (c_X8_copy l K o N B SS TT F ) iX8_copy mw_3_223 ⟨Nat.le_of_ble_eq_true rfl, Nat.le_of_ble_eq_true rfl⟩ hP (fun _ h => h) rfl hl.1 rfl (Nat.le_of_ble_eq_true rfl) ⟨Nat.zero_le _, Nat.zero_le _⟩ dX8_play_1 (fun N3 H1 locs q2 hP1 hg1 hg2 hS => ?_)
  have hP : xP K (mW K o N N SS TT F) H1 := hP1
  generalize H1 = H at hP hS ⊢
  clear hg1 hg2 hP1
  refine lv_aload_n T.1 T.2.1 dX8_play_4 rfl (lv_at hl 0 rfl) ?_
  refine cV_V T hK hP hS 0 rfl rfl rfl (c_X8_tries l K o N N SS TT F hI (by omega) (by omega) (by omega)) iX8_tries mw_4_201 ⟨Nat.le_of_ble_eq_true rfl, Nat.le_of_ble_eq_true rfl⟩ hP (fun _ h => h) rfl hl.1 rfl (Nat.le_of_ble_eq_true rfl) ⟨Nat.zero_le _, Nat.zero_le _⟩ dX8_play_5 (fun ut H1 locs qt hP1 hg1 hg2 hS => ?_)
  have hP : xP K (mW K o ut.1 N SS TT ut.2) H1 := hP1
  generalize H1 = H at hP hS ⊢
  clear hg1 hg2 hP1
  have gt := triP_f (TT := TT) (N := N) (F := F) hF4
  rw [← qt] at gt
  have g0 : ut.2 0 = F 0 := gt.1 0 (by omega)
  have g1 : ut.2 1 = F 1 := gt.1 1 (by omega)
  refine lv_aload_n T.1 T.2.1 dX8_play_8 rfl (lv_at hl 0 rfl) ?_
  refine g8_faultReason T hK hP 0 rfl (v := .int (iI (ut.2 6))) rfl mw_3_185 dX8_play_9 ?_
  refine xv_if_eq T (by omega) (tgt := 22) dX8_play_12 (by decide) (fun c5 => ?_) (fun c5 => ?_)
  · skip
    refine lv_aload_n T.1 T.2.1 dX8_play_22 rfl (lv_at hl 0 rfl) ?_
    refine lv_aload_n T.1 T.2.1 dX8_play_23 rfl (lv_at hl 0 rfl) ?_
    refine g8_orders T hK hP 0 rfl (v := .int (iI (ut.2 8))) rfl mw_3_187 dX8_play_24 ?_
    refine cI_V T hK hP hS 0 rfl rfl rfl (c_X8_recorded l K o ut.1 N SS TT ut.2 (ut.2 8) (by rw [g0]; exact hF0) (by rw [g1]; exact hF1)) iX8_recorded mw_3_239 ⟨Nat.le_of_ble_eq_true rfl, Nat.le_of_ble_eq_true rfl⟩ hP (fun _ h => h) rfl hl.1 rfl (Nat.le_of_ble_eq_true rfl) ⟨Nat.zero_le _, Nat.zero_le _⟩ dX8_play_27 (fun zr ur H1 locs qr hP1 hg1 hg2 hS => ?_)
    have hP : xP K (mW K o ut.1 N ur.1 TT ur.2) H1 := hP1
    generalize H1 = H at hP hS ⊢
    clear hg1 hg2 hP1
    obtain ⟨hz, hu⟩ := qr
    exact rI T (u := (ut.1, ur.1, ur.2)) hr hk hK hP hS dX8_play_30 (by unfold plaP; rw [← qt, if_pos (by omega), hz, hu])
  · skip
    refine lv_aload_n T.1 T.2.1 dX8_play_15 rfl (lv_at hl 0 rfl) ?_
    refine cV_V T hK hP hS 0 rfl rfl rfl (c_X8_back l K o ut.1 N SS TT ut.2 ) iX8_back mw_4_221 ⟨Nat.le_of_ble_eq_true rfl, Nat.le_of_ble_eq_true rfl⟩ hP (fun _ h => h) rfl hl.1 rfl (Nat.le_of_ble_eq_true rfl) ⟨Nat.zero_le _, Nat.zero_le _⟩ dX8_play_16 (fun N8 H1 locs q7 hP1 hg1 hg2 hS => ?_)
    have hP : xP K (mW K o N N SS TT ut.2) H1 := hP1
    generalize H1 = H at hP hS ⊢
    clear hg1 hg2 hP1
    refine xv_bipush T dX8_play_19 (by omega) ?_
    exact rI T (u := (N, SS, ut.2)) hr hk hK hP hS dX8_play_21 (by unfold plaP; rw [← qt, if_neg (by omega)])
