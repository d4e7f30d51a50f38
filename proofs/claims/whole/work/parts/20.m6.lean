set_option maxHeartbeats 4000000 in
set_option maxRecDepth 100000 in
theorem c_X8_copy (l : Launch) (K : KT) (o : Nat) (N B SS TT F : Int → Int) : CtV l yX8_copy cX8_copy 2 0 0 K [.ref o] (mW K o N B SS TT F) (Blk o 5) (fun (u : Unit) => True) (fun u => mW K o N N SS TT F) := by
  refine CtV_of (by decide) (Nat.le_of_ble_eq_true rfl) ?_
  intro p e s m args below meth c T hr hk hP hK ls hl
  have T : CF p m c cX8_copy 2 s args RX8 := T
  have hS : va_S (Blk o 5) s.heap s.heap [] := va_S.rf
  have hl : lv_has ls 2 [(0, .ref o)] := hl
  refine xv_iconst T dX8_copy_0 ?_
  refine lv_istore_n (lv' := [(1, .int (iI 0)), (0, .ref o)]) T.1 T.2.1 dX8_copy_1 rfl hl (by decide) rfl (fun ls hl => ?_)
  have lp2 : ∀ (fuel : Nat) (i : Int) (BL : Int → Int) (H : Heap) (locs : List Loc) (ls : Array Slot), (0 ≤ i ∧ i ≤ 1055) → (∀ k : Int, 0 ≤ k → k < i → BL k = N k) → 1055 - i < (fuel : Int) → xP K (mW K o N BL SS TT F) H → va_S (Blk o 5) s.heap H locs → lv_has ls 2 [(0, .ref o), (1, .int (iI i))] → W p l e (rmF 0 0) s m args below meth c H locs 0 0 (MQ below (qV K (fun (u : Unit) => True) (fun u => mW K o N N SS TT F) (Blk o 5)) args s 0 0 (Blk o 5)) (F0 m 2 ls []) := by
    intro fuel
    induction fuel with
    | zero =>
      intro i BL H locs ls hi hB hm hP hS hl
      exact absurd hm (by omega)
    | succ fuel ih2 =>
      intro i BL H locs ls hi hB hm hP hS hl
      refine lv_iload_n T.1 T.2.1 dX8_copy_2 rfl (lv_at hl 1 rfl) ?_
      refine xv_sipush T dX8_copy_3 (by omega) ?_
      refine xv_icmp_ge T (by omega) (tgt := 27) dX8_copy_6 (by decide) (fun c1 => ?_) (fun c1 => ?_)
      · skip
        have hP : xP K (mW K o N N SS TT F) H := m_agree (fun _ _ _ => rfl) (fun k a b => hB k a (by omega)) (fun _ _ _ => rfl) (fun _ _ _ => rfl) hP
        exact rV T (u := ()) hr hk hK hP hS dX8_copy_27 (trivial)
      · skip
        refine lv_aload_n T.1 T.2.1 dX8_copy_9 rfl (lv_at hl 0 rfl) ?_
        refine g8_before T hK hP 0 rfl rfl mw_3_176 dX8_copy_10 ?_
        refine lv_iload_n T.1 T.2.1 dX8_copy_13 rfl (lv_at hl 1 rfl) ?_
        refine lv_aload_n T.1 T.2.1 dX8_copy_14 rfl (lv_at hl 0 rfl) ?_
        refine g8_now T hK hP 0 rfl rfl mw_3_175 dX8_copy_15 ?_
        refine lv_iload_n T.1 T.2.1 dX8_copy_18 rfl (lv_at hl 1 rfl) ?_
        refine xa_iald T hK hP 1 rfl rfl i (by omega) (by omega) (by decide) dX8_copy_19 ?_
        refine xa_iast T hK hP (m_D K o N BL SS TT F) hS 2 rfl rfl (by omega) (by decide) dX8_copy_20 (mu_B K o N BL SS TT F (N i) (by omega)) (fun H locs hP hS => ?_)
        obtain ⟨BM, hBM⟩ : ∃ Y0 : Int → Int, Y0 = uZ BL i (N i) := ⟨_, rfl⟩
        have hP : xP K (mW K o N BM SS TT F) H := by rw [hBM]; exact hP
        refine xv_iinc T (y := i + 1) (lv' := [(1, .int (iI (i + 1))), (0, .ref o)]) dX8_copy_21 hl (q := 1) rfl (by omega) (by decide) rfl (fun ls hl => ?_)
        refine lv_goto T.1 T.2.1 (tgt := 2) dX8_copy_24 (by decide) ?_
        exact ih2 (i + 1) BM _ _ ls (by omega) (fun k h1 h2 => by rw [hBM]; exact if h : k = i then (by rw [h, uZ_eq]) else (by rw [uZ_ne h]; exact hB k h1 (by omega))) (by omega) hP hS (lv_sub hl [1, 0] rfl)
  exact lp2 1056 0 B _ _ ls (by omega) (fun k h1 h2 => by omega) (by omega) hP hS (lv_sub hl [1, 0] rfl)
set_option maxHeartbeats 4000000 in
set_option maxRecDepth 100000 in
theorem c_X8_back (l : Launch) (K : KT) (o : Nat) (N B SS TT F : Int → Int) : CtV l yX8_back cX8_back 2 0 0 K [.ref o] (mW K o N B SS TT F) (Blk o 5) (fun (u : Unit) => True) (fun u => mW K o B B SS TT F) := by
  refine CtV_of (by decide) (Nat.le_of_ble_eq_true rfl) ?_
  intro p e s m args below meth c T hr hk hP hK ls hl
  have T : CF p m c cX8_back 2 s args RX8 := T
  have hS : va_S (Blk o 5) s.heap s.heap [] := va_S.rf
  have hl : lv_has ls 2 [(0, .ref o)] := hl
  refine xv_iconst T dX8_back_0 ?_
  refine lv_istore_n (lv' := [(1, .int (iI 0)), (0, .ref o)]) T.1 T.2.1 dX8_back_1 rfl hl (by decide) rfl (fun ls hl => ?_)
  have lp2 : ∀ (fuel : Nat) (i : Int) (NL : Int → Int) (H : Heap) (locs : List Loc) (ls : Array Slot), (0 ≤ i ∧ i ≤ 1055) → (∀ k : Int, 0 ≤ k → k < i → NL k = B k) → 1055 - i < (fuel : Int) → xP K (mW K o NL B SS TT F) H → va_S (Blk o 5) s.heap H locs → lv_has ls 2 [(0, .ref o), (1, .int (iI i))] → W p l e (rmF 0 0) s m args below meth c H locs 0 0 (MQ below (qV K (fun (u : Unit) => True) (fun u => mW K o B B SS TT F) (Blk o 5)) args s 0 0 (Blk o 5)) (F0 m 2 ls []) := by
    intro fuel
    induction fuel with
    | zero =>
      intro i NL H locs ls hi hB hm hP hS hl
      exact absurd hm (by omega)
    | succ fuel ih2 =>
      intro i NL H locs ls hi hB hm hP hS hl
      refine lv_iload_n T.1 T.2.1 dX8_back_2 rfl (lv_at hl 1 rfl) ?_
      refine xv_sipush T dX8_back_3 (by omega) ?_
      refine xv_icmp_ge T (by omega) (tgt := 27) dX8_back_6 (by decide) (fun c1 => ?_) (fun c1 => ?_)
      · skip
        have hP : xP K (mW K o B B SS TT F) H := m_agree (fun k a b => hB k a (by omega)) (fun _ _ _ => rfl) (fun _ _ _ => rfl) (fun _ _ _ => rfl) hP
        exact rV T (u := ()) hr hk hK hP hS dX8_back_27 (trivial)
      · skip
        refine lv_aload_n T.1 T.2.1 dX8_back_9 rfl (lv_at hl 0 rfl) ?_
        refine g8_now T hK hP 0 rfl rfl mw_3_175 dX8_back_10 ?_
        refine lv_iload_n T.1 T.2.1 dX8_back_13 rfl (lv_at hl 1 rfl) ?_
        refine lv_aload_n T.1 T.2.1 dX8_back_14 rfl (lv_at hl 0 rfl) ?_
        refine g8_before T hK hP 0 rfl rfl mw_3_176 dX8_back_15 ?_
        refine lv_iload_n T.1 T.2.1 dX8_back_18 rfl (lv_at hl 1 rfl) ?_
        refine xa_iald T hK hP 2 rfl rfl i (by omega) (by omega) (by decide) dX8_back_19 ?_
        refine xa_iast T hK hP (m_D K o NL B SS TT F) hS 1 rfl rfl (by omega) (by decide) dX8_back_20 (mu_N K o NL B SS TT F (B i) (by omega)) (fun H locs hP hS => ?_)
        obtain ⟨NM, hNM⟩ : ∃ Y0 : Int → Int, Y0 = uZ NL i (B i) := ⟨_, rfl⟩
        have hP : xP K (mW K o NM B SS TT F) H := by rw [hNM]; exact hP
        refine xv_iinc T (y := i + 1) (lv' := [(1, .int (iI (i + 1))), (0, .ref o)]) dX8_back_21 hl (q := 1) rfl (by omega) (by decide) rfl (fun ls hl => ?_)
        refine lv_goto T.1 T.2.1 (tgt := 2) dX8_back_24 (by decide) ?_
        exact ih2 (i + 1) NM _ _ ls (by omega) (fun k h1 h2 => by rw [hNM]; exact if h : k = i then (by rw [h, uZ_eq]) else (by rw [uZ_ne h]; exact hB k h1 (by omega))) (by omega) hP hS (lv_sub hl [1, 0] rfl)
  exact lp2 1056 0 N _ _ ls (by omega) (fun k h1 h2 => by omega) (by omega) hP hS (lv_sub hl [1, 0] rfl)
set_option maxHeartbeats 4000000 in
set_option maxRecDepth 100000 in
theorem c_X8_recorded (l : Launch) (K : KT) (o : Nat) (N B SS TT F : Int → Int) (an : Int) (hF0 : 0 ≤ F 0 ∧ F 0 ≤ 4) (hF1 : 0 ≤ F 1 ∧ F 1 < 4) : CtI l yX8_recorded cX8_recorded 3 .int 0 0 K [.ref o, .int (iI an)] (mW K o N B SS TT F) (Blk o 5) (fun (z : Int) (u : (Int → Int) × (Int → Int)) => z = an ∧ u = recP B SS F an) (fun u => mW K o N B u.1 TT u.2) := by
  refine CtI_of (by decide) (Nat.le_of_ble_eq_true rfl) ?_
  intro p e s m args below meth c T hr hk hP hK ls hl
  have T : CF p m c cX8_recorded 3 s args RX8 := T
  have hS : va_S (Blk o 5) s.heap s.heap [] := va_S.rf
  have hl : lv_has ls 3 [(0, .ref o), (1, .int (iI an))] := hl
  refine lv_iload_n T.1 T.2.1 dX8_recorded_0 rfl (lv_at hl 1 rfl) ?_
  refine xr_if_lt T (tgt := 74) dX8_recorded_1 (by decide) (fun c1 => ?_) (fun c1 => ?_)
  · skip
    refine lv_iload_n T.1 T.2.1 dX8_recorded_74 rfl (lv_at hl 1 rfl) ?_
    exact rI T (u := (SS, F)) hr hk hK hP hS dX8_recorded_75 (by unfold recP; first | (rw [if_pos (by assumption)]; exact ⟨rfl, rfl⟩) | (rw [if_neg (by assumption), show (1055 : Int) = i by omega, ← hS2, ← hmv, ← hFJ]; exact ⟨rfl, rfl⟩))
  · skip
    refine xv_iconst T dX8_recorded_4 ?_
    refine lv_istore_n (lv' := [(2, .int (iI 0)), (0, .ref o), (1, .int (iI an))]) T.1 T.2.1 dX8_recorded_5 rfl hl (by decide) rfl (fun ls hl => ?_)
    have lp6 : ∀ (fuel : Nat) (i : Int) (SSL : Int → Int) (H : Heap) (locs : List Loc) (ls : Array Slot), (0 ≤ i ∧ i ≤ 1055) → (SSL = recQ B SS (F 1) i) → 1055 - i < (fuel : Int) → xP K (mW K o N B SSL TT F) H → va_S (Blk o 5) s.heap H locs → lv_has ls 3 [(0, .ref o), (1, .int (iI an)), (2, .int (iI i))] → W p l e (rmF 0 0) s m args below meth c H locs 0 0 (MQ below (qI K (fun (z : Int) (u : (Int → Int) × (Int → Int)) => z = an ∧ u = recP B SS F an) (fun u => mW K o N B u.1 TT u.2) (Blk o 5)) args s 0 0 (Blk o 5)) (F0 m 6 ls []) := by
      intro fuel
      induction fuel with
      | zero =>
        intro i SSL H locs ls hi hS2 hm hP hS hl
        exact absurd hm (by omega)
      | succ fuel ih6 =>
        intro i SSL H locs ls hi hS2 hm hP hS hl
        refine lv_iload_n T.1 T.2.1 dX8_recorded_6 rfl (lv_at hl 2 rfl) ?_
        refine xv_sipush T dX8_recorded_7 (by omega) ?_
        refine xv_icmp_ge T (by omega) (tgt := 40) dX8_recorded_10 (by decide) (fun c2 => ?_) (fun c2 => ?_)
        · skip
          have jn71 : ∀ (mv : Int) (FJ : Int → Int) (H : Heap) (locs : List Loc) (ls : Array Slot), (FJ = uZ F 1 ((F 1 + 1) % 4)) → (mv = if F 0 < 4 then F 0 + 1 else 4) → xP K (mW K o N B SSL TT FJ) H → va_S (Blk o 5) s.heap H locs → lv_has ls 3 [(0, .ref o), (1, .int (iI an)), (2, .int (iI i))] → W p l e (rmF 0 0) s m args below meth c H locs 0 0 (MQ below (qI K (fun (z : Int) (u : (Int → Int) × (Int → Int)) => z = an ∧ u = recP B SS F an) (fun u => mW K o N B u.1 TT u.2) (Blk o 5)) args s 0 0 (Blk o 5)) (F0 m 71 ls [.int (iI mv), .ref o]) := by
            intro mv FJ H locs ls hFJ hmv hP hS hl
            refine p8_stateMany T hK hP (m_D K o N B SSL TT FJ) hS 0 rfl (Nat.le_of_ble_eq_true rfl) mw_3_179 dX8_recorded_71 (mu_F0 K o N B SSL TT FJ mv) (fun H locs hP hS => ?_)
            obtain ⟨F3, hF3⟩ : ∃ Y0 : Int → Int, Y0 = uZ FJ 0 mv := ⟨_, rfl⟩
            have hP : xP K (mW K o N B SSL TT F3) H := by rw [hF3]; exact hP
            refine lv_iload_n T.1 T.2.1 dX8_recorded_74 rfl (lv_at hl 1 rfl) ?_
            exact rI T (u := (SSL, F3)) hr hk hK hP hS dX8_recorded_75 (by rw [hF3]; unfold recP; first | (rw [if_pos (by assumption)]; exact ⟨rfl, rfl⟩) | (rw [if_neg (by assumption), show (1055 : Int) = i by omega, ← hS2, ← hmv, ← hFJ]; exact ⟨rfl, rfl⟩))
          refine lv_aload_n T.1 T.2.1 dX8_recorded_40 rfl (lv_at hl 0 rfl) ?_
          refine lv_aload_n T.1 T.2.1 dX8_recorded_41 rfl (lv_at hl 0 rfl) ?_
          refine g8_stateAt T hK hP 0 rfl (v := .int (iI (F 1))) rfl mw_3_180 dX8_recorded_42 ?_
          refine xv_iconst T dX8_recorded_45 ?_
          refine xv_iadd T dX8_recorded_46 ?_
          refine xv_iconst T dX8_recorded_47 ?_
          refine xv_irem T (by omega) (by omega) dX8_recorded_48 ?_
          refine p8_stateAt T hK hP (m_D K o N B SSL TT F) hS 0 rfl (Nat.le_of_ble_eq_true rfl) mw_3_180 dX8_recorded_49 (mu_F1 K o N B SSL TT F ((F 1 + 1) % 4)) (fun H locs hP hS => ?_)
          obtain ⟨FM, hFM⟩ : ∃ Y0 : Int → Int, Y0 = uZ F 1 ((F 1 + 1) % 4) := ⟨_, rfl⟩
          have hP : xP K (mW K o N B SSL TT FM) H := by rw [hFM]; exact hP
          refine lv_aload_n T.1 T.2.1 dX8_recorded_52 rfl (lv_at hl 0 rfl) ?_
          refine lv_aload_n T.1 T.2.1 dX8_recorded_53 rfl (lv_at hl 0 rfl) ?_
          refine g8_stateMany T hK hP 0 rfl (v := .int (iI (FM 0))) rfl mw_3_179 dX8_recorded_54 ?_
          refine xv_cv (b := F 0) (by rw [hFM, uZ_ne (by omega)]) ?_
          refine xv_iconst T dX8_recorded_57 ?_
          refine xv_icmp_ge T (by omega) (tgt := 70) dX8_recorded_58 (by decide) (fun c4 => ?_) (fun c4 => ?_)
          · skip
            refine xv_iconst T dX8_recorded_70 ?_
            exact jn71 4 FM _ _ ls hFM (by first | rw [if_pos (by omega)] | rw [if_neg (by omega)]) hP hS (lv_sub hl [0, 1, 2] rfl)
          · skip
            refine lv_aload_n T.1 T.2.1 dX8_recorded_61 rfl (lv_at hl 0 rfl) ?_
            refine g8_stateMany T hK hP 0 rfl (v := .int (iI (FM 0))) rfl mw_3_179 dX8_recorded_62 ?_
            refine xv_cv (b := F 0) (by rw [hFM, uZ_ne (by omega)]) ?_
            refine xv_iconst T dX8_recorded_65 ?_
            refine xv_iadd T dX8_recorded_66 ?_
            refine lv_goto T.1 T.2.1 (tgt := 71) dX8_recorded_67 (by decide) ?_
            exact jn71 (F 0 + 1) FM _ _ ls hFM (by first | rw [if_pos (by omega)] | rw [if_neg (by omega)]) hP hS (lv_sub hl [0, 1, 2] rfl)
        · skip
          refine lv_aload_n T.1 T.2.1 dX8_recorded_13 rfl (lv_at hl 0 rfl) ?_
          refine g8_states T hK hP 0 rfl rfl mw_3_177 dX8_recorded_14 ?_
          refine xv_sipush T dX8_recorded_17 (by omega) ?_
          refine lv_aload_n T.1 T.2.1 dX8_recorded_20 rfl (lv_at hl 0 rfl) ?_
          refine g8_stateAt T hK hP 0 rfl (v := .int (iI (F 1))) rfl mw_3_180 dX8_recorded_21 ?_
          refine xv_imul T dX8_recorded_24 ?_
          refine lv_iload_n T.1 T.2.1 dX8_recorded_25 rfl (lv_at hl 2 rfl) ?_
          refine xv_iadd T dX8_recorded_26 ?_
          refine lv_aload_n T.1 T.2.1 dX8_recorded_27 rfl (lv_at hl 0 rfl) ?_
          refine g8_before T hK hP 0 rfl rfl mw_3_176 dX8_recorded_28 ?_
          refine lv_iload_n T.1 T.2.1 dX8_recorded_31 rfl (lv_at hl 2 rfl) ?_
          refine xa_iald T hK hP 2 rfl rfl i (by omega) (by omega) (by decide) dX8_recorded_32 ?_
          refine xa_iast T hK hP (m_D K o N B SSL TT F) hS 3 rfl rfl (by omega) (by decide) dX8_recorded_33 (mu_SS K o N B SSL TT F (B i) (by omega)) (fun H locs hP hS => ?_)
          obtain ⟨SM, hSM⟩ : ∃ Y0 : Int → Int, Y0 = uZ SSL (1055 * (F 1) + i) (B i) := ⟨_, rfl⟩
          have hP : xP K (mW K o N B SM TT F) H := by rw [hSM]; exact hP
          refine xv_iinc T (y := i + 1) (lv' := [(2, .int (iI (i + 1))), (0, .ref o), (1, .int (iI an))]) dX8_recorded_34 hl (q := 2) rfl (by omega) (by decide) rfl (fun ls hl => ?_)
          refine lv_goto T.1 T.2.1 (tgt := 6) dX8_recorded_37 (by decide) ?_
          exact ih6 (i + 1) SM _ _ ls (by omega) (by rw [hSM, hS2, recQ_s (by omega)]) (by omega) hP hS (lv_sub hl [1, 2, 0] rfl)
    exact lp6 1056 0 SS _ _ ls (by omega) recQ_0.symm (by omega) hP hS (lv_sub hl [1, 2, 0] rfl)
set_option maxHeartbeats 4000000 in
set_option maxRecDepth 100000 in
theorem c_X8_undo (l : Launch) (K : KT) (o : Nat) (N B SS TT F : Int → Int) (hF0 : 0 ≤ F 0 ∧ F 0 ≤ 4) (hF1 : 0 ≤ F 1 ∧ F 1 < 4) : CtI l yX8_undo cX8_undo 2 .int 0 0 K [.ref o] (mW K o N B SS TT F) (Blk o 5) (fun (z : Int) (u : (Int → Int) × (Int → Int)) => (z, u) = undP N SS F) (fun u => mW K o u.1 B SS TT u.2) := by
  refine CtI_of (by decide) (Nat.le_of_ble_eq_true rfl) ?_
  intro p e s m args below meth c T hr hk hP hK ls hl
  have T : CF p m c cX8_undo 2 s args RX8 := T
  have hS : va_S (Blk o 5) s.heap s.heap [] := va_S.rf
  have hl : lv_has ls 2 [(0, .ref o)] := hl
  refine lv_aload_n T.1 T.2.1 dX8_undo_0 rfl (lv_at hl 0 rfl) ?_
  refine g8_stateMany T hK hP 0 rfl (v := .int (iI (F 0))) rfl mw_3_179 dX8_undo_1 ?_
  refine xv_if_ne T (by omega) (tgt := 10) dX8_undo_4 (by decide) (fun c1 => ?_) (fun c1 => ?_)
  · skip
    refine lv_aload_n T.1 T.2.1 dX8_undo_10 rfl (lv_at hl 0 rfl) ?_
    refine lv_aload_n T.1 T.2.1 dX8_undo_11 rfl (lv_at hl 0 rfl) ?_
    refine g8_stateAt T hK hP 0 rfl (v := .int (iI (F 1))) rfl mw_3_180 dX8_undo_12 ?_
    refine xv_iconst T dX8_undo_15 ?_
    refine xv_iadd T dX8_undo_16 ?_
    refine xv_iconst T dX8_undo_17 ?_
    refine xv_isub T dX8_undo_18 ?_
    refine xv_iconst T dX8_undo_19 ?_
    refine xv_irem T (by omega) (by omega) dX8_undo_20 ?_
    refine p8_stateAt T hK hP (m_D K o N B SS TT F) hS 0 rfl (Nat.le_of_ble_eq_true rfl) mw_3_180 dX8_undo_21 (mu_F1 K o N B SS TT F ((F 1 + 4 - 1) % 4)) (fun H locs hP hS => ?_)
    obtain ⟨FM, hFM⟩ : ∃ Y0 : Int → Int, Y0 = uZ F 1 ((F 1 + 4 - 1) % 4) := ⟨_, rfl⟩
    have hP : xP K (mW K o N B SS TT FM) H := by rw [hFM]; exact hP
    refine lv_aload_n T.1 T.2.1 dX8_undo_24 rfl (lv_at hl 0 rfl) ?_
    refine lv_dup T.1 T.2.1 dX8_undo_25 rfl ?_
    refine g8_stateMany T hK hP 0 rfl (v := .int (iI (FM 0))) rfl mw_3_179 dX8_undo_26 ?_
    refine xv_cv (b := F 0) (by rw [hFM, uZ_ne (by omega)]) ?_
    refine xv_iconst T dX8_undo_29 ?_
    refine xv_isub T dX8_undo_30 ?_
    refine p8_stateMany T hK hP (m_D K o N B SS TT FM) hS 0 rfl (Nat.le_of_ble_eq_true rfl) mw_3_179 dX8_undo_31 (mu_F0 K o N B SS TT FM (F 0 - 1)) (fun H locs hP hS => ?_)
    obtain ⟨FN, hFN⟩ : ∃ Y0 : Int → Int, Y0 = uZ FM 0 (F 0 - 1) := ⟨_, rfl⟩
    have hP : xP K (mW K o N B SS TT FN) H := by rw [hFN]; exact hP
    refine xv_iconst T dX8_undo_34 ?_
    refine lv_istore_n (lv' := [(1, .int (iI 0)), (0, .ref o)]) T.1 T.2.1 dX8_undo_35 rfl hl (by decide) rfl (fun ls hl => ?_)
    have lp36 : ∀ (fuel : Nat) (i : Int) (NL : Int → Int) (H : Heap) (locs : List Loc) (ls : Array Slot), (0 ≤ i ∧ i ≤ 1055) → (NL = unQ N SS ((F 1 + 4 - 1) % 4) i) → 1055 - i < (fuel : Int) → xP K (mW K o NL B SS TT FN) H → va_S (Blk o 5) s.heap H locs → lv_has ls 2 [(0, .ref o), (1, .int (iI i))] → W p l e (rmF 0 0) s m args below meth c H locs 0 0 (MQ below (qI K (fun (z : Int) (u : (Int → Int) × (Int → Int)) => (z, u) = undP N SS F) (fun u => mW K o u.1 B SS TT u.2) (Blk o 5)) args s 0 0 (Blk o 5)) (F0 m 36 ls []) := by
      intro fuel
      induction fuel with
      | zero =>
        intro i NL H locs ls hi hN2 hm hP hS hl
        exact absurd hm (by omega)
      | succ fuel ih36 =>
        intro i NL H locs ls hi hN2 hm hP hS hl
        refine lv_iload_n T.1 T.2.1 dX8_undo_36 rfl (lv_at hl 1 rfl) ?_
        refine xv_sipush T dX8_undo_37 (by omega) ?_
        refine xv_icmp_ge T (by omega) (tgt := 70) dX8_undo_40 (by decide) (fun c2 => ?_) (fun c2 => ?_)
        · skip
          refine lv_aload_n T.1 T.2.1 dX8_undo_70 rfl (lv_at hl 0 rfl) ?_
          refine g8_stateMany T hK hP 0 rfl (v := .int (iI (FN 0))) rfl mw_3_179 dX8_undo_71 ?_
          refine xv_cv (b := F 0 - 1) (by rw [hFN, uZ_eq]) ?_
          exact rI T (u := (NL, FN)) hr hk hK hP hS dX8_undo_74 (by rw [hN2, hFN, hFM, show i = 1055 by omega]; unfold undP; rw [if_neg (by omega)])
        · skip
          refine lv_aload_n T.1 T.2.1 dX8_undo_43 rfl (lv_at hl 0 rfl) ?_
          refine g8_now T hK hP 0 rfl rfl mw_3_175 dX8_undo_44 ?_
          refine lv_iload_n T.1 T.2.1 dX8_undo_47 rfl (lv_at hl 1 rfl) ?_
          refine lv_aload_n T.1 T.2.1 dX8_undo_48 rfl (lv_at hl 0 rfl) ?_
          refine g8_states T hK hP 0 rfl rfl mw_3_177 dX8_undo_49 ?_
          refine xv_sipush T dX8_undo_52 (by omega) ?_
          refine lv_aload_n T.1 T.2.1 dX8_undo_55 rfl (lv_at hl 0 rfl) ?_
          refine g8_stateAt T hK hP 0 rfl (v := .int (iI (FN 1))) rfl mw_3_180 dX8_undo_56 ?_
          refine xv_cv (b := (F 1 + 4 - 1) % 4) (by rw [hFN, uZ_ne (by omega), hFM, uZ_eq]) ?_
          refine xv_imul T dX8_undo_59 ?_
          refine lv_iload_n T.1 T.2.1 dX8_undo_60 rfl (lv_at hl 1 rfl) ?_
          refine xv_iadd T dX8_undo_61 ?_
          refine xa_iald T hK hP 3 rfl rfl (1055 * ((F 1 + 4 - 1) % 4) + i) (by omega) (by omega) (by decide) dX8_undo_62 ?_
          refine xa_iast T hK hP (m_D K o NL B SS TT FN) hS 1 rfl rfl (by omega) (by decide) dX8_undo_63 (mu_N K o NL B SS TT FN (SS (1055 * ((F 1 + 4 - 1) % 4) + i)) (by omega)) (fun H locs hP hS => ?_)
          obtain ⟨NM, hNM⟩ : ∃ Y0 : Int → Int, Y0 = uZ NL i (SS (1055 * ((F 1 + 4 - 1) % 4) + i)) := ⟨_, rfl⟩
          have hP : xP K (mW K o NM B SS TT FN) H := by rw [hNM]; exact hP
          refine xv_iinc T (y := i + 1) (lv' := [(1, .int (iI (i + 1))), (0, .ref o)]) dX8_undo_64 hl (q := 1) rfl (by omega) (by decide) rfl (fun ls hl => ?_)
          refine lv_goto T.1 T.2.1 (tgt := 36) dX8_undo_67 (by decide) ?_
          exact ih36 (i + 1) NM _ _ ls (by omega) (by rw [hNM, hN2, unQ_s (by omega)]) (by omega) hP hS (lv_sub hl [1, 0] rfl)
    exact lp36 1056 0 N _ _ ls (by omega) unQ_0.symm (by omega) hP hS (lv_sub hl [1, 0] rfl)
  · skip
    refine xv_bipush T dX8_undo_7 (by omega) ?_
    exact rI T (u := (N, F)) hr hk hK hP hS dX8_undo_9 (by unfold undP; rw [if_pos (by omega)])
