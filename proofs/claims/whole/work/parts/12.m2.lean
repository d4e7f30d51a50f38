set_option maxHeartbeats 4000000 in
set_option maxRecDepth 100000 in
theorem c_X8_takes (l : Launch) (K : KT) (o : Nat) (N B SS TT F : Int → Int) (b un re : Int) (r_b : 0 ≤ b ∧ b < N 6) (r_re : 0 ≤ re ∧ re < 4) (r_un : -2147483648 ≤ un ∧ un ≤ 2147483647) (hR : InR N) : CtI l yX8_takes cX8_takes 5 .int 0 0 K [.ref o, .int (iI b), .int (iI un), .int (iI re)] (mW K o N B SS TT F) (Blk o 5) (fun (z : Int) (u : Int → Int) => z = un * N (332 + b) ∧ u = takeF N b un re) (fun u => mW K o u B SS TT F) := by
  refine CtI_of (by decide) (Nat.le_of_ble_eq_true rfl) ?_
  intro p e s m args below meth c T hr hk hP hK ls hl
  have T : CF p m c cX8_takes 5 s args RX8 := T
  have hS : va_S (Blk o 5) s.heap s.heap [] := va_S.rf
  have hl : lv_has ls 5 [(0, .ref o), (1, .int (iI b)), (2, .int (iI un)), (3, .int (iI re))] := hl
  obtain ⟨hI0, hIB⟩ := id hR
  obtain ⟨b0, b1, b2, b3, b4, b5, b6, b7, b8, b9⟩ := id hI0
  have f0 := hIB b (by omega) (by omega)
  refine lv_iload_n T.1 T.2.1 dX8_takes_0 rfl (lv_at hl 2 rfl) ?_
  refine lv_aload_n T.1 T.2.1 dX8_takes_1 rfl (lv_at hl 0 rfl) ?_
  refine g8_now T hK hP 0 rfl rfl mw_3_175 dX8_takes_2 ?_
  refine xv_sipush T dX8_takes_5 (by omega) ?_
  refine lv_iload_n T.1 T.2.1 dX8_takes_8 rfl (lv_at hl 1 rfl) ?_
  refine xv_iadd T dX8_takes_9 ?_
  refine xa_iald T hK hP 1 rfl rfl (332 + b) (by omega) (by omega) (by decide) dX8_takes_10 ?_
  have f1 := hIB b (by omega) (by omega)
  refine xv_imul T dX8_takes_11 ?_
  refine lv_istore (lv' := [(4, .int (iI (un * (N (332 + b))))), (0, .ref o), (1, .int (iI b)), (2, .int (iI un)), (3, .int (iI re))]) T.1 T.2.1 dX8_takes_12 hl (by decide) rfl (fun ls hl => ?_)
  refine lv_aload_n T.1 T.2.1 dX8_takes_14 rfl (lv_at hl 1 rfl) ?_
  refine g8_now T hK hP 0 rfl rfl mw_3_175 dX8_takes_15 ?_
  refine xv_sipush T dX8_takes_18 (by omega) ?_
  refine lv_iload_n T.1 T.2.1 dX8_takes_21 rfl (lv_at hl 2 rfl) ?_
  refine xv_iadd T dX8_takes_22 ?_
  refine lv_dup2_11 T.1 T.2.1 dX8_takes_23 rfl rfl ?_
  refine xa_iald T hK hP 1 rfl rfl (272 + b) (by omega) (by omega) (by decide) dX8_takes_24 ?_
  refine lv_iload_n T.1 T.2.1 dX8_takes_25 rfl (lv_at hl 3 rfl) ?_
  refine xv_isub T dX8_takes_26 ?_
  refine xa_iast T hK hP (m_D K o N B SS TT F) hS 1 rfl rfl (by omega) (by decide) dX8_takes_27 (mu_N K o N B SS TT F (N (272 + b) - un) (by omega)) (fun H locs hP hS => ?_)
  obtain ⟨N2, hN2⟩ : ∃ Y0 : Int → Int, Y0 = uZ N (272 + b) (N (272 + b) - un) := ⟨_, rfl⟩
  have hP : xP K (mW K o N2 B SS TT F) H := by rw [hN2]; exact hP
  refine lv_aload_n T.1 T.2.1 dX8_takes_28 rfl (lv_at hl 1 rfl) ?_
  refine g8_now T hK hP 0 rfl rfl mw_3_175 dX8_takes_29 ?_
  refine xv_bipush T dX8_takes_32 (by omega) ?_
  refine lv_iload_n T.1 T.2.1 dX8_takes_34 rfl (lv_at hl 4 rfl) ?_
  refine xv_iadd T dX8_takes_35 ?_
  refine lv_dup2_11 T.1 T.2.1 dX8_takes_36 rfl rfl ?_
  refine xa_iald T hK hP 1 rfl rfl (10 + re) (by omega) (by omega) (by decide) dX8_takes_37 ?_
  refine xv_cv (b := N (10 + re)) (by rw [hN2, uZ_ne (by omega)]) ?_
  refine lv_iload T.1 T.2.1 dX8_takes_38 (lv_at hl 0 rfl) ?_
  refine xv_iadd T dX8_takes_40 ?_
  refine xa_iast T hK hP (m_D K o N2 B SS TT F) hS 1 rfl rfl (by omega) (by decide) dX8_takes_41 (mu_N K o N2 B SS TT F (N (10 + re) + (un * (N (332 + b)))) (by omega)) (fun H locs hP hS => ?_)
  obtain ⟨N3, hN3⟩ : ∃ Y0 : Int → Int, Y0 = uZ N2 (10 + re) (N (10 + re) + (un * (N (332 + b)))) := ⟨_, rfl⟩
  have hP : xP K (mW K o N3 B SS TT F) H := by rw [hN3]; exact hP
  refine lv_aload_n T.1 T.2.1 dX8_takes_42 rfl (lv_at hl 1 rfl) ?_
  refine g8_now T hK hP 0 rfl rfl mw_3_175 dX8_takes_43 ?_
  refine xv_bipush T dX8_takes_46 (by omega) ?_
  refine xv_iconst T dX8_takes_48 ?_
  refine lv_aload_n T.1 T.2.1 dX8_takes_49 rfl (lv_at hl 1 rfl) ?_
  refine g8_now T hK hP 0 rfl rfl mw_3_175 dX8_takes_50 ?_
  refine xv_sipush T dX8_takes_53 (by omega) ?_
  refine lv_iload_n T.1 T.2.1 dX8_takes_56 rfl (lv_at hl 2 rfl) ?_
  refine xv_iadd T dX8_takes_57 ?_
  refine xa_iald T hK hP 1 rfl rfl (152 + b) (by omega) (by omega) (by decide) dX8_takes_58 ?_
  refine xv_cv (b := N (152 + b)) (by rw [hN3, uZ_ne (by omega), hN2, uZ_ne (by omega)]) ?_
  refine xv_imul T dX8_takes_59 ?_
  refine xv_iadd T dX8_takes_60 ?_
  refine lv_iload_n T.1 T.2.1 dX8_takes_61 rfl (lv_at hl 4 rfl) ?_
  refine xv_iadd T dX8_takes_62 ?_
  refine lv_dup2_11 T.1 T.2.1 dX8_takes_63 rfl rfl ?_
  refine xa_iald T hK hP 1 rfl rfl (120 + 4 * (N (152 + b)) + re) (by omega) (by omega) (by decide) dX8_takes_64 ?_
  refine xv_cv (b := N (120 + 4 * (N (152 + b)) + re)) (by rw [hN3, uZ_ne (by omega), hN2, uZ_ne (by omega)]) ?_
  refine lv_iload_n T.1 T.2.1 dX8_takes_65 rfl (lv_at hl 3 rfl) ?_
  refine xv_iadd T dX8_takes_66 ?_
  refine xa_iast T hK hP (m_D K o N3 B SS TT F) hS 1 rfl rfl (by omega) (by decide) dX8_takes_67 (mu_N K o N3 B SS TT F (N (120 + 4 * (N (152 + b)) + re) + un) (by omega)) (fun H locs hP hS => ?_)
  obtain ⟨N4, hN4⟩ : ∃ Y0 : Int → Int, Y0 = uZ N3 (120 + (4 * (N (152 + b))) + re) (N (120 + 4 * (N (152 + b)) + re) + un) := ⟨_, rfl⟩
  have hP : xP K (mW K o N4 B SS TT F) H := by rw [hN4]; exact hP
  rw [show 120 + (4 * (N (152 + b))) + re = 120 + 4 * (N (152 + b)) + re by omega] at hN4
  refine lv_iload T.1 T.2.1 dX8_takes_68 (lv_at hl 0 rfl) ?_
  exact rI T (u := N4) hr hk hK hP hS dX8_takes_70 (by subst hN4 hN3 hN2; exact ⟨rfl, rfl⟩)
set_option maxHeartbeats 4000000 in
set_option maxRecDepth 100000 in
theorem c_X8_releases (l : Launch) (K : KT) (o : Nat) (N B SS TT F : Int → Int) (gd un re : Int) (r_gd : 0 ≤ gd ∧ gd < 8) (r_un : 0 ≤ un ∧ un ≤ 600000) (r_re : 0 ≤ re ∧ re < 4) (h_un : un ≤ restF N gd) (hR : InR N) : CtI l yX8_releases cX8_releases 8 .int 1 26 K [.ref o, .int (iI gd), .int (iI un), .int (iI re)] (mW K o N B SS TT F) (Blk o 5) (fun (z : Int) (u : Int → Int) => z = (relF un.toNat N gd un re).2 ∧ u = (relF un.toNat N gd un re).1) (fun u => mW K o u B SS TT F) := by
  refine CtI_of (by decide) (Nat.le_of_ble_eq_true rfl) ?_
  intro p e s m args below meth c T hr hk hP hK ls hl
  have T : CF p m c cX8_releases 8 s args RX8 := T
  have hS : va_S (Blk o 5) s.heap s.heap [] := va_S.rf
  have hl : lv_has ls 8 [(0, .ref o), (1, .int (iI gd)), (2, .int (iI un)), (3, .int (iI re))] := hl
  obtain ⟨hI0, hIB⟩ := id hR
  obtain ⟨b0, b1, b2, b3, b4, b5, b6, b7, b8, b9⟩ := id hI0
  refine xv_iconst T dX8_releases_0 ?_
  refine lv_istore (lv' := [(4, .int (iI 0)), (0, .ref o), (1, .int (iI gd)), (2, .int (iI un)), (3, .int (iI re))]) T.1 T.2.1 dX8_releases_1 hl (by decide) rfl (fun ls hl => ?_)
  refine lv_iload_n T.1 T.2.1 dX8_releases_3 rfl (lv_at hl 3 rfl) ?_
  refine lv_istore (lv' := [(5, .int (iI un)), (4, .int (iI 0)), (0, .ref o), (1, .int (iI gd)), (2, .int (iI un)), (3, .int (iI re))]) T.1 T.2.1 dX8_releases_4 hl (by decide) rfl (fun ls hl => ?_)
  have lp6 : ∀ (fuel : Nat) (acc : Int) (left : Int) (NL : Int → Int) (H : Heap) (locs : List Loc) (ls : Array Slot), (0 ≤ left ∧ left ≤ 600000) → (InR NL) → (left ≤ restF NL gd) → (∃ n : Nat, left ≤ (n : Int) ∧ relF un.toNat N gd un re = ((relF n NL gd left re).1, acc + (relF n NL gd left re).2)) → left < (fuel : Int) → xP K (mW K o NL B SS TT F) H → va_S (Blk o 5) s.heap H locs → lv_has ls 8 [(0, .ref o), (1, .int (iI gd)), (2, .int (iI un)), (3, .int (iI re)), (4, .int (iI acc)), (5, .int (iI left))] → W p l e (rmF 1 26) s m args below meth c H locs 0 0 (MQ below (qI K (fun (z : Int) (u : Int → Int) => z = (relF un.toNat N gd un re).2 ∧ u = (relF un.toNat N gd un re).1) (fun u => mW K o u B SS TT F) (Blk o 5)) args s 0 0 (Blk o 5)) (F0 m 6 ls []) := by
    intro fuel
    induction fuel with
    | zero =>
      intro acc left NL H locs ls hl0 hRL hrs hq hm hP hS hl
      exact absurd hm (by omega)
    | succ fuel ih6 =>
      intro acc left NL H locs ls hl0 hRL hrs hq hm hP hS hl
      obtain ⟨n, hn, hq⟩ := hq
      obtain ⟨c0, c1, c2, c3, c4, c5, c6, c7, c8, c9⟩ := id hRL.1
      refine lv_iload T.1 T.2.1 dX8_releases_6 (lv_at hl 5 rfl) ?_
      refine xv_if_le T (by omega) (tgt := 61) dX8_releases_8 (by decide) (fun c1 => ?_) (fun c1 => ?_)
      · skip
        refine lv_iload T.1 T.2.1 dX8_releases_61 (lv_at hl 4 rfl) ?_
        exact rI T (u := NL) hr hk hK hP hS dX8_releases_63 (by rw [hq, relF_0 (by omega)]; exact ⟨by omega, rfl⟩)
      · skip
        refine lv_aload_n T.1 T.2.1 dX8_releases_11 rfl (lv_at hl 0 rfl) ?_
        refine lv_iload_n T.1 T.2.1 dX8_releases_12 rfl (lv_at hl 1 rfl) ?_
        refine xv_iconst T dX8_releases_13 ?_
        refine cI_V T hK hP hS 0 rfl rfl rfl (c_X8_nextOf l K o NL B SS TT F gd (-1) (by omega) (by omega) hRL) iX8_nextOf mw_4_72 ⟨Nat.le_of_ble_eq_true rfl, Nat.le_of_ble_eq_true rfl⟩ hP noA rfl hl.1 rfl (Nat.le_of_ble_eq_true rfl) ⟨Nat.zero_le _, Nat.zero_le _⟩ dX8_releases_14 (fun bz _ H1 locs qz hP1 hg1 hg2 hS => ?_)
        have hP := xP_kept hP hg2
        generalize H1 = H at hP hS ⊢
        clear hg1 hg2 hP1
        obtain ⟨hz1, hz2⟩ := qz
        have hb := nx_pos (by omega) hz2
        have hf := hRL.2 bz (by omega) (by omega)
        refine lv_istore (lv' := [(6, .int (iI bz)), (0, .ref o), (1, .int (iI gd)), (2, .int (iI un)), (3, .int (iI re)), (4, .int (iI acc)), (5, .int (iI left))]) T.1 T.2.1 dX8_releases_17 hl (by decide) rfl (fun ls hl => ?_)
        refine lv_iload T.1 T.2.1 dX8_releases_19 (lv_at hl 6 rfl) ?_
        refine lv_aload_n T.1 T.2.1 dX8_releases_21 rfl (lv_at hl 1 rfl) ?_
        refine g8_now T hK hP 0 rfl rfl mw_3_175 dX8_releases_22 ?_
        refine xv_sipush T dX8_releases_25 (by omega) ?_
        refine lv_iload T.1 T.2.1 dX8_releases_28 (lv_at hl 0 rfl) ?_
        refine xv_iadd T dX8_releases_30 ?_
        refine xa_iald T hK hP 1 rfl rfl (272 + bz) (by omega) (by omega) (by decide) dX8_releases_31 ?_
        refine cI_S T hK hP hS (c_X8_least l K left (NL (272 + bz)) (by omega) (by omega)) iX8_least mw_4_88 ⟨Nat.le_of_ble_eq_true rfl, Nat.le_of_ble_eq_true rfl⟩ xP_nil noA rfl hl.1 rfl (Nat.le_of_ble_eq_true rfl) ⟨Nat.zero_le _, Nat.zero_le _⟩ dX8_releases_32 (fun bu _ H1 locs qb hP1 hg1 hg2 hS => ?_)
        have hP := xP_kept hP hg2
        generalize H1 = H at hP hS ⊢
        clear hg1 hg2 hP1
        refine lv_istore (lv' := [(7, .int (iI bu)), (6, .int (iI bz)), (0, .ref o), (1, .int (iI gd)), (2, .int (iI un)), (3, .int (iI re)), (4, .int (iI acc)), (5, .int (iI left))]) T.1 T.2.1 dX8_releases_35 hl (by decide) rfl (fun ls hl => ?_)
        refine lv_iload T.1 T.2.1 dX8_releases_37 (lv_at hl 6 rfl) ?_
        refine lv_aload_n T.1 T.2.1 dX8_releases_39 rfl (lv_at hl 2 rfl) ?_
        refine lv_iload T.1 T.2.1 dX8_releases_40 (lv_at hl 1 rfl) ?_
        refine lv_iload T.1 T.2.1 dX8_releases_42 (lv_at hl 0 rfl) ?_
        refine lv_iload_n T.1 T.2.1 dX8_releases_44 rfl (lv_at hl 5 rfl) ?_
        refine cI_V T hK hP hS 0 rfl rfl rfl (c_X8_takes l K o NL B SS TT F bz bu re (by omega) (by omega) (by omega) hRL) iX8_takes mw_4_91 ⟨Nat.le_of_ble_eq_true rfl, Nat.le_of_ble_eq_true rfl⟩ hP (fun _ h => h) rfl hl.1 rfl (Nat.le_of_ble_eq_true rfl) ⟨Nat.zero_le _, Nat.zero_le _⟩ dX8_releases_45 (fun bv NQ7 H1 locs q7 hP1 hg1 hg2 hS => ?_)
        have hP : xP K (mW K o NQ7 B SS TT F) H1 := hP1
        generalize H1 = H at hP hS ⊢
        clear hg1 hg2 hP1
        refine xv_iadd T dX8_releases_48 ?_
        refine lv_istore (lv' := [(4, .int (iI (acc + bv))), (7, .int (iI bu)), (6, .int (iI bz)), (0, .ref o), (1, .int (iI gd)), (2, .int (iI un)), (3, .int (iI re)), (5, .int (iI left))]) T.1 T.2.1 dX8_releases_49 hl (by decide) rfl (fun ls hl => ?_)
        refine lv_iload T.1 T.2.1 dX8_releases_51 (lv_at hl 7 rfl) ?_
        refine lv_iload T.1 T.2.1 dX8_releases_53 (lv_at hl 1 rfl) ?_
        refine xv_isub T dX8_releases_55 ?_
        refine lv_istore (lv' := [(5, .int (iI (left - bu))), (4, .int (iI (acc + bv))), (7, .int (iI bu)), (6, .int (iI bz)), (0, .ref o), (1, .int (iI gd)), (2, .int (iI un)), (3, .int (iI re))]) T.1 T.2.1 dX8_releases_56 hl (by decide) rfl (fun ls hl => ?_)
        refine lv_goto T.1 T.2.1 (tgt := 6) dX8_releases_58 (by decide) ?_
        obtain ⟨n, rfl⟩ : ∃ k : Nat, n = k + 1 := ⟨n - 1, by omega⟩
        have e1 := byF_of (N := NL) (g := gd) (p := -1) (u := left) (z := bu) (by rw [← hz1]; exact qb)
        obtain ⟨hv, hNQ7⟩ := q7
        have hgd : NL (152 + bz) = gd := by omega
        have t := takeF_rest (u := bu) (r := re) hRL hb.1 (by omega)
        rw [hgd] at t
        exact ih6 (acc + bv) (left - bu) NQ7 _ _ ls (by omega) (by rw [hNQ7]; exact takeF_R hRL hb.1 (by omega) (by omega)) (by rw [hNQ7, t]; omega) ⟨n, by omega, by rw [hq, relF_s (by omega), ← e1, ← hz1, hNQ7, hv, Int.add_assoc]⟩ (by omega) hP hS (lv_sub hl [4, 5, 6, 7, 1, 0] rfl)
  exact lp6 600001 0 un N _ _ ls (by omega) hR h_un ⟨un.toNat, by omega, by rw [Int.zero_add]⟩ (by omega) hP hS (lv_sub hl [2, 3, 4, 5, 1, 0] rfl)
set_option maxHeartbeats 4000000 in
set_option maxRecDepth 100000 in
theorem c_X8_worthOf (l : Launch) (K : KT) (o : Nat) (N B SS TT F : Int → Int) (gd un : Int) (r_gd : 0 ≤ gd ∧ gd < 8) (r_un : 0 ≤ un ∧ un ≤ 6000000) (hR : InR N) : CtL l yX8_worthOf cX8_worthOf 8 1 26 K [.ref o, .int (iI gd), .int (iI un)] (mW K o N B SS TT F) (NoA) (fun (z : Int) (_ : Unit) => z = worA N gd un) (fun _ => mW K o N B SS TT F) := by
  refine CtL_of (by decide) (Nat.le_of_ble_eq_true rfl) ?_
  intro p e s m args below meth c T hr hk hP hK ls hl
  have T : CF p m c cX8_worthOf 8 s args RX8 := T
  have hS : va_S (NoA) s.heap s.heap [] := va_S.rf
  have hl : lv_has ls 8 [(0, .ref o), (1, .int (iI gd)), (2, .int (iI un))] := hl
  obtain ⟨hI0, hIB⟩ := id hR
  obtain ⟨b0, b1, b2, b3, b4, b5, b6, b7, b8, b9⟩ := id hI0
  refine xv_lconst T (z := 0) dX8_worthOf_0 rfl ?_
  refine lv_lstore_n (lv' := [(3, .long (lI 0)), (0, .ref o), (1, .int (iI gd)), (2, .int (iI un))]) T.1 T.2.1 dX8_worthOf_1 rfl hl (by decide) rfl (fun ls hl => ?_)
  refine lv_iload_n T.1 T.2.1 dX8_worthOf_2 rfl (lv_at hl 3 rfl) ?_
  refine lv_istore (lv' := [(5, .int (iI un)), (3, .long (lI 0)), (0, .ref o), (1, .int (iI gd)), (2, .int (iI un))]) T.1 T.2.1 dX8_worthOf_3 hl (by decide) rfl (fun ls hl => ?_)
  refine lv_aload_n T.1 T.2.1 dX8_worthOf_5 rfl (lv_at hl 2 rfl) ?_
  refine lv_iload_n T.1 T.2.1 dX8_worthOf_6 rfl (lv_at hl 3 rfl) ?_
  refine xv_iconst T dX8_worthOf_7 ?_
  refine cI_V T hK hP hS 0 rfl rfl rfl (c_X8_nextOf l K o N B SS TT F gd (-1) (by omega) (by omega) hR) iX8_nextOf mw_4_72 ⟨Nat.le_of_ble_eq_true rfl, Nat.le_of_ble_eq_true rfl⟩ hP noA rfl hl.1 rfl (Nat.le_of_ble_eq_true rfl) ⟨Nat.zero_le _, Nat.zero_le _⟩ dX8_worthOf_8 (fun bz _ H1 locs qz hP1 hg1 hg2 hS => ?_)
  have hP := xP_kept hP hg2
  generalize H1 = H at hP hS ⊢
  clear hg1 hg2 hP1
  refine lv_istore (lv' := [(6, .int (iI bz)), (5, .int (iI un)), (3, .long (lI 0)), (0, .ref o), (1, .int (iI gd)), (2, .int (iI un))]) T.1 T.2.1 dX8_worthOf_11 hl (by decide) rfl (fun ls hl => ?_)
  have lp13 : ∀ (fuel : Nat) (acc : Int) (left : Int) (b : Int) (H : Heap) (locs : List Loc) (ls : Array Slot), (0 ≤ left ∧ left ≤ 6000000) → (b = -4 ∨ (0 ≤ b ∧ b < N 6)) → (∃ (n : Nat) (pp : Int), left ≤ (n : Int) ∧ b = nxt N gd pp ∧ worF un.toNat N gd (-1) un = (acc + (worF n N gd pp left).1, (worF n N gd pp left).2) ∧ (0 ≤ b → 0 < N (272 + b))) → left + (if b < 0 then 0 else 1) < (fuel : Int) → xP K (mW K o N B SS TT F) H → va_S (NoA) s.heap H locs → lv_has ls 8 [(0, .ref o), (1, .int (iI gd)), (2, .int (iI un)), (3, .long (lI acc)), (5, .int (iI left)), (6, .int (iI b))] → W p l e (rmF 1 26) s m args below meth c H locs 0 0 (MQ below (qL K (fun (z : Int) (_ : Unit) => z = worA N gd un) (fun _ => mW K o N B SS TT F) (NoA)) args s 0 0 (NoA)) (F0 m 13 ls []) := by
    intro fuel
    induction fuel with
    | zero =>
      intro acc left b H locs ls hl0 hb hq hm hP hS hl
      exact absurd hm (by split at hm <;> omega)
    | succ fuel ih13 =>
      intro acc left b H locs ls hl0 hb hq hm hP hS hl
      obtain ⟨n, pp, hn, hbn, hq, hpos⟩ := hq
      refine lv_iload T.1 T.2.1 dX8_worthOf_13 (lv_at hl 5 rfl) ?_
      refine xv_if_lt T (by omega) (tgt := 79) dX8_worthOf_15 (by decide) (fun c1 => ?_) (fun c1 => ?_)
      · skip
        refine lv_iload T.1 T.2.1 dX8_worthOf_79 (lv_at hl 4 rfl) ?_
        refine xv_if_le T (by omega) (tgt := 90) dX8_worthOf_81 (by decide) (fun c2 => ?_) (fun c2 => ?_)
        · skip
          have hw : worF un.toNat N gd (-1) un = (acc, left) := by rw [hq, worF_0 (by omega)]; simp
          refine lv_lload_n T.1 T.2.1 dX8_worthOf_90 rfl (lv_at hl 3 rfl) ?_
          exact rL T (u := ()) hr hk hK hP hS dX8_worthOf_91 (by unfold worA; rw [hw]; dsimp only; split <;> omega)
        · skip
          have hw : worF un.toNat N gd (-1) un = (acc, left) := by rw [hq, worF_0 (by omega)]; simp
          refine xv_ldc2 T mw_4_131 (n := (-1)) (by decide +kernel) dX8_worthOf_84 ?_
          refine lv_goto T.1 T.2.1 (tgt := 91) dX8_worthOf_87 (by decide) ?_
          exact rL T (u := ()) hr hk hK hP hS dX8_worthOf_91 (by unfold worA; rw [hw]; dsimp only; split <;> omega)
      · skip
        refine lv_iload T.1 T.2.1 dX8_worthOf_18 (lv_at hl 4 rfl) ?_
        refine xv_if_le T (by omega) (tgt := 79) dX8_worthOf_20 (by decide) (fun c3 => ?_) (fun c3 => ?_)
        · skip
          refine lv_iload T.1 T.2.1 dX8_worthOf_79 (lv_at hl 4 rfl) ?_
          refine xv_if_le T (by omega) (tgt := 90) dX8_worthOf_81 (by decide) (fun c4 => ?_) (fun c4 => ?_)
          · skip
            have hw : worF un.toNat N gd (-1) un = (acc, left) := by rw [hq, worF_0 (by omega)]; simp
            refine lv_lload_n T.1 T.2.1 dX8_worthOf_90 rfl (lv_at hl 3 rfl) ?_
            exact rL T (u := ()) hr hk hK hP hS dX8_worthOf_91 (by unfold worA; rw [hw]; dsimp only; split <;> omega)
          · skip
            have hw : worF un.toNat N gd (-1) un = (acc, left) := by rw [hq, worF_0 (by omega)]; simp
            refine xv_ldc2 T mw_4_131 (n := (-1)) (by decide +kernel) dX8_worthOf_84 ?_
            refine lv_goto T.1 T.2.1 (tgt := 91) dX8_worthOf_87 (by decide) ?_
            exact rL T (u := ()) hr hk hK hP hS dX8_worthOf_91 (by unfold worA; rw [hw]; dsimp only; split <;> omega)
        · skip
          refine lv_iload T.1 T.2.1 dX8_worthOf_23 (lv_at hl 4 rfl) ?_
          refine lv_aload_n T.1 T.2.1 dX8_worthOf_25 rfl (lv_at hl 0 rfl) ?_
          refine g8_now T hK hP 0 rfl rfl mw_3_175 dX8_worthOf_26 ?_
          refine xv_sipush T dX8_worthOf_29 (by omega) ?_
          refine lv_iload T.1 T.2.1 dX8_worthOf_32 (lv_at hl 5 rfl) ?_
          refine xv_iadd T dX8_worthOf_34 ?_
          refine xa_iald T hK hP 1 rfl rfl (272 + b) (by omega) (by omega) (by decide) dX8_worthOf_35 ?_
          have f5 := hIB b (by omega) (by omega)
          refine cI_S T hK hP hS (c_X8_least l K left (N (272 + b)) (by omega) (by omega)) iX8_least mw_4_88 ⟨Nat.le_of_ble_eq_true rfl, Nat.le_of_ble_eq_true rfl⟩ xP_nil noA rfl hl.1 rfl (Nat.le_of_ble_eq_true rfl) ⟨Nat.zero_le _, Nat.zero_le _⟩ dX8_worthOf_36 (fun bu _ H1 locs qb hP1 hg1 hg2 hS => ?_)
          have hP := xP_kept hP hg2
          generalize H1 = H at hP hS ⊢
          clear hg1 hg2 hP1
          refine lv_istore (lv' := [(7, .int (iI bu)), (0, .ref o), (1, .int (iI gd)), (2, .int (iI un)), (3, .long (lI acc)), (5, .int (iI left)), (6, .int (iI b))]) T.1 T.2.1 dX8_worthOf_39 hl (by decide) rfl (fun ls hl => ?_)
          refine lv_lload_n T.1 T.2.1 dX8_worthOf_41 rfl (lv_at hl 4 rfl) ?_
          refine lv_iload T.1 T.2.1 dX8_worthOf_42 (lv_at hl 0 rfl) ?_
          refine xv_i2l T (by omega) dX8_worthOf_44 ?_
          refine lv_aload_n T.1 T.2.1 dX8_worthOf_45 rfl (lv_at hl 1 rfl) ?_
          refine g8_now T hK hP 0 rfl rfl mw_3_175 dX8_worthOf_46 ?_
          refine xv_sipush T dX8_worthOf_49 (by omega) ?_
          refine lv_iload T.1 T.2.1 dX8_worthOf_52 (lv_at hl 6 rfl) ?_
          refine xv_iadd T dX8_worthOf_54 ?_
          refine xa_iald T hK hP 1 rfl rfl (332 + b) (by omega) (by omega) (by decide) dX8_worthOf_55 ?_
          refine xv_i2l T (by omega) dX8_worthOf_56 ?_
          refine xv_lmul T dX8_worthOf_57 ?_
          refine xv_ladd T dX8_worthOf_58 ?_
          refine lv_lstore_n (lv' := [(3, .long (lI (acc + (bu * (N (332 + b)))))), (7, .int (iI bu)), (0, .ref o), (1, .int (iI gd)), (2, .int (iI un)), (5, .int (iI left)), (6, .int (iI b))]) T.1 T.2.1 dX8_worthOf_59 rfl hl (by decide) rfl (fun ls hl => ?_)
          refine lv_iload T.1 T.2.1 dX8_worthOf_60 (lv_at hl 5 rfl) ?_
          refine lv_iload T.1 T.2.1 dX8_worthOf_62 (lv_at hl 1 rfl) ?_
          refine xv_isub T dX8_worthOf_64 ?_
          refine lv_istore (lv' := [(5, .int (iI (left - bu))), (3, .long (lI (acc + (bu * (N (332 + b)))))), (7, .int (iI bu)), (0, .ref o), (1, .int (iI gd)), (2, .int (iI un)), (6, .int (iI b))]) T.1 T.2.1 dX8_worthOf_65 hl (by decide) rfl (fun ls hl => ?_)
          refine lv_aload_n T.1 T.2.1 dX8_worthOf_67 rfl (lv_at hl 3 rfl) ?_
          refine lv_iload_n T.1 T.2.1 dX8_worthOf_68 rfl (lv_at hl 4 rfl) ?_
          refine lv_iload T.1 T.2.1 dX8_worthOf_69 (lv_at hl 6 rfl) ?_
          refine cI_V T hK hP hS 0 rfl rfl rfl (c_X8_nextOf l K o N B SS TT F gd b (by omega) (by omega) hR) iX8_nextOf mw_4_72 ⟨Nat.le_of_ble_eq_true rfl, Nat.le_of_ble_eq_true rfl⟩ hP noA rfl hl.1 rfl (Nat.le_of_ble_eq_true rfl) ⟨Nat.zero_le _, Nat.zero_le _⟩ dX8_worthOf_71 (fun by2 _ H1 locs qy hP1 hg1 hg2 hS => ?_)
          have hP := xP_kept hP hg2
          generalize H1 = H at hP hS ⊢
          clear hg1 hg2 hP1
          refine lv_istore (lv' := [(6, .int (iI by2)), (5, .int (iI (left - bu))), (3, .long (lI (acc + (bu * (N (332 + b)))))), (7, .int (iI bu)), (0, .ref o), (1, .int (iI gd)), (2, .int (iI un))]) T.1 T.2.1 dX8_worthOf_74 hl (by decide) rfl (fun ls hl => ?_)
          refine lv_goto T.1 T.2.1 (tgt := 13) dX8_worthOf_76 (by decide) ?_
          obtain ⟨n, rfl⟩ : ∃ k : Nat, n = k + 1 := ⟨n - 1, by omega⟩
          have e1 := byF_of (N := N) (g := gd) (p := pp) (u := left) (z := bu) (by rw [← hbn]; exact qb)
          exact ih13 (acc + (bu * (N (332 + b)))) (left - bu) by2 _ _ ls (by omega) (by have := nxt_or N gd b; rw [← qy.1] at this; exact this) ⟨n, b, by omega, qy.1, by rw [hq, worF_s (by omega) (by omega), ← e1, ← hbn, Int.add_assoc], isNx_pos qy.2⟩ (by split at hm <;> split <;> omega) hP hS (lv_sub hl [4, 5, 6, 2, 1, 0] rfl)
  exact lp13 6000003 0 un bz _ _ ls (by omega) (by have := nxt_or N gd (-1); rw [← qz.1] at this; exact this) ⟨un.toNat, -1, by omega, qz.1, by rw [Int.zero_add], isNx_pos qz.2⟩ (by omega) hP hS (lv_sub hl [3, 4, 5, 2, 1, 0] rfl)
